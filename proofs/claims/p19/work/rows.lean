section
-- ===== PART A: goes FIRST, ahead of the names: the tables' words, and 'selects' of the private methods out of them =====
/-- a private method of a class that the tables say can be made, by its rows of tables_1 -/
def lw_okq (q : MethodName × Nat) : Prop := (q.1.cls ≠ "java/lang/invoke/MethodHandle" ∧ q.1.cls ≠ "java/lang/invoke/VarHandle") ∧ Cond.instantiable q.1.cls q.2 ∈ tables_1 ∧ Cond.privateMethod q.1 ∈ tables_1 ∧ Cond.instanceMethod q.1 ∈ tables_1
theorem lw_p0 : lw_okq (⟨"java/lang/Throwable", "fillInStackTrace", "(I)Ljava/lang/Throwable;"⟩, 6) := ⟨⟨by decide +kernel, by decide +kernel⟩, List.mem_of_getElem? (i := 176) (by decide +kernel), List.mem_of_getElem? (i := 174) (by decide +kernel), List.mem_of_getElem? (i := 175) (by decide +kernel)⟩
theorem lw_p1 : lw_okq (⟨"StampSheets$Machine", "markRow", "(I[ZLStampSheets$Sheet;)V"⟩, 7) := ⟨⟨by decide +kernel, by decide +kernel⟩, List.mem_of_getElem? (i := 23) (by decide +kernel), List.mem_of_getElem? (i := 210) (by decide +kernel), List.mem_of_getElem? (i := 211) (by decide +kernel)⟩
theorem lw_p2 : lw_okq (⟨"StampSheets$Machine", "holeFaults", "(I)I"⟩, 7) := ⟨⟨by decide +kernel, by decide +kernel⟩, List.mem_of_getElem? (i := 23) (by decide +kernel), List.mem_of_getElem? (i := 217) (by decide +kernel), List.mem_of_getElem? (i := 218) (by decide +kernel)⟩
theorem lw_p3 : lw_okq (⟨"StampSheets$Machine", "hasWatermark", "(I)Z"⟩, 7) := ⟨⟨by decide +kernel, by decide +kernel⟩, List.mem_of_getElem? (i := 23) (by decide +kernel), List.mem_of_getElem? (i := 225) (by decide +kernel), List.mem_of_getElem? (i := 226) (by decide +kernel)⟩
theorem lw_p4 : lw_okq (⟨"StampSheets$Machine", "strikeAll", "()V"⟩, 7) := ⟨⟨by decide +kernel, by decide +kernel⟩, List.mem_of_getElem? (i := 23) (by decide +kernel), List.mem_of_getElem? (i := 229) (by decide +kernel), List.mem_of_getElem? (i := 230) (by decide +kernel)⟩
theorem lw_p5 : lw_okq (⟨"StampSheets", "checkSheet", "(I)V"⟩, 5) := ⟨⟨by decide +kernel, by decide +kernel⟩, List.mem_of_getElem? (i := 15) (by decide +kernel), List.mem_of_getElem? (i := 248) (by decide +kernel), List.mem_of_getElem? (i := 249) (by decide +kernel)⟩
theorem lw_p6 : lw_okq (⟨"StampSheets$Sheet", "left", "()I"⟩, 2) := ⟨⟨by decide +kernel, by decide +kernel⟩, List.mem_of_getElem? (i := 84) (by decide +kernel), List.mem_of_getElem? (i := 285) (by decide +kernel), List.mem_of_getElem? (i := 286) (by decide +kernel)⟩
theorem lw_p7 : lw_okq (⟨"StampSheets$Sheet", "isLeftWith", "(II)Z"⟩, 2) := ⟨⟨by decide +kernel, by decide +kernel⟩, List.mem_of_getElem? (i := 84) (by decide +kernel), List.mem_of_getElem? (i := 293) (by decide +kernel), List.mem_of_getElem? (i := 294) (by decide +kernel)⟩
theorem lw_p8 : lw_okq (⟨"StampSheets$Sheet", "invertedPairs", "()I"⟩, 2) := ⟨⟨by decide +kernel, by decide +kernel⟩, List.mem_of_getElem? (i := 84) (by decide +kernel), List.mem_of_getElem? (i := 305) (by decide +kernel), List.mem_of_getElem? (i := 306) (by decide +kernel)⟩
theorem lw_p9 : lw_okq (⟨"StampSheets$Sheet", "isInvertedPair", "(I)Z"⟩, 2) := ⟨⟨by decide +kernel, by decide +kernel⟩, List.mem_of_getElem? (i := 84) (by decide +kernel), List.mem_of_getElem? (i := 309) (by decide +kernel), List.mem_of_getElem? (i := 310) (by decide +kernel)⟩
theorem lw_p10 : lw_okq (⟨"StampSheets$Sheet", "rowsOff", "()I"⟩, 2) := ⟨⟨by decide +kernel, by decide +kernel⟩, List.mem_of_getElem? (i := 84) (by decide +kernel), List.mem_of_getElem? (i := 313) (by decide +kernel), List.mem_of_getElem? (i := 314) (by decide +kernel)⟩
theorem lw_p11 : lw_okq (⟨"StampSheets$Sheet", "greatestBlock", "()I"⟩, 2) := ⟨⟨by decide +kernel, by decide +kernel⟩, List.mem_of_getElem? (i := 84) (by decide +kernel), List.mem_of_getElem? (i := 317) (by decide +kernel), List.mem_of_getElem? (i := 318) (by decide +kernel)⟩
theorem lw_p12 : lw_okq (⟨"StampSheets$Sheet", "goodColumns", "(I)I"⟩, 2) := ⟨⟨by decide +kernel, by decide +kernel⟩, List.mem_of_getElem? (i := 84) (by decide +kernel), List.mem_of_getElem? (i := 321) (by decide +kernel), List.mem_of_getElem? (i := 322) (by decide +kernel)⟩
theorem lw_p13 : lw_okq (⟨"StampSheets", "countAnswer", "(I)I"⟩, 5) := ⟨⟨by decide +kernel, by decide +kernel⟩, List.mem_of_getElem? (i := 15) (by decide +kernel), List.mem_of_getElem? (i := 345) (by decide +kernel), List.mem_of_getElem? (i := 346) (by decide +kernel)⟩
theorem lw_p14 : lw_okq (⟨"StampSheets", "invertedPlaces", "()I"⟩, 5) := ⟨⟨by decide +kernel, by decide +kernel⟩, List.mem_of_getElem? (i := 15) (by decide +kernel), List.mem_of_getElem? (i := 353) (by decide +kernel), List.mem_of_getElem? (i := 354) (by decide +kernel)⟩
theorem lw_p15 : lw_okq (⟨"StampSheets", "worthOfSheets", "()I"⟩, 5) := ⟨⟨by decide +kernel, by decide +kernel⟩, List.mem_of_getElem? (i := 15) (by decide +kernel), List.mem_of_getElem? (i := 357) (by decide +kernel), List.mem_of_getElem? (i := 358) (by decide +kernel)⟩
def lw_privs_1 : List (MethodName × Nat) := [(⟨"java/lang/Throwable", "fillInStackTrace", "(I)Ljava/lang/Throwable;"⟩, 6), (⟨"StampSheets$Machine", "markRow", "(I[ZLStampSheets$Sheet;)V"⟩, 7), (⟨"StampSheets$Machine", "holeFaults", "(I)I"⟩, 7), (⟨"StampSheets$Machine", "hasWatermark", "(I)Z"⟩, 7), (⟨"StampSheets$Machine", "strikeAll", "()V"⟩, 7), (⟨"StampSheets", "checkSheet", "(I)V"⟩, 5), (⟨"StampSheets$Sheet", "left", "()I"⟩, 2), (⟨"StampSheets$Sheet", "isLeftWith", "(II)Z"⟩, 2), (⟨"StampSheets$Sheet", "invertedPairs", "()I"⟩, 2), (⟨"StampSheets$Sheet", "isInvertedPair", "(I)Z"⟩, 2), (⟨"StampSheets$Sheet", "rowsOff", "()I"⟩, 2), (⟨"StampSheets$Sheet", "greatestBlock", "()I"⟩, 2), (⟨"StampSheets$Sheet", "goodColumns", "(I)I"⟩, 2), (⟨"StampSheets", "countAnswer", "(I)I"⟩, 5), (⟨"StampSheets", "invertedPlaces", "()I"⟩, 5), (⟨"StampSheets", "worthOfSheets", "()I"⟩, 5)]
theorem lw_r1 : ∀ q ∈ lw_privs_1, lw_okq q := List.forall_mem_cons.mpr ⟨lw_p0, List.forall_mem_cons.mpr ⟨lw_p1, List.forall_mem_cons.mpr ⟨lw_p2, List.forall_mem_cons.mpr ⟨lw_p3, List.forall_mem_cons.mpr ⟨lw_p4, List.forall_mem_cons.mpr ⟨lw_p5, List.forall_mem_cons.mpr ⟨lw_p6, List.forall_mem_cons.mpr ⟨lw_p7, List.forall_mem_cons.mpr ⟨lw_p8, List.forall_mem_cons.mpr ⟨lw_p9, List.forall_mem_cons.mpr ⟨lw_p10, List.forall_mem_cons.mpr ⟨lw_p11, List.forall_mem_cons.mpr ⟨lw_p12, List.forall_mem_cons.mpr ⟨lw_p13, List.forall_mem_cons.mpr ⟨lw_p14, List.forall_mem_cons.mpr ⟨lw_p15, fun _ h => absurd h List.not_mem_nil⟩⟩⟩⟩⟩⟩⟩⟩⟩⟩⟩⟩⟩⟩⟩⟩
theorem lw_p16 : lw_okq (⟨"StampSheets", "stampsWith", "(I)I"⟩, 5) := ⟨⟨by decide +kernel, by decide +kernel⟩, List.mem_of_getElem? (i := 15) (by decide +kernel), List.mem_of_getElem? (i := 410) (by decide +kernel), List.mem_of_getElem? (i := 411) (by decide +kernel)⟩
def lw_privs_2 : List (MethodName × Nat) := [(⟨"StampSheets", "stampsWith", "(I)I"⟩, 5)]
theorem lw_r2 : ∀ q ∈ lw_privs_2, lw_okq q := List.forall_mem_cons.mpr ⟨lw_p16, fun _ h => absurd h List.not_mem_nil⟩
def lw_privs : List (MethodName × Nat) := lw_privs_1 ++ (lw_privs_2)
def lw_tbl : List Cond := k2_sels lw_privs ++ tables_1
theorem lw_privs_ok : ∀ q ∈ lw_privs, lw_okq q := by
  show ∀ q ∈ lw_privs_1 ++ (lw_privs_2), lw_okq q
  exact List.forall_mem_append.mpr ⟨lw_r1, lw_r2⟩
/-- the streams that the claim lets the run draw from -/
abbrev lw_cs : List Choice := [Jvm.Choice.named "NaN.bits"]
theorem lw_bits : nanBits ∈ lw_cs := by first | decide | exact List.mem_cons_self | simp [lw_cs, nanBits]
end
section
/-! ===== BEGIN words of one list among another's, by their places ===== -/
theorem goodIn_r {big : List Cond} (ws : List Cond) (ps : List Nat) (hp : ws = ps.filterMap (fun i => big[i]?)) (h : ws.all goodWord = true) : GoodIn big ws := by
  intro w hw
  have h1 := List.all_eq_true.mp h w hw
  rw [hp] at hw
  obtain ⟨i, -, hi⟩ := List.mem_filterMap.mp hw
  have hm : w ∈ big := by first | exact List.mem_of_getElem? hi | exact List.getElem?_mem hi
  exact ⟨hm, good_of_word h1⟩
theorem goodIn_app {big a b : List Cond} (ha : GoodIn big a) (hb : GoodIn big b) : GoodIn big (a ++ b) := fun w h => (List.mem_append.mp h).elim (ha w) (hb w)
theorem goodIn_ca {big a b : List Cond} {c : Cond} (ha : GoodIn big (c :: a)) (hb : GoodIn big b) : GoodIn big (c :: (a ++ b)) := fun w h => (List.mem_cons.mp h).elim (fun e => ha w (List.mem_cons.mpr (Or.inl e))) (fun h => (List.mem_append.mp h).elim (fun h => ha w (List.mem_cons.mpr (Or.inr h))) (hb w))
theorem goodIn_sub {big ws : List Cond} (hm : ∀ w ∈ ws, w ∈ big) (h : ws.all goodWord = true) : GoodIn big ws := fun w hw => ⟨hm w hw, good_of_word (List.all_eq_true.mp h w hw)⟩
/-! ===== END ===== -/


/-! ===== BEGIN exceptions that leave a method, and their catching by the caller (launches without stack traces) ===== -/
section VXA
/-! The laws vx_back, vx_callV, vx_callS, vx_callSW, vx_throw0, vx_throwS follow proofs of the library, with one case more: JvmDerived/Free/Laws.lean (Back.of_free), Shelf42/LK1.lean (callV, callS), Shelf/KitTraced.lean (throwNew0V, throwNewS). -/
/-- where a method has thrown q: the class by its name, the cell, what was written, the world -/
def vx_T (XC : String → State → State → Prop) (st : State) (q : Addr) (t : State) (mc ms : Nat) (free : Addr → Prop) : Prop :=
  ∃ (E : String) (ce : Cell) (L : List Loc), XC E st t ∧ t.heap[q]? = some ce ∧ ce.vm = .none ∧ st.vm.findClass E = some ce.cls ∧ st.WarmedH t.vm ∧ st.sameButNew ({ t with vm := st.vm } : State) L mc ms ∧ ∀ z ∈ L, free z.base
def vx_Q (Qc : Array Value → State → Outcome → State → Prop) (XC : String → State → State → Prop) (mc ms : Nat) (free : Addr → Prop) : Array Value → State → Outcome → State → Prop := fun a st o t =>
  (Qc a st o t ∧ ∃ L, FrameEnd st o t L mc ms ∧ ∀ q ∈ L, free q.base) ∨ ∃ q, o = .threw q ∧ vx_T XC st q t mc ms free
/-- a callee that returns or throws -/
def vx_Met (l : Launch) (y : MethodName) (ws : List Cond) (rm : Room) (Pc : Array Value → State → Prop) (Qc : Array Value → State → Outcome → State → Prop) (XC : String → State → State → Prop) (mc ms : Nat) (free : Addr → Prop) : Prop :=
  MetFree l y (headSpec ws rm) Pc (fun _ _ _ _ _ => True) (vx_Q Qc XC mc ms free)
def vx_Post (XC : String → State → State → Prop) (mc ms : Nat) (free : Addr → Prop) : Pt → Array Value → Addr → Pt → Prop := fun A a q B =>
  ∃ (g : JFrame) (mk : MethodId) (t : State) (L : List Loc) (E : String) (ce : Cell), B.U.heap = t.heap ∧ B.U.vm = t.vm ∧ XC E (A.U.calling g mk a) t ∧ t.heap[q]? = some ce ∧ ce.vm = .none ∧ A.U.vm.findClass E = some ce.cls ∧ B.locs = A.locs ++ L ∧ (∀ z ∈ L, free z.base) ∧ B.cells = A.cells + mc ∧ B.slots = A.slots + ms
def vx_Back (l : Launch) (R : Room) (p : Program) (e : Env) (below : List Frame) (s : State) (sargs : Array Value) (y : MethodName) (len W9 : Nat)
    (Pre : Pt → Array Value → Prop) (Post : Pt → Array Value → Option Value → Pt → Prop) (PostX : Pt → Array Value → Addr → Pt → Prop) : Prop :=
  ∀ (m : MethodId) (meth : Method) (c : Code) (A : Pt) (g : JFrame) (ig : Instr) (mk : MethodId) (a : Array Value),
    Stand p l e R s m sargs below meth c A.U A.locs A.cells A.slots → g.method = m → g.locals.size = c.maxLocals → decode c.code g.pc = .ok (ig, len) →
    2 * g.monitorRoom + (g.stack.map fun v => v.category).sum ≤ W9 → A.U.methodNamed? y = some mk → Pre A a →
    (∃ (v : Option Value) (B : Pt), Stand p l e R s m sargs below meth c B.U B.locs B.cells B.slots ∧ Post A a v B ∧
      Steps p.tables e below (doInvoke e (A.U.setTop g) [] mk a).1 (B.U.setTop { g with pc := g.pc + len, stack := v.toList ++ g.stack })) ∨
    (∃ (q : Addr) (B : Pt), Stand p l e R s m sargs below meth c B.U B.locs B.cells B.slots ∧ PostX A a q B ∧
      Steps p.tables e below (doInvoke e (A.U.setTop g) [] mk a).1 ((B.U.setTop g).pushFrame (.throwing q)))
section Payer
variable {l : Launch} {R : Room} {p : Program} {e : Env} {below : List Frame} {s : State} {sargs : Array Value} {y : MethodName} {len W9 : Nat}
theorem vx_back {ws : List Cond} {rm : Room} {Pc : Array Value → State → Prop} {Qc : Array Value → State → Outcome → State → Prop} {XC : String → State → State → Prop} {mc ms : Nat} {free : Addr → Prop} {bytes : ByteArray} {maxL : Nat} {ret : Option FieldType}
    (hM : vx_Met l y ws rm Pc Qc XC mc ms free) (hblind : FrameBlind Pc) (hrc : rm.cells = mc) (hrs : rm.slots = ms)
    (hframes : rm.frames + 1 ≤ R.frames) (hlocals : W9 + (maxL + 11) + rm.locals ≤ R.locals)
    (hws : ∀ w ∈ ws, ∀ a' U, s.WarmedH U.vm → w.before a' U = true) (hcode : Cond.code y bytes maxL ret ∈ ws) (hinit : ∀ a' U, s.WarmedH U.vm → (Cond.initialized y.cls).before a' U = true) :
    vx_Back l R p e below s sargs y len W9 (PreOf R mc ms Pc) (PostOf Qc mc ms free) (vx_Post XC mc ms free) := by
  intro m meth c A g ig mk a X hg hsize hdg hW hn hp
  have h1 : (headSpec ws rm).pre.before a A.U = true := atoms_intro fun w hw => hws w hw _ _ X.warmed
  have h2 : (Cond.code y bytes maxL ret).before a A.U = true := hws _ hcode _ _ X.warmed
  have h3 : (Cond.initialized y.cls).before a A.U = true := hinit _ _ X.warmed
  have h4 : A.cells + (headSpec ws rm).room.cells ≤ R.cells := by rw [show (headSpec ws rm).room.cells = mc from hrc]; exact hp.1
  have h5 : A.slots + (headSpec ws rm).room.slots ≤ R.slots := by rw [show (headSpec ws rm).room.slots = ms from hrs]; exact hp.2.1
  have hPc : Pc a (A.U.calling g mk a) := hblind _ _ _ _ hp.2.2
  obtain ⟨U, Ls, c0, s0⟩ := A
  dsimp only [Pt.U, Pt.locs, Pt.cells, Pt.slots] at h1 h2 h3 h4 h5 X hn hPc ⊢
  obtain ⟨methY, cY, hmY, hcY, -, hlY, -, -, -, -⟩ := Cond.code_spec hn h2
  obtain ⟨kY, hkY, -⟩ := className_of_methodNamed hn
  have hinitY : kY.init = .initialized := Cond.initialized_spec (findClass_of_methodNamed hn) hkY h3
  have h : At U g.method c below := by rw [hg]; exact X.here
  have hlocals9 : W9 + (maxL + 11) + (headSpec ws rm).room.locals ≤ R.locals := hlocals
  have happ : (headSpec ws rm).appliesLoose y e.platform (U.calling g mk a) = true :=
    Spec.appliesLoose_calling (g := g) h hdg hn hkY hinitY
      (X.room_calling (g := g) (R' := (headSpec ws rm).room) hsize hmY hcY hframes (by rw [hlY]; omega) h4 h5) h1
  obtain ⟨mid, hmid⟩ := h.above
  have hfr : (U.setTop g).frames = (.java g :: mid) ++ below := by rw [State.frames_setTop' g h.top, hmid]; rfl
  obtain ⟨o, s₂, hsteps, -, hend, hq⟩ := Steps.callFree hM p X.admits X.cas X.clock (acts := []) hfr happ hPc trivial
  have hq' : vx_Q Qc XC mc ms free a (U.calling g mk a) o s₂ := hq
  rw [State.frames_setTop' g h.top] at hend
  obtain ⟨g₀, hg0⟩ := Option.isSome_iff_exists.mp h.top
  obtain ⟨r, hr⟩ := State.topJava?_eq_some.mp hg0
  have hr' : (({ U with heap := s₂.heap, slotsUsed := s₂.slotsUsed } : State).setVm s₂.vm).frames = .java g₀ :: r := hr
  rcases hq' with ⟨hqc, L, hfe, hL⟩ | ⟨q, rfl, E, ce, L, hx, hce, hcv, hcl, hW₂, hsm, hL⟩
  · obtain ⟨⟨v, rfl⟩, hW₂, e2, q2, q3, q4, q5, q6⟩ := id hfe
    have e3 : s₂ = ({ (U.calling g mk a).setFrames s₂.frames with heap := s₂.heap, slotsUsed := s₂.slotsUsed } : State).setVm s₂.vm := by
      have : s₂ = ({ s₂ with vm := (U.calling g mk a).vm } : State).setVm s₂.vm := rfl
      rw [e2] at this
      exact this
    obtain ⟨c₂, i₂, len₂, hc₂, hd₂, hf₂⟩ := hend
    have hW' : U.WarmedH s₂.vm := hW₂
    have hcc : c₂ = c := by
      have h1 : s₂.code? g.method = U.code? g.method := by
        rw [State.code?_eq, State.code?_eq, hW'.alike.method?]
      exact Option.some.inj (hc₂.symm.trans (h1.trans h.code))
    subst hcc
    have hlen : len₂ = len := by rw [hdg] at hd₂; cases hd₂; rfl
    subst hlen
    have hs₂ : s₂ = (({ U with heap := s₂.heap, slotsUsed := s₂.slotsUsed } : State).setVm s₂.vm).setTop { g with pc := g.pc + len₂, stack := v.toList ++ g.stack } := by
      refine e3.trans ?_
      rw [hf₂, State.calling_eq h.top, State.setFrames_setFrames, State.setTop_of_frames _ hr', hr]
      rfl
    have hsame : U.sameButNew ({ U with heap := s₂.heap, slotsUsed := s₂.slotsUsed } : State) L mc ms := by
      refine ⟨?_, q2, q3, q4, q5, q6⟩
      obtain ⟨t, ht, -⟩ := State.frames_cons hr
      show ({ U with heap := s₂.heap, slotsUsed := s₂.slotsUsed } : State) = { U.setFrames U.frames with heap := s₂.heap, slotsUsed := s₂.slotsUsed }
      rw [State.setFrames_self ht]
    subst hg
    refine Or.inl ⟨v, ⟨(({ U with heap := s₂.heap, slotsUsed := s₂.slotsUsed } : State).setVm s₂.vm), Ls ++ L, c0 + mc, s0 + ms⟩,
      ⟨X.admits, X.cas, X.clock, X.frames, X.room, X.hears, X.method, X.code, (X.here.setHeapUsed s₂.heap s₂.slotsUsed).setVm hW'.alike, X.tail, State.WarmedH.trans X.warmed hW', X.limits, X.bytes, X.same.trans (hsame.setVm s.vm)⟩,
      ⟨g, mk, s₂, L, rfl, rfl, hqc, rfl, hL, rfl, rfl⟩, ?_⟩
    show Steps p.tables e below _ ((({ U with heap := s₂.heap, slotsUsed := s₂.slotsUsed } : State).setVm s₂.vm).setTop { g with pc := g.pc + len₂, stack := v.toList ++ g.stack })
    rw [← hs₂]
    exact hsteps
  · obtain ⟨e2, q2, q3, q4, q5, q6⟩ := id hsm
    have e3 : s₂ = ({ (U.calling g mk a).setFrames s₂.frames with heap := s₂.heap, slotsUsed := s₂.slotsUsed } : State).setVm s₂.vm := by
      have : s₂ = ({ s₂ with vm := (U.calling g mk a).vm } : State).setVm s₂.vm := rfl
      rw [e2] at this
      exact this
    have hf₂ : s₂.frames = .throwing q :: .java g :: U.frames.tail := hend
    have hW' : U.WarmedH s₂.vm := hW₂
    have hs₂ : s₂ = ((({ U with heap := s₂.heap, slotsUsed := s₂.slotsUsed } : State).setVm s₂.vm).setTop g).pushFrame (.throwing q) := by
      refine e3.trans ?_
      rw [hf₂, State.calling_eq h.top, State.setFrames_setFrames, State.pushFrame, State.frames_setTop _ hr', State.setTop_of_frames _ hr', State.setFrames_setFrames, hr]
      rfl
    have hsame : U.sameButNew ({ U with heap := s₂.heap, slotsUsed := s₂.slotsUsed } : State) L mc ms := by
      refine ⟨?_, q2, q3, q4, q5, q6⟩
      obtain ⟨t, ht, -⟩ := State.frames_cons hr
      show ({ U with heap := s₂.heap, slotsUsed := s₂.slotsUsed } : State) = { U.setFrames U.frames with heap := s₂.heap, slotsUsed := s₂.slotsUsed }
      rw [State.setFrames_self ht]
    subst hg
    refine Or.inr ⟨q, ⟨(({ U with heap := s₂.heap, slotsUsed := s₂.slotsUsed } : State).setVm s₂.vm), Ls ++ L, c0 + mc, s0 + ms⟩,
      ⟨X.admits, X.cas, X.clock, X.frames, X.room, X.hears, X.method, X.code, (X.here.setHeapUsed s₂.heap s₂.slotsUsed).setVm hW'.alike, X.tail, State.WarmedH.trans X.warmed hW', X.limits, X.bytes, X.same.trans (hsame.setVm s.vm)⟩,
      ⟨g, mk, s₂, L, E, ce, rfl, rfl, hx, hce, hcv, hcl, rfl, hL, rfl, rfl⟩, ?_⟩
    show Steps p.tables e below _ (((({ U with heap := s₂.heap, slotsUsed := s₂.slotsUsed } : State).setVm s₂.vm).setTop g).pushFrame (.throwing q))
    rw [← hs₂]
    exact hsteps
end Payer
section Calls
variable {p : Program} {l : Launch} {e : Env} {R : Room} {s : State} {m : MethodId} {args : Array Value} {below : List Frame} {meth : Method} {c : Code} {T : State} {locs : List Loc} {cells slots : Nat}
theorem vx_callV (X : Stand p l e R s m args below meth c T locs cells slots) (hexec : p.tables.exec = Jvm.exec) {own C : String} {index : Nat} {y : MethodName} {bytes : ByteArray} {maxL : Nat} {ret : Option FieldType}
    (hown : s.vm.findClass own = some m.cls) (hlink : (Cond.methodLink own index y).before args s = true) (hinst : (Cond.instanceMethod y).before args s = true) (hsel : (Cond.selects C y y).before args s = true)
    (hcode : (Cond.code y bytes maxL ret).before args s = true) (hy : y.cls ≠ "java/lang/invoke/MethodHandle" ∧ y.cls ≠ "java/lang/invoke/VarHandle")
    {W9 : Nat} {Pre : Pt → Array Value → Prop} {Post : Pt → Array Value → Option Value → Pt → Prop} {PostX : Pt → Array Value → Addr → Pt → Prop} (hK : vx_Back l R p e below s args y 3 W9 Pre Post PostX)
    {b : Addr} {cellB : Cell} (hcell : T.heap[b]? = some cellB) (hobj : cellB.vm.isStatics = false) (hcls : s.vm.findClass C = some cellB.cls)
    {g : JFrame} (hg : g.method = m) (hsize : g.locals.size = c.maxLocals) {argsL rest : List Value} (hlen : ∀ sig, parseMethodDescriptor y.desc = some sig → argsL.length = sig.parameters.length)
    (hstack : g.stack = argsL.reverse ++ .ref b :: rest) (hW : 2 * g.monitorRoom + (rest.map fun v => v.category).sum ≤ W9) (hdg : decode c.code g.pc = .ok (.invokevirtual index, 3))
    (hpre : ∀ vm₁, s.WarmedH vm₁ → Pre ⟨T.setVm vm₁, locs, cells, slots⟩ (Value.ref b :: argsL).toArray) :
    (∃ (v : Option Value) (vm₁ : Vm) (B : Pt), s.WarmedH vm₁ ∧ Stand p l e R s m args below meth c B.U B.locs B.cells B.slots ∧ Post ⟨T.setVm vm₁, locs, cells, slots⟩ (Value.ref b :: argsL).toArray v B ∧
      ∀ target, Steps p.tables e below (B.U.setTop { g with pc := g.pc + 3, stack := v.toList ++ rest }) target → Steps p.tables e below (T.setTop g) target) ∨
    (∃ (q : Addr) (vm₁ : Vm) (B : Pt), s.WarmedH vm₁ ∧ Stand p l e R s m args below meth c B.U B.locs B.cells B.slots ∧ PostX ⟨T.setVm vm₁, locs, cells, slots⟩ (Value.ref b :: argsL).toArray q B ∧
      Steps p.tables e below (T.setTop g) ((B.U.setTop { g with stack := rest }).pushFrame (.throwing q))) := by
  obtain ⟨mk, methM, hnamed, hmethM, hstM, habM⟩ := Cond.instanceMethod_spec hinst
  obtain ⟨methM', cM, hmethM', -, -, -, -, -, -, hsigM⟩ := Cond.code_spec hnamed hcode
  cases hmethM.symm.trans hmethM'
  obtain ⟨c2, r2, m2, q1, q2, q3, q4, kP, hkP, hkPi⟩ := Cond.selects_spec hsel
  cases hcls.symm.trans q1
  cases (State.methodFound?_of_named hnamed hy).symm.trans q2
  cases hnamed.symm.trans q3
  have hselP : selectMethod e.platform s.vm cellB.cls mk = .method mk := by rw [Launch.admits_selectMethod X.admits]; exact q4
  obtain ⟨vm₁, X₁, hstep₁⟩ := X.invokevirtual hexec hown hlink hnamed hmethM hstM hkP hkPi hy (a := b) (cell := cellB) hcell
    (fun z h => by rw [h] at hobj; cases hobj) hselP hmethM habM hkP hkPi (g := g) hg (argsL := argsL) (rest := rest) (hlen _ hsigM) hstack hdg
  rcases hK m meth c ⟨T.setVm vm₁, locs, cells, slots⟩ { g with stack := rest } (.invokevirtual index) mk (Value.ref b :: argsL).toArray X₁ hg hsize hdg hW (X₁.named hnamed) (hpre vm₁ X₁.warmed) with ⟨v, B, X', hpost, hsteps⟩ | ⟨q, B, X', hpost, hsteps⟩
  · exact Or.inl ⟨v, vm₁, B, X₁.warmed, X', hpost, fun target h => hstep₁ _ fun acts => by rw [doInvoke_state]; exact hsteps.trans h⟩
  · exact Or.inr ⟨q, vm₁, B, X₁.warmed, X', hpost, hstep₁ _ fun acts => by rw [doInvoke_state]; exact hsteps⟩
theorem vx_callS (X : Stand p l e R s m args below meth c T locs cells slots) (hexec : p.tables.exec = Jvm.exec) {own : String} {index : Nat} {y : MethodName} {bytes : ByteArray} {maxL : Nat} {ret : Option FieldType}
    (hown : s.vm.findClass own = some m.cls) (hlink : (Cond.methodLink own index y).before args s = true) (hstat : (Cond.static y).before args s = true) (hinit : (Cond.initialized y.cls).before args s = true)
    (hcode : (Cond.code y bytes maxL ret).before args s = true) (hy : y.cls ≠ "java/lang/invoke/MethodHandle" ∧ y.cls ≠ "java/lang/invoke/VarHandle")
    {W9 : Nat} {Pre : Pt → Array Value → Prop} {Post : Pt → Array Value → Option Value → Pt → Prop} {PostX : Pt → Array Value → Addr → Pt → Prop} (hK : vx_Back l R p e below s args y 3 W9 Pre Post PostX)
    {g : JFrame} (hg : g.method = m) (hsize : g.locals.size = c.maxLocals) {argsL rest : List Value} (hlen : ∀ sig, parseMethodDescriptor y.desc = some sig → argsL.length = sig.parameters.length)
    (hstack : g.stack = argsL.reverse ++ rest) (hW : 2 * g.monitorRoom + (rest.map fun v => v.category).sum ≤ W9) (hdg : decode c.code g.pc = .ok (.invokestatic index, 3))
    (hpre : ∀ vm₁, s.WarmedH vm₁ → Pre ⟨T.setVm vm₁, locs, cells, slots⟩ argsL.toArray) :
    (∃ (v : Option Value) (vm₁ : Vm) (B : Pt), s.WarmedH vm₁ ∧ Stand p l e R s m args below meth c B.U B.locs B.cells B.slots ∧ Post ⟨T.setVm vm₁, locs, cells, slots⟩ argsL.toArray v B ∧
      ∀ target, Steps p.tables e below (B.U.setTop { g with pc := g.pc + 3, stack := v.toList ++ rest }) target → Steps p.tables e below (T.setTop g) target) ∨
    (∃ (q : Addr) (vm₁ : Vm) (B : Pt), s.WarmedH vm₁ ∧ Stand p l e R s m args below meth c B.U B.locs B.cells B.slots ∧ PostX ⟨T.setVm vm₁, locs, cells, slots⟩ argsL.toArray q B ∧
      Steps p.tables e below (T.setTop g) ((B.U.setTop { g with stack := rest }).pushFrame (.throwing q))) := by
  obtain ⟨mk, hnamed⟩ := Cond.code_named hcode
  obtain ⟨methM, cM, hmethM, -, -, -, -, -, -, hsigM⟩ := Cond.code_spec hnamed hcode
  have hstatic : methM.isStatic = true := Cond.static_spec hnamed hmethM hstat
  obtain ⟨kP, hkP, -⟩ := className_of_methodNamed hnamed
  have hinitP : kP.init = .initialized := Cond.initialized_spec (findClass_of_methodNamed hnamed) hkP hinit
  obtain ⟨vm₁, X₁, hstep₁⟩ := X.invokestatic hexec hown hlink hnamed hmethM hstatic hkP hinitP hy (g := g) hg (argsL := argsL) (rest := rest) (hlen _ hsigM) hstack hdg
  rcases hK m meth c ⟨T.setVm vm₁, locs, cells, slots⟩ { g with stack := rest } (.invokestatic index) mk argsL.toArray X₁ hg hsize hdg hW (X₁.named hnamed) (hpre vm₁ X₁.warmed) with ⟨v, B, X', hpost, hsteps⟩ | ⟨q, B, X', hpost, hsteps⟩
  · exact Or.inl ⟨v, vm₁, B, X₁.warmed, X', hpost, fun target h => hstep₁ _ fun acts => by rw [doInvoke_state]; exact hsteps.trans h⟩
  · exact Or.inr ⟨q, vm₁, B, X₁.warmed, X', hpost, hstep₁ _ fun acts => by rw [doInvoke_state]; exact hsteps⟩
end Calls
theorem vx_cls {s : State} {T : State} {vm₁ : Vm} {E : String} {k : ClassId} (hW : s.WarmedH vm₁) (h : (T.setVm vm₁).vm.findClass E = some k) : s.vm.findClass E = some k := by
  have h1 : vm₁.findClass E = some k := h
  rw [hW.alike.findClass] at h1
  exact h1
/-- the method's frame g, with q thrown over it -/
def vx_W (p : Program) (l : Launch) (e : Env) (R : Room) (s : State) (m : MethodId) (args : Array Value) (below : List Frame) (meth : Method) (c : Code) (H : Heap) (locs : List Loc) (cells slots : Nat) (Q : State → Prop) (g : JFrame) (q : Addr) : Prop :=
  ∀ T : State, T.heap = H → Stand p l e R s m args below meth c T locs cells slots → ∃ t, Steps p.tables e below ((T.setTop g).pushFrame (.throwing q)) t ∧ Q t
def vx_Run (p : Program) (l : Launch) (e : Env) (R : Room) (s : State) (m : MethodId) (args : Array Value) (below : List Frame) (meth : Method) (c : Code) (H : Heap) (locs : List Loc) (cells slots mc ms : Nat) (g : JFrame) (rest : List Value) (Qa : State → Outcome → State → Prop) (XC : String → State → State → Prop) (free : Addr → Prop) : Prop :=
  ∀ T : State, T.heap = H → Stand p l e R s m args below meth c T locs cells slots →
    (∃ (v : Option Value) (st₀ t T' : State) (L : List Loc), st₀.heap = H ∧ Stand p l e R s m args below meth c T' (locs ++ L) (cells + mc) (slots + ms) ∧ (∀ q ∈ L, free q.base) ∧ T'.heap = t.heap ∧ T'.vm = t.vm ∧ Qa st₀ (.returned v) t ∧
      Goes p e below T g T' { g with pc := g.pc + 3, stack := v.toList ++ rest }) ∨
    (∃ (q : Addr) (st₀ t T' : State) (L : List Loc) (E : String) (ce : Cell), st₀.heap = H ∧ Stand p l e R s m args below meth c T' (locs ++ L) (cells + mc) (slots + ms) ∧ (∀ z ∈ L, free z.base) ∧ T'.heap = t.heap ∧ T'.vm = t.vm ∧ XC E st₀ t ∧ t.heap[q]? = some ce ∧ ce.vm = .none ∧ s.vm.findClass E = some ce.cls ∧
      Steps p.tables e below (T.setTop g) ((T'.setTop { g with stack := rest }).pushFrame (.throwing q)))
def vx_X {S : Type} (px : S → Prop) (B : String → S → State → Prop) (A : Nat → Prop) : String → State → State → Prop := fun E st t => ∃ u : S, px u ∧ B E u t ∧ va_F A st t
section Runs
variable {p : Program} {l : Launch} {e : Env} {R : Room} {s : State} {m : MethodId} {args : Array Value} {below : List Frame} {meth : Method} {c : Code} {H : Heap} {locs : List Loc} {cells slots : Nat}
variable {y : MethodName} {bytes cc : ByteArray} {maxL nL mc ms n index : Nat} {ret : Option FieldType} {ws : List Cond} {rm : Room} {Pc : Array Value → State → Prop} {Qc : Array Value → State → Outcome → State → Prop} {XC : String → State → State → Prop} {free : Addr → Prop} {Ts : List Cond} {own C : String} {b : Addr} {As rest : List Value} {g : JFrame}
theorem vx_callBack (cb : CallB R s args own index y bytes maxL ret ws rm mc ms n) (hM : vx_Met l y ws rm Pc Qc XC mc ms free) (hbl : FrameBlind Pc) : vx_Back l R p e below s args y 3 8 (PreOf R mc ms Pc) (PostOf Qc mc ms free) (vx_Post XC mc ms free) := by
  obtain ⟨hrc, hrs, hfr, hlo, hws, hcw, -, hini, -⟩ := cb
  exact vx_back (bytes := bytes) (maxL := maxL) (ret := ret) hM hbl hrc hrs hfr hlo hws hcw (fun a' U hW => word_at hW (Or.inl (by first | rfl | simp [Cond.onTables, Cond.keeps, Cond.steady])) hini)
theorem vx_runV (S : CallFix p m c cc nL s args Ts own) (hM : vx_Met l y ws rm Pc Qc XC mc ms free) (cw : CallW R s args own C index y bytes maxL ret ws rm mc ms n) (hp : PreV s H C b Pc As)
    (hg : g.method = m) (hn : As.length = n) (hsize : g.locals.size = nL) (hstack : g.stack = As.reverse ++ .ref b :: rest) (hW : 2 * g.monitorRoom + (rest.map fun v => v.category).sum ≤ 8) (hdg : decode cc g.pc = .ok (.invokevirtual index, 3)) (hf : cells + mc ≤ R.cells ∧ slots + ms ≤ R.slots) :
    vx_Run p l e R s m args below meth c H locs cells slots mc ms g rest (Qc (Value.ref b :: As).toArray) XC free := by
  have hK : vx_Back l R p e below s args y 3 8 (PreOf R mc ms Pc) (PostOf Qc mc ms free) (vx_Post XC mc ms free) := vx_callBack cw.1 hM hp.1
  obtain ⟨⟨-, -, -, -, -, -, hcode, -, hy, hlen, hl⟩, hin, hse⟩ := cw
  obtain ⟨hx, hb, hml, ho, -⟩ := S
  obtain ⟨-, ⟨cellB, hcB, hoB, hclB⟩, hPc⟩ := hp
  intro T hT X
  rcases vx_callV X hx (C := C) (bytes := bytes) (maxL := maxL) (ret := ret) ho hl hin hse hcode hy hK (by rw [hT]; exact hcB) hoB hclB hg (hsize.trans hml.symm) (argsL := As) (rest := rest) (fun sig h => hn.trans (hlen sig h)) hstack hW (by rw [hb]; exact hdg)
    (fun vm₁ hW₁ => ⟨hf.1, hf.2, hPc (T.setVm vm₁) hT hW₁⟩) with ⟨v, vm₁, ⟨U', l2, c2, s2⟩, hW₁, X', ⟨g', mk, t, L, e1, e2, hq, h1, hL, h2, h3⟩, st⟩ | ⟨q, vm₁, ⟨U', l2, c2, s2⟩, hW₁, X', ⟨g', mk, t, L, E, ce, e1, e2, hq, hce, hcv, hcl, h1, hL, h2, h3⟩, st⟩
  · dsimp only [Pt.U, Pt.locs, Pt.cells, Pt.slots] at X' e1 e2 h1 h2 h3 st
    subst h1; subst h2; subst h3
    exact Or.inl ⟨v, (T.setVm vm₁).calling g' mk (Value.ref b :: As).toArray, t, U', L, hT, X', hL, e1, e2, hq, st⟩
  · dsimp only [Pt.U, Pt.locs, Pt.cells, Pt.slots] at X' e1 e2 h1 h2 h3 st hcl
    subst h1; subst h2; subst h3
    exact Or.inr ⟨q, (T.setVm vm₁).calling g' mk (Value.ref b :: As).toArray, t, U', L, E, ce, hT, X', hL, e1, e2, hq, hce, hcv, vx_cls hW₁ hcl, st⟩
theorem vx_runS (S : CallFix p m c cc nL s args Ts own) (hM : vx_Met l y ws rm Pc Qc XC mc ms free) (cw : CallB R s args own index y bytes maxL ret ws rm mc ms n ∧ (Cond.static y).before args s = true) (hp : PreS s H Pc As)
    (hg : g.method = m) (hn : As.length = n) (hsize : g.locals.size = nL) (hstack : g.stack = As.reverse ++ rest) (hW : 2 * g.monitorRoom + (rest.map fun v => v.category).sum ≤ 8) (hdg : decode cc g.pc = .ok (.invokestatic index, 3)) (hf : cells + mc ≤ R.cells ∧ slots + ms ≤ R.slots) :
    vx_Run p l e R s m args below meth c H locs cells slots mc ms g rest (Qc As.toArray) XC free := by
  have hK : vx_Back l R p e below s args y 3 8 (PreOf R mc ms Pc) (PostOf Qc mc ms free) (vx_Post XC mc ms free) := vx_callBack cw.1 hM hp.1
  obtain ⟨⟨-, -, -, -, -, -, hcode, hini, hy, hlen, hl⟩, hstt⟩ := cw
  obtain ⟨hx, hb, hml, ho, -⟩ := S
  intro T hT X
  rcases vx_callS X hx (bytes := bytes) (maxL := maxL) (ret := ret) ho hl hstt hini hcode hy hK hg (hsize.trans hml.symm) (argsL := As) (rest := rest) (fun sig h => hn.trans (hlen sig h)) hstack hW (by rw [hb]; exact hdg)
    (fun vm₁ hW₁ => ⟨hf.1, hf.2, hp.2 (T.setVm vm₁) hT hW₁⟩) with ⟨v, vm₁, ⟨U', l2, c2, s2⟩, hW₁, X', ⟨g', mk, t, L, e1, e2, hq, h1, hL, h2, h3⟩, st⟩ | ⟨q, vm₁, ⟨U', l2, c2, s2⟩, hW₁, X', ⟨g', mk, t, L, E, ce, e1, e2, hq, hce, hcv, hcl, h1, hL, h2, h3⟩, st⟩
  · dsimp only [Pt.U, Pt.locs, Pt.cells, Pt.slots] at X' e1 e2 h1 h2 h3 st
    subst h1; subst h2; subst h3
    exact Or.inl ⟨v, (T.setVm vm₁).calling g' mk As.toArray, t, U', L, hT, X', hL, e1, e2, hq, st⟩
  · dsimp only [Pt.U, Pt.locs, Pt.cells, Pt.slots] at X' e1 e2 h1 h2 h3 st hcl
    subst h1; subst h2; subst h3
    exact Or.inr ⟨q, (T.setVm vm₁).calling g' mk As.toArray, t, U', L, E, ce, hT, X', hL, e1, e2, hq, hce, hcv, vx_cls hW₁ hcl, st⟩
end Runs
section Rows
variable {p : Program} {l : Launch} {e : Env} {R : Room} {s : State} {m : MethodId} {args : Array Value} {below : List Frame} {meth : Method} {c : Code} {H : Heap} {locs : List Loc} {cells slots : Nat} {Q : State → Prop}
variable {mc ms : Nat} {free : Addr → Prop} {A0 A1 : Nat → Prop} {H0 : Heap} {a : Array Value} {pc : Nat} {ls : Array Slot} {st0 rest : List Value}
theorem vx_keep {st₀ t T' : State} {L : List Loc} (h0 : st₀.heap = H) (e1 : T'.heap = t.heap) (hS : va_S A0 H0 H locs) (hA : ∀ q, q < H.size → A1 q → A0 q) (hf : ∀ q, free q → A0 q) (hL : ∀ q ∈ L, free q.base) (hF : va_F A1 st₀ t) :
    H.size ≤ T'.heap.size ∧ (∀ q : Nat, q < H.size → ¬ A1 q → T'.heap[q]? = H[q]?) ∧ va_S A0 H0 T'.heap (locs ++ L) := by
  obtain ⟨hz, hk⟩ := hF
  rw [h0] at hz hk
  exact ⟨by rw [e1]; exact hz, fun q h1 h2 => by rw [e1]; exact hk q h1 h2,
    ⟨Nat.le_trans hS.1 (by rw [e1]; exact hz), fun q h1 h2 => by rw [e1, hk q (Nat.lt_of_lt_of_le h1 hS.1) (fun z => h2 (hA q (Nat.lt_of_lt_of_le h1 hS.1) z))]; exact hS.2.1 q h1 h2, fun q hq => by
      rcases List.mem_append.mp hq with h | h
      · exact hS.2.2 q h
      · exact hf _ (hL q h)⟩⟩
theorem vx_calli {S SX : Type} {post : Int32 → S → Prop} {px : SX → Prop} {B : S → State → Prop} {BX : String → SX → State → Prop} {AX : Nat → Prop} (hr : vx_Run p l e R s m args below meth c H locs cells slots mc ms (F0 m pc ls st0) rest (va_Qi post B A1 a) (vx_X px BX AX) free) (hS : va_S A0 H0 H locs) (hA : ∀ q, q < H.size → A1 q → A0 q) (hf : ∀ q, free q → A0 q) (hAX : ∀ q, q < H.size → AX q → A0 q)
    (kx : ∀ (E : String) (ce : Cell) (q9 : Addr) (u : SX) (t : State) (H1 : Heap) (locs1 : List Loc), t.heap = H1 → s.vm.Alike t.vm → px u → BX E u t → H.size ≤ H1.size → (∀ q : Nat, q < H.size → ¬ AX q → H1[q]? = H[q]?) → va_S A0 H0 H1 locs1 → H1[q9]? = some ce → ce.vm = .none → s.vm.findClass E = some ce.cls → vx_W p l e R s m args below meth c H1 locs1 (cells + mc) (slots + ms) Q (F0 m pc ls rest) q9)
    (kk : ∀ (r : Int32) (u : S) (t : State) (H1 : Heap) (locs1 : List Loc), t.heap = H1 → s.vm.Alike t.vm → post r u → B u t → H.size ≤ H1.size → (∀ q : Nat, q < H.size → ¬ A1 q → H1[q]? = H[q]?) → va_S A0 H0 H1 locs1 → W p l e R s m args below meth c H1 locs1 (cells + mc) (slots + ms) Q (F0 m (pc + 3) ls (.int r :: rest))) : W p l e R s m args below meth c H locs cells slots Q (F0 m pc ls st0) := by
  intro T hT X
  rcases hr T hT X with ⟨v, st₀, t, T', L, h0, X', hL, e1, e2, ⟨⟨r, u, hv, hp, hb⟩, hF⟩, st⟩ | ⟨q, st₀, t, T', L, E, ce, h0, X', hL, e1, e2, ⟨u, hp, hb, hF⟩, hce, hcv, hcl, st⟩
  · cases hv
    obtain ⟨k1, k2, k3⟩ := vx_keep h0 e1 hS hA hf hL hF
    obtain ⟨t2, a1, b1⟩ := kk r u t T'.heap (locs ++ L) e1.symm (by rw [← e2]; exact X'.warmed.alike) hp hb k1 k2 k3 T' rfl X'
    exact ⟨t2, st t2 a1, b1⟩
  · obtain ⟨k1, k2, k3⟩ := vx_keep h0 e1 hS hAX hf hL hF
    obtain ⟨t2, a1, b1⟩ := kx E ce q u t T'.heap (locs ++ L) e1.symm (by rw [← e2]; exact X'.warmed.alike) hp hb k1 k2 k3 (by rw [e1]; exact hce) hcv hcl T' rfl X'
    exact ⟨t2, st.trans a1, b1⟩
theorem vx_calll {S SX : Type} {post : Int64 → S → Prop} {px : SX → Prop} {B : S → State → Prop} {BX : String → SX → State → Prop} {AX : Nat → Prop} (hr : vx_Run p l e R s m args below meth c H locs cells slots mc ms (F0 m pc ls st0) rest (va_Ql post B A1 a) (vx_X px BX AX) free) (hS : va_S A0 H0 H locs) (hA : ∀ q, q < H.size → A1 q → A0 q) (hf : ∀ q, free q → A0 q) (hAX : ∀ q, q < H.size → AX q → A0 q)
    (kx : ∀ (E : String) (ce : Cell) (q9 : Addr) (u : SX) (t : State) (H1 : Heap) (locs1 : List Loc), t.heap = H1 → s.vm.Alike t.vm → px u → BX E u t → H.size ≤ H1.size → (∀ q : Nat, q < H.size → ¬ AX q → H1[q]? = H[q]?) → va_S A0 H0 H1 locs1 → H1[q9]? = some ce → ce.vm = .none → s.vm.findClass E = some ce.cls → vx_W p l e R s m args below meth c H1 locs1 (cells + mc) (slots + ms) Q (F0 m pc ls rest) q9)
    (kk : ∀ (r : Int64) (u : S) (t : State) (H1 : Heap) (locs1 : List Loc), t.heap = H1 → s.vm.Alike t.vm → post r u → B u t → H.size ≤ H1.size → (∀ q : Nat, q < H.size → ¬ A1 q → H1[q]? = H[q]?) → va_S A0 H0 H1 locs1 → W p l e R s m args below meth c H1 locs1 (cells + mc) (slots + ms) Q (F0 m (pc + 3) ls (.long r :: rest))) : W p l e R s m args below meth c H locs cells slots Q (F0 m pc ls st0) := by
  intro T hT X
  rcases hr T hT X with ⟨v, st₀, t, T', L, h0, X', hL, e1, e2, ⟨⟨r, u, hv, hp, hb⟩, hF⟩, st⟩ | ⟨q, st₀, t, T', L, E, ce, h0, X', hL, e1, e2, ⟨u, hp, hb, hF⟩, hce, hcv, hcl, st⟩
  · cases hv
    obtain ⟨k1, k2, k3⟩ := vx_keep h0 e1 hS hA hf hL hF
    obtain ⟨t2, a1, b1⟩ := kk r u t T'.heap (locs ++ L) e1.symm (by rw [← e2]; exact X'.warmed.alike) hp hb k1 k2 k3 T' rfl X'
    exact ⟨t2, st t2 a1, b1⟩
  · obtain ⟨k1, k2, k3⟩ := vx_keep h0 e1 hS hAX hf hL hF
    obtain ⟨t2, a1, b1⟩ := kx E ce q u t T'.heap (locs ++ L) e1.symm (by rw [← e2]; exact X'.warmed.alike) hp hb k1 k2 k3 (by rw [e1]; exact hce) hcv hcl T' rfl X'
    exact ⟨t2, st.trans a1, b1⟩
theorem vx_callf {S SX : Type} {post : UInt32 → S → Prop} {px : SX → Prop} {B : S → State → Prop} {BX : String → SX → State → Prop} {AX : Nat → Prop} (hr : vx_Run p l e R s m args below meth c H locs cells slots mc ms (F0 m pc ls st0) rest (va_Qf post B A1 a) (vx_X px BX AX) free) (hS : va_S A0 H0 H locs) (hA : ∀ q, q < H.size → A1 q → A0 q) (hf : ∀ q, free q → A0 q) (hAX : ∀ q, q < H.size → AX q → A0 q)
    (kx : ∀ (E : String) (ce : Cell) (q9 : Addr) (u : SX) (t : State) (H1 : Heap) (locs1 : List Loc), t.heap = H1 → s.vm.Alike t.vm → px u → BX E u t → H.size ≤ H1.size → (∀ q : Nat, q < H.size → ¬ AX q → H1[q]? = H[q]?) → va_S A0 H0 H1 locs1 → H1[q9]? = some ce → ce.vm = .none → s.vm.findClass E = some ce.cls → vx_W p l e R s m args below meth c H1 locs1 (cells + mc) (slots + ms) Q (F0 m pc ls rest) q9)
    (kk : ∀ (r : UInt32) (u : S) (t : State) (H1 : Heap) (locs1 : List Loc), t.heap = H1 → s.vm.Alike t.vm → post r u → B u t → H.size ≤ H1.size → (∀ q : Nat, q < H.size → ¬ A1 q → H1[q]? = H[q]?) → va_S A0 H0 H1 locs1 → W p l e R s m args below meth c H1 locs1 (cells + mc) (slots + ms) Q (F0 m (pc + 3) ls (.float r :: rest))) : W p l e R s m args below meth c H locs cells slots Q (F0 m pc ls st0) := by
  intro T hT X
  rcases hr T hT X with ⟨v, st₀, t, T', L, h0, X', hL, e1, e2, ⟨⟨r, u, hv, hp, hb⟩, hF⟩, st⟩ | ⟨q, st₀, t, T', L, E, ce, h0, X', hL, e1, e2, ⟨u, hp, hb, hF⟩, hce, hcv, hcl, st⟩
  · cases hv
    obtain ⟨k1, k2, k3⟩ := vx_keep h0 e1 hS hA hf hL hF
    obtain ⟨t2, a1, b1⟩ := kk r u t T'.heap (locs ++ L) e1.symm (by rw [← e2]; exact X'.warmed.alike) hp hb k1 k2 k3 T' rfl X'
    exact ⟨t2, st t2 a1, b1⟩
  · obtain ⟨k1, k2, k3⟩ := vx_keep h0 e1 hS hAX hf hL hF
    obtain ⟨t2, a1, b1⟩ := kx E ce q u t T'.heap (locs ++ L) e1.symm (by rw [← e2]; exact X'.warmed.alike) hp hb k1 k2 k3 (by rw [e1]; exact hce) hcv hcl T' rfl X'
    exact ⟨t2, st.trans a1, b1⟩
theorem vx_calld {S SX : Type} {post : UInt64 → S → Prop} {px : SX → Prop} {B : S → State → Prop} {BX : String → SX → State → Prop} {AX : Nat → Prop} (hr : vx_Run p l e R s m args below meth c H locs cells slots mc ms (F0 m pc ls st0) rest (va_Qd post B A1 a) (vx_X px BX AX) free) (hS : va_S A0 H0 H locs) (hA : ∀ q, q < H.size → A1 q → A0 q) (hf : ∀ q, free q → A0 q) (hAX : ∀ q, q < H.size → AX q → A0 q)
    (kx : ∀ (E : String) (ce : Cell) (q9 : Addr) (u : SX) (t : State) (H1 : Heap) (locs1 : List Loc), t.heap = H1 → s.vm.Alike t.vm → px u → BX E u t → H.size ≤ H1.size → (∀ q : Nat, q < H.size → ¬ AX q → H1[q]? = H[q]?) → va_S A0 H0 H1 locs1 → H1[q9]? = some ce → ce.vm = .none → s.vm.findClass E = some ce.cls → vx_W p l e R s m args below meth c H1 locs1 (cells + mc) (slots + ms) Q (F0 m pc ls rest) q9)
    (kk : ∀ (r : UInt64) (u : S) (t : State) (H1 : Heap) (locs1 : List Loc), t.heap = H1 → s.vm.Alike t.vm → post r u → B u t → H.size ≤ H1.size → (∀ q : Nat, q < H.size → ¬ A1 q → H1[q]? = H[q]?) → va_S A0 H0 H1 locs1 → W p l e R s m args below meth c H1 locs1 (cells + mc) (slots + ms) Q (F0 m (pc + 3) ls (.double r :: rest))) : W p l e R s m args below meth c H locs cells slots Q (F0 m pc ls st0) := by
  intro T hT X
  rcases hr T hT X with ⟨v, st₀, t, T', L, h0, X', hL, e1, e2, ⟨⟨r, u, hv, hp, hb⟩, hF⟩, st⟩ | ⟨q, st₀, t, T', L, E, ce, h0, X', hL, e1, e2, ⟨u, hp, hb, hF⟩, hce, hcv, hcl, st⟩
  · cases hv
    obtain ⟨k1, k2, k3⟩ := vx_keep h0 e1 hS hA hf hL hF
    obtain ⟨t2, a1, b1⟩ := kk r u t T'.heap (locs ++ L) e1.symm (by rw [← e2]; exact X'.warmed.alike) hp hb k1 k2 k3 T' rfl X'
    exact ⟨t2, st t2 a1, b1⟩
  · obtain ⟨k1, k2, k3⟩ := vx_keep h0 e1 hS hAX hf hL hF
    obtain ⟨t2, a1, b1⟩ := kx E ce q u t T'.heap (locs ++ L) e1.symm (by rw [← e2]; exact X'.warmed.alike) hp hb k1 k2 k3 (by rw [e1]; exact hce) hcv hcl T' rfl X'
    exact ⟨t2, st.trans a1, b1⟩
theorem vx_callv {S SX : Type} {post : S → Prop} {px : SX → Prop} {B : S → State → Prop} {BX : String → SX → State → Prop} {AX : Nat → Prop} (hr : vx_Run p l e R s m args below meth c H locs cells slots mc ms (F0 m pc ls st0) rest (va_Qv post B A1 a) (vx_X px BX AX) free) (hS : va_S A0 H0 H locs) (hA : ∀ q, q < H.size → A1 q → A0 q) (hf : ∀ q, free q → A0 q) (hAX : ∀ q, q < H.size → AX q → A0 q)
    (kx : ∀ (E : String) (ce : Cell) (q9 : Addr) (u : SX) (t : State) (H1 : Heap) (locs1 : List Loc), t.heap = H1 → s.vm.Alike t.vm → px u → BX E u t → H.size ≤ H1.size → (∀ q : Nat, q < H.size → ¬ AX q → H1[q]? = H[q]?) → va_S A0 H0 H1 locs1 → H1[q9]? = some ce → ce.vm = .none → s.vm.findClass E = some ce.cls → vx_W p l e R s m args below meth c H1 locs1 (cells + mc) (slots + ms) Q (F0 m pc ls rest) q9)
    (kk : ∀ (u : S) (t : State) (H1 : Heap) (locs1 : List Loc), t.heap = H1 → s.vm.Alike t.vm → post u → B u t → H.size ≤ H1.size → (∀ q : Nat, q < H.size → ¬ A1 q → H1[q]? = H[q]?) → va_S A0 H0 H1 locs1 → W p l e R s m args below meth c H1 locs1 (cells + mc) (slots + ms) Q (F0 m (pc + 3) ls (rest))) : W p l e R s m args below meth c H locs cells slots Q (F0 m pc ls st0) := by
  intro T hT X
  rcases hr T hT X with ⟨v, st₀, t, T', L, h0, X', hL, e1, e2, ⟨⟨u, hv, hp, hb⟩, hF⟩, st⟩ | ⟨q, st₀, t, T', L, E, ce, h0, X', hL, e1, e2, ⟨u, hp, hb, hF⟩, hce, hcv, hcl, st⟩
  · cases hv
    obtain ⟨k1, k2, k3⟩ := vx_keep h0 e1 hS hA hf hL hF
    obtain ⟨t2, a1, b1⟩ := kk u t T'.heap (locs ++ L) e1.symm (by rw [← e2]; exact X'.warmed.alike) hp hb k1 k2 k3 T' rfl X'
    exact ⟨t2, st t2 a1, b1⟩
  · obtain ⟨k1, k2, k3⟩ := vx_keep h0 e1 hS hAX hf hL hF
    obtain ⟨t2, a1, b1⟩ := kx E ce q u t T'.heap (locs ++ L) e1.symm (by rw [← e2]; exact X'.warmed.alike) hp hb k1 k2 k3 (by rw [e1]; exact hce) hcv hcl T' rfl X'
    exact ⟨t2, st.trans a1, b1⟩
/-- caught by the row x of this method's table; the rows ahead don't take it -/
theorem vx_catch {own name : String} {E : String} {ce : Cell} {q : Addr} (hown : s.vm.findClass own = some m.cls) (pre : List ExceptionTableEntry) (x : ExceptionTableEntry) (suf : List ExceptionTableEntry) (hsplit : c.exceptionTable.toList = pre ++ x :: suf)
    (hpass : ∀ z ∈ pre, covers z pc = false ∨ (z.catchType ≠ 0 ∧ ∃ nm : String, (Cond.classLink own z.catchType nm).before args s = true ∧ va_Nc E nm s)) (hx : covers x pc = true) (h0 : x.catchType ≠ 0)
    (hlink : (Cond.classLink own x.catchType name).before args s = true) (hcast : (Cond.castable E name).before args s = true) (hcell : H[q]? = some ce) (hv : ce.vm = .none) (hcl : s.vm.findClass E = some ce.cls)
    (kk : W p l e R s m args below meth c H locs cells slots Q (F0 m x.handlerPc ls [.ref q])) : vx_W p l e R s m args below meth c H locs cells slots Q (F0 m pc ls rest) q := by
  intro T hT X
  have hpl : e.platform.magicAccessors = ({} : Platform).magicAccessors := by rw [X.admits.platform]
  obtain ⟨c3, c4, hc3, hc4, hasg⟩ := Cond.castable_spec hcast
  cases Option.some.inj (hc3.symm.trans hcl)
  obtain ⟨c5, hc5, hcl5⟩ := Cond.classLink_spec hown hlink e.platform hpl
  cases Option.some.inj (hc4.symm.trans hc5)
  obtain ⟨vm', X', st⟩ := X.thenCaughtThrough q (g := F0 m pc ls rest) rfl (Steps.refl _) (by rw [hT]; exact hcell) (by rw [hv]; rfl) (by obtain ⟨k9, h9, -⟩ := Vm.findClass_spec hcl; exact ⟨k9, h9⟩) pre x suf hsplit
    (fun z hz => by
      rcases hpass z hz with h | ⟨hz0, nm, hl1, hn1⟩
      · exact Or.inl h
      · obtain ⟨c6, hc6, hcl6⟩ := Cond.classLink_spec hown hl1 e.platform hpl
        obtain ⟨a8, b8, h1, h2, h3⟩ := hn1
        cases Option.some.inj (h1.symm.trans hcl)
        cases Option.some.inj (h2.symm.trans hc6)
        exact Or.inr ⟨hz0, _, hcl6, h3⟩) hx (Or.inr ⟨h0, c4, hcl5, hasg⟩)
  obtain ⟨t, a1, b1⟩ := kk (T.setVm vm') hT X'
  exact ⟨t, st.trans a1, b1⟩
end Rows
section Ends
variable {p : Program} {l : Launch} {e : Env} {R : Room} {s : State} {m : MethodId} {args : Array Value} {below : List Frame} {meth : Method} {c : Code} {H : Heap} {locs : List Loc} {cells slots : Nat} {Q : State → Prop}
variable {mc ms : Nat} {free : Addr → Prop} {A0 A1 : Nat → Prop} {H0 : Heap} {a : Array Value} {ls : Array Slot} {st0 rest : List Value}
variable {Qc : Array Value → State → Outcome → State → Prop} {XC : String → State → State → Prop}
/-- what a body that may throw owes at its end -/
def vx_MQ (below : List Frame) (Qc : Array Value → State → Outcome → State → Prop) (XC : String → State → State → Prop) (a : Array Value) (s : State) (mc ms : Nat) (free : Addr → Prop) : State → Prop := fun t =>
  ∃ o, t.status = .running ∧ Ended t below o ∧ vx_Q Qc XC mc ms free a s o t
theorem vx_ret {g : JFrame} {mc ms : Nat} (k : W p l e R s m args below meth c H locs cells slots (MQ below Qc args s mc ms free) g) : W p l e R s m args below meth c H locs cells slots (vx_MQ below Qc XC args s mc ms free) g := by
  intro T hT X
  obtain ⟨t, a1, o, b1, b2, b3, b4⟩ := k T hT X
  exact ⟨t, a1, o, b1, b2, Or.inl ⟨b3, b4⟩⟩
/-- not caught here: it goes on to the caller -/
theorem vx_widen {g : JFrame} {q : Addr} {k n : Nat} (h1 : cells ≤ k) (h2 : slots ≤ n) (kk : vx_W p l e R s m args below meth c H locs k n Q g q) : vx_W p l e R s m args below meth c H locs cells slots Q g q := fun T hT X => kk T hT (stand_widen X h1 h2)
theorem vx_out {pc : Nat} {E : String} {ce : Cell} {q : Addr} {mc ms : Nat} (hout : ∀ x ∈ c.exceptionTable.toList, covers x pc = false) (hlocks : meth.locks = false) (hcell : H[q]? = some ce) (hv : ce.vm = .none) (hcl : s.vm.findClass E = some ce.cls)
    (hx : ∀ t : State, t.heap = H → s.vm.Alike t.vm → XC E s t) (hf : ∀ z ∈ locs, free z.base) (hc : cells ≤ mc) (hs : slots ≤ ms) :
    vx_W p l e R s m args below meth c H locs cells slots (vx_MQ below Qc XC args s mc ms free) (F0 m pc ls rest) q := by
  intro T hT X
  obtain ⟨st1, hrun, hend, hW, hsm⟩ := X.leaveThrown q (g := F0 m pc ls rest) rfl rfl rfl hout hlocks
  have hcell9 : (T.setFrames (.throwing q :: below)).heap[q]? = some ce := by
    show T.heap[q]? = some ce
    rw [hT]; exact hcell
  exact ⟨_, st1, .threw q, hrun, hend, Or.inr ⟨q, rfl, E, ce, locs, hx _ hT hW.alike, hcell9, hv, hcl, hW, hsm.mono hc hs, hf⟩⟩
theorem vx_frame {U : State} {k n : Nat} (h : s.sameButNew ({ U with vm := s.vm } : State) locs k n) : s.heap.size ≤ U.heap.size ∧ ∀ q : Nat, q < s.heap.size → (∀ z ∈ locs, z.base ≠ q) → U.heap[q]? = s.heap[q]? := by
  obtain ⟨-, h2, -, -, -, h6⟩ := h
  refine ⟨h2, fun q hq hz => ?_⟩
  obtain ⟨c9, e1, e2, e3, e4⟩ := h6 q _ (Array.getElem?_eq_getElem hq)
  have hs : c9.slots = (s.heap[q]).slots := Array.ext_getElem? fun i => e4 i fun hm => hz _ hm rfl
  have h9 : c9 = s.heap[q] := by
    rw [hs] at e2
    exact e2
  have e5 : U.heap[q]? = some c9 := e1
  rw [e5, h9, Array.getElem?_eq_getElem hq]
/-- the words of a throw but the four that speak of the heap -/
def vx_no (w : Cond) : Bool := decide (w ≠ .isRef (.static Bundle.tN "UNASSIGNED_STACK" Bundle.steD)) && decide (w ≠ .isRef (.static Bundle.tN "SUPPRESSED_SENTINEL" Bundle.listD)) && decide (w ≠ .laysStatic Bundle.tN "UNASSIGNED_STACK" Bundle.steD) && decide (w ≠ .laysStatic Bundle.tN "SUPPRESSED_SENTINEL" Bundle.listD)
def vx_at0 (own : String) (ic : Nat) (X : String) (names : List String) : List Cond := (Bundle.ownAtoms0 own ic X names).filter vx_no
def vx_atS (own : String) (ic : Nat) (X : String) (names : List String) : List Cond := (Bundle.ownAtoms own ic X names).filter vx_no
/-- a word that the tables alone decide, or a good one -/
def vx_ot (w : Cond) : Bool := w.onTables || goodWord w
theorem vx_ot_at {args a' : Array Value} {s U : State} {w : Cond} (hW : s.WarmedH U.vm) (hvm : s.vm = U.vm) (hg : vx_ot w = true) (h : w.before args s = true) : w.before a' U = true := by
  simp only [vx_ot, Bool.or_eq_true] at hg
  rcases hg with hg | hg
  · exact va_tabs hg hvm h
  · exact word_at hW (good_of_word hg) h
/-- a list's words: the good ones out of the method's own list, the others by premises of their own -/
theorem vx_hat {args : Array Value} {s : State} {L B : List Cond} (h1 : ∀ w ∈ L.filter goodWord, w.before args s = true) (h2 : ∀ w ∈ L.filter (fun w => !goodWord w), w ∈ B) (h3 : ∀ w ∈ B, w.before args s = true) : ∀ w ∈ L, w.before args s = true := by
  intro w hw
  by_cases g : goodWord w = true
  · exact h1 w (List.mem_filter.mpr ⟨hw, g⟩)
  · refine h3 w (h2 w (List.mem_filter.mpr ⟨hw, ?_⟩))
    show (!goodWord w) = true
    cases hgw : goodWord w
    · rfl
    · exact absurd hgw g
theorem vx_c {args : Array Value} {s : State} {w : Cond} {B : List Cond} (h : w.before args s = true) (t : ∀ w ∈ B, w.before args s = true) : ∀ w' ∈ w :: B, w'.before args s = true := fun w' h' => (List.mem_cons.mp h').elim (fun e => by rw [e]; exact h) (t w')
theorem vx_n {args : Array Value} {s : State} : ∀ w ∈ ([] : List Cond), w.before args s = true := fun _ h => nomatch h
theorem vx_own {args : Array Value} {s : State} {L : List Cond} (h1 : ∀ w ∈ L.filter vx_no, w.before args s = true)
    (hU : (Cond.isRef (.static Bundle.tN "UNASSIGNED_STACK" Bundle.steD)).before args s = true) (hN : (Cond.isRef (.static Bundle.tN "SUPPRESSED_SENTINEL" Bundle.listD)).before args s = true)
    (lU : (Cond.laysStatic Bundle.tN "UNASSIGNED_STACK" Bundle.steD).before args s = true) (lN : (Cond.laysStatic Bundle.tN "SUPPRESSED_SENTINEL" Bundle.listD).before args s = true) : ∀ w ∈ L, w.before args s = true := by
  intro w hw
  by_cases e1 : w = .isRef (.static Bundle.tN "UNASSIGNED_STACK" Bundle.steD)
  · rw [e1]; exact hU
  · by_cases e2 : w = .isRef (.static Bundle.tN "SUPPRESSED_SENTINEL" Bundle.listD)
    · rw [e2]; exact hN
    · by_cases e3 : w = .laysStatic Bundle.tN "UNASSIGNED_STACK" Bundle.steD
      · rw [e3]; exact lU
      · by_cases e4 : w = .laysStatic Bundle.tN "SUPPRESSED_SENTINEL" Bundle.listD
        · rw [e4]; exact lN
        · exact h1 w (List.mem_filter.mpr ⟨hw, by unfold vx_no; rw [decide_eq_true e1, decide_eq_true e2, decide_eq_true e3, decide_eq_true e4]; rfl⟩)
/-- where a static field lies, its class's statics cell in H -/
def vx_L (C n d : String) (A : Nat → Prop) (U : State) (H : Heap) : Prop := ∃ (c : ClassId) (k : Class) (i : Nat) (f : Field) (a : Nat) (cell : Cell), U.vm.findClass C = some c ∧ U.fieldFound? C n d = some (c, k, i, f) ∧ f.isStatic = true ∧ k.statics = some a ∧ H[a]? = some cell ∧ cell.vm.isStatics = true ∧ cell.cls = c ∧ f.slot < cell.slots.size ∧ k.staticTypes[f.slot]? = some f.type ∧ ¬ A a
theorem vx_L.moved {C n d : String} {A : Nat → Prop} {u U : State} {H : Heap} (hvm : u.vm.Alike U.vm) (h : vx_L C n d A u H) : vx_L C n d A U H := by
  obtain ⟨c, k, i, f, a, cell, h1, h2, h3, h4, h5, h6, h7, h8, h9, h10⟩ := h
  obtain ⟨k', hi', he⟩ := State.fieldFound?_setVm hvm h2
  exact ⟨c, k', i, f, a, cell, by rw [hvm.findClass]; exact h1, hi', h3, by rw [he]; exact h4, h5, h6, h7, h8, by rw [he]; exact h9, h10⟩
theorem vx_L.kept {C n d : String} {A : Nat → Prop} {U : State} {H H1 : Heap} (h : vx_L C n d A U H) (hq : ∀ a : Nat, a < H.size → ¬ A a → H1[a]? = H[a]?) : vx_L C n d A U H1 := by
  obtain ⟨c, k, i, f, a, cell, h1, h2, h3, h4, h5, h6, h7, h8, h9, h10⟩ := h
  exact ⟨c, k, i, f, a, cell, h1, h2, h3, h4, by rw [hq a (Array.getElem?_eq_some_iff.mp h5).1 h10]; exact h5, h6, h7, h8, h9, h10⟩
theorem vx_L.narrow {C n d : String} {A B : Nat → Prop} {U : State} {H : Heap} (h : vx_L C n d A U H) (hAB : ∀ q, B q → A q) : vx_L C n d B U H := by
  obtain ⟨c, k, i, f, a, cell, h1, h2, h3, h4, h5, h6, h7, h8, h9, h10⟩ := h
  exact ⟨c, k, i, f, a, cell, h1, h2, h3, h4, h5, h6, h7, h8, h9, fun z => h10 (hAB _ z)⟩
theorem vx_L.word {C n d : String} {A : Nat → Prop} {s : State} {args : Array Value} (h : vx_L C n d A s s.heap) : (Cond.laysStatic C n d).before args s = true := by
  obtain ⟨c, k, i, f, a, cell, h1, h2, h3, h4, h5, h6, h7, h8, h9, -⟩ := h
  show (Cond.laysStatic C n d).holds args s none s [] = true
  exact Cond.laysStatic_of h1 h2 h3 h4 h5 h6 h7 h8 h9
/-- .. and what it holds: null or some reference -/
def vx_Zq (C n d : String) (A : Nat → Prop) (U : State) (H : Heap) : Prop := va_Zq C n d A U H ∧ vx_L C n d A U H
theorem vx_Zq.moved {C n d : String} {A : Nat → Prop} {u U : State} {H : Heap} (hvm : u.vm.Alike U.vm) (h : vx_Zq C n d A u H) : vx_Zq C n d A U H := ⟨va_Zq.moved hvm h.1, vx_L.moved hvm h.2⟩
theorem vx_Zq.kept {C n d : String} {A : Nat → Prop} {U : State} {H H1 : Heap} (h : vx_Zq C n d A U H) (hq : ∀ a : Nat, a < H.size → ¬ A a → H1[a]? = H[a]?) : vx_Zq C n d A U H1 := ⟨va_Zq.kept h.1 hq, vx_L.kept h.2 hq⟩
theorem vx_Zq.narrow {C n d : String} {A B : Nat → Prop} {U : State} {H : Heap} (h : vx_Zq C n d A U H) (hAB : ∀ q, B q → A q) : vx_Zq C n d B U H := ⟨va_Zq.narrow h.1 hAB, vx_L.narrow h.2 hAB⟩
theorem vx_Zqof {args : Array Value} {s : State} {C n d : String} {A : Nat → Prop} (hl : (Cond.laysStatic C n d).before args s = true) (hini : (Cond.initialized C).before args s = true) (h : (Cond.isRef (.static C n d)).before args s = true) (hA : ∀ a : Nat, a < s.heap.size → ¬ A a) : vx_Zq C n d A s s.heap := by
  refine ⟨va_Zqof hl hini h hA, ?_⟩
  obtain ⟨c, k, i, f, a, cell, h1, h2, h3, h4, h5, h6, h7, h8, h9⟩ := Cond.laysStatic_spec hl
  exact ⟨c, k, i, f, a, cell, h1, h2, h3, h4, h5, h6, h7, h8, h9, hA a (Array.getElem?_eq_some_iff.mp h5).1⟩
theorem vx_isRef {C n d : String} {v : Value} {A : Nat → Prop} {s : State} {args : Array Value} (h : va_Z C n d v A s s.heap) (hv : v.isRef = true) : (Cond.isRef (.static C n d)).before args s = true := by
  obtain ⟨cf, kf, fi, f, a, cell, h1, h2, h3, h4, h5, h6, h7, -⟩ := h
  have he : (Term.static C n d).eval args s none [] s = some v := by
    simp [Term.eval, State.fieldNamed?, h1, h2, h4, h5, h6, h7]
  simp only [Cond.before, Cond.holds, Cond.value, he]
  cases v <;> simp_all [Value.isRef]
theorem vx_isRefq {C n d : String} {A : Nat → Prop} {s : State} {args : Array Value} (h : va_Zq C n d A s s.heap) : (Cond.isRef (.static C n d)).before args s = true := by
  rcases h with h | ⟨t, h⟩
  · exact vx_isRef h rfl
  · exact vx_isRef h rfl
/-- the same frame, seen from here: as if the method were called anew in this heap -/
theorem vx_rebase {T : State} (X : Stand p l e R s m args below meth c T locs cells slots) {R' : Room} (hf : R'.frames ≤ R.frames) (hl : R'.locals ≤ R.locals) (hc : cells + R'.cells ≤ R.cells) (hs : slots + R'.slots ≤ R.slots) :
    Stand p l e R' ((T.setVm s.vm).setFrames (.invoking m args :: below)) m args below meth c T [] 0 0 := by
  have htop : (T.setVm s.vm).topJava?.isSome := X.here.top
  have hF : ((T.setVm s.vm).setFrames (.invoking m args :: below)).frames = .invoking m args :: below := State.frames_setFrames _ (State.cur_lt_of_top htop)
  obtain ⟨g₀, hg0⟩ := Option.isSome_iff_exists.mp htop
  obtain ⟨r, hr⟩ := State.topJava?_eq_some.mp hg0
  have hl9 : e.platform.stackLimits (T.setVm s.vm).me = e.platform.stackLimits s.me := X.limits
  have hb9 : (T.setVm s.vm).me.stackBytes = s.me.stackBytes := X.bytes
  refine ⟨X.admits, X.cas, X.clock, hF, ?_, X.hears, X.method, X.code, X.here, X.tail, X.warmed, ?_, ?_, ?_⟩
  · have h := X.room
    have hU : ((T.setVm s.vm).setFrames (.invoking m args :: below)).localsInUse = s.localsInUse := by
      rw [State.localsInUse_invoking hF (meth := meth) (c := c) X.method X.code, State.localsInUse_invoking X.frames X.method X.code]
    simp only [State.hasRoom, Bool.and_eq_true, decide_eq_true_eq] at h ⊢
    obtain ⟨⟨⟨⟨h1, h2, h3, h4, h5, h6⟩, h7⟩, h8⟩, h9⟩ := h
    rw [X.frames, List.length_cons] at h2 h3
    have q1 := X.heapSize
    have q2 := X.used
    simp only [hF, hU, List.length_cons, State.stackLimits_setFrames, State.stackBytes_setFrames, hl9, hb9]
    refine ⟨⟨⟨⟨by omega, by omega, by omega, by omega, by omega, h6⟩, ?_⟩, ?_⟩, X.book⟩
    · show T.heap.size + R'.cells ≤ e.platform.maxCells
      omega
    · show T.slotsUsed + R'.slots ≤ e.platform.maxSlots
      omega
  · rw [State.stackLimits_setFrames]; rfl
  · rw [State.stackBytes_setFrames]; rfl
  · refine ⟨?_, Nat.le_refl _, Nat.le_refl _, ?_, ?_, fun a c9 h9 => ⟨c9, h9, rfl, rfl, fun _ _ => rfl⟩⟩
    · obtain ⟨t, ht, -⟩ := State.frames_cons hr
      show T.setVm s.vm = { ((T.setVm s.vm).setFrames (.invoking m args :: below)).setFrames (T.setVm s.vm).frames with heap := T.heap, slotsUsed := T.slotsUsed }
      rw [State.setFrames_setFrames, State.setFrames_self ht]
      rfl
    · show T.slotsUsed = T.slotsUsed + ((T.heap.toList.drop T.heap.size).map (·.slots.size)).sum
      rw [List.drop_eq_nil_of_le (Nat.le_of_eq Array.length_toList)]
      rfl
    · show ((T.heap.toList.drop T.heap.size).map (·.slots.size)).sum ≤ 0
      rw [List.drop_eq_nil_of_le (Nat.le_of_eq Array.length_toList)]
      exact Nat.le_refl _
/-- 'throw new E()': new; dup; invokespecial; athrow -/
theorem vx_throw0 {cc : ByteArray} {pc : Nat} (hexec : p.tables.exec = Jvm.exec) (hb : c.code = cc) (hl : l.stackTraces = false) {own cls : String} {names : List String} {ik ic mc ms : Nat} {A : Nat → Prop}
    (hown : s.vm.findClass own = some m.cls) (hcls : Bundle.fit cls = true) (hnames : ∀ n ∈ names, Bundle.fit n = true)
    (hk : (Cond.classLink own ik cls).before args s = true) (hini : (Cond.initialized cls).before args s = true) (hat : ∀ w ∈ vx_at0 own ic cls names, w.before args s = true)
    (hgood : ∀ w ∈ Cond.classLink own ik cls :: Cond.initialized cls :: vx_at0 own ic cls names, vx_ot w = true)
    (hU : vx_Zq Bundle.tN "UNASSIGNED_STACK" Bundle.steD A s s.heap) (hN : vx_Zq Bundle.tN "SUPPRESSED_SENTINEL" Bundle.listD A s s.heap) (hS : va_S A s.heap H locs) (hsize : ls.size = c.maxLocals)
    (d0 : decode cc pc = .ok (.new ik, 3)) (d3 : decode cc (pc + 3) = .ok (.dup, 1)) (d4 : decode cc (pc + 4) = .ok (.invokespecial ic, 3)) (d7 : decode cc (pc + 7) = .ok (.athrow, 1))
    (hout : ∀ x ∈ c.exceptionTable.toList, covers x (pc + 7) = false)
    (hRframes : names.length + 3 < R.frames) (hRlocals : (rest.map fun v => v.category).sum + (13 * (names.length + 1) + 42) ≤ R.locals) (hRcells : cells + 1 ≤ R.cells) (hRslots : slots + 6 ≤ R.slots) (hlocks : meth.locks = false)
    (hx : ∀ t : State, s.vm.Alike t.vm → H.size ≤ t.heap.size → (∀ q : Nat, q < H.size → t.heap[q]? = H[q]?) → XC cls s t)
    (hf : ∀ z ∈ locs, free z.base) (hc : cells + 1 ≤ mc) (hs : slots + 6 ≤ ms) :
    W p l e R s m args below meth c H locs cells slots (vx_MQ below Qc XC args s mc ms free) (F0 m pc ls rest) := by
  intro T hT X
  have htr : e.platform.stackTraces = false := (show e.platform.stackTraces = l.stackTraces by rw [X.admits.platform]).trans hl
  have Y := vx_rebase X (R' := { frames := R.frames, locals := R.locals, cells := 1, slots := 6 }) (Nat.le_refl _) (Nat.le_refl _) hRcells hRslots
  obtain ⟨s', hA⟩ : ∃ z, z = (T.setVm s.vm).setFrames (.invoking m args :: below) := ⟨_, rfl⟩
  rw [← hA] at Y
  have hvm : s'.vm = s.vm := by rw [hA]; rfl
  have hhp : s'.heap = H := by rw [hA]; exact hT
  have hW0 : s.WarmedH s'.vm := by rw [hvm]; exact State.WarmedH.refl s
  have hat' : ∀ w ∈ vx_at0 own ic cls names, w.before args s' = true := fun w hw => vx_ot_at hW0 hvm.symm (hgood w (List.mem_cons_of_mem _ (List.mem_cons_of_mem _ hw))) (hat w hw)
  have hk' : (Cond.classLink own ik cls).before args s' = true := vx_ot_at hW0 hvm.symm (hgood _ List.mem_cons_self) hk
  have hini' : (Cond.initialized cls).before args s' = true := vx_ot_at hW0 hvm.symm (hgood _ (List.mem_cons_of_mem _ List.mem_cons_self)) hini
  have hU' : vx_Zq Bundle.tN "UNASSIGNED_STACK" Bundle.steD A s' s'.heap := by rw [hhp]; exact vx_Zq.moved hW0.alike (hU.kept hS.2.1)
  have hN' : vx_Zq Bundle.tN "SUPPRESSED_SENTINEL" Bundle.listD A s' s'.heap := by rw [hhp]; exact vx_Zq.moved hW0.alike (hN.kept hS.2.1)
  have h : ∀ w ∈ Bundle.ownAtoms0 own ic cls names, w.before args s' = true := vx_own hat' (vx_isRefq hU'.1) (vx_isRefq hN'.1) hU'.2.word hN'.2.word
  have hown' : s'.vm.findClass own = some m.cls := by rw [hvm]; exact hown
  have hins : (Cond.instantiable cls 6).before args s' = true := h _ (by simp [Bundle.ownAtoms0])
  obtain ⟨vm₁, cX, kX, hfX, hkX, -, -, X₁, st1⟩ := Y.newCold hexec (own := own) (C := cls) (index := ik) (n := 6) hown' hk' hins hini'
    (g := F0 m pc ls rest) rfl (by rw [hb]; exact d0) (Nat.le_refl _) (Nat.le_refl _)
  generalize hT1 : (T.setVm vm₁).pushCell { cls := cX, slots := kX.instanceTypes.map defaultValue, vm := .none } = T1 at X₁ st1
  have hcat : (Value.ref T.heap.size).category = 1 := rfl
  have hcellA : T1.heap[T.heap.size]? = some (freshCell cX kX) := by rw [← hT1]; exact State.heap_pushCell_size _ _
  have d3' : decode c.code (pc + 3) = .ok (.dup, 1) := by rw [hb]; exact d3
  obtain ⟨U, hsteps, hrun, hend, hW, hsame, ce, hce, hO⟩ := X₁.ctorThrow0 hexec htr (own := own) (cls := cls) (names := names) (ic := ic) hown' hcls hnames h (fun x hx => nomatch hx) hfX hkX hcellA (by rw [hhp, hT]; exact Nat.le_refl _)
    (g := { method := m, pc := pc + 4, locals := ls, stack := .ref T.heap.size :: .ref T.heap.size :: rest, locked := none }) rfl hsize rfl rfl (rest := rest) rfl
    (by rw [hb]; exact d4) (by rw [hb]; exact d7) hout hRframes (by simp only [List.map_cons, List.sum_cons, hcat]; omega) hlocks
  obtain ⟨f1, f2⟩ := vx_frame hsame
  rw [hhp] at f1 f2
  have hWs : s.WarmedH U.vm := State.WarmedH.trans hW0 hW
  have hcl : s.vm.findClass cls = some ce.cls := by
    have h9 := hO.cls
    rw [hvm] at h9
    exact h9
  have hall : s.sameButNew ({ U with vm := s.vm } : State) locs mc ms := by
    subst hA
    obtain ⟨e1, e2⟩ := hsame
    rw [State.setFrames_setFrames] at e1
    have h2 : (T.setVm s.vm).sameButNew ({ U with vm := s.vm } : State) [] (0 + 1) (0 + 6) := ⟨e1, e2⟩
    have h3 := X.same.trans h2
    rw [List.append_nil] at h3
    exact h3.mono hc hs
  refine ⟨U, ?_, .threw T.heap.size, hrun, hend, Or.inr ⟨T.heap.size, rfl, cls, ce, locs, hx U hWs.alike f1 (fun q hq => f2 q hq (fun z hz => nomatch hz)), hce, hO.vm, hcl, hWs, hall, hf⟩⟩
  refine st1 _ ?_
  show Steps p.tables e below (T1.setTop { method := m, pc := pc + 3, locals := ls, stack := .ref T.heap.size :: rest, locked := none }) _
  jvm_step X₁.here [X₁.here.top, hexec, d3', Value.category]
  exact hsteps
/-- 'throw new E("text")': new; dup; ldc; invokespecial; athrow -/
theorem vx_throwS {cc : ByteArray} {pc : Nat} (hexec : p.tables.exec = Jvm.exec) (hb : c.code = cc) (hl : l.stackTraces = false) {own cls text : String} {names : List String} {ik is ic mc ms sa : Nat} {A : Nat → Prop}
    (hown : s.vm.findClass own = some m.cls) (hcls : Bundle.fit cls = true) (hnames : ∀ n ∈ names, Bundle.fit n = true)
    (hk : (Cond.classLink own ik cls).before args s = true) (hini : (Cond.initialized cls).before args s = true) (hstr : vk_R own is text sa s) (hat : ∀ w ∈ vx_atS own ic cls names, w.before args s = true)
    (hgood : ∀ w ∈ Cond.classLink own ik cls :: Cond.initialized cls :: vx_atS own ic cls names, vx_ot w = true)
    (hU : vx_Zq Bundle.tN "UNASSIGNED_STACK" Bundle.steD A s s.heap) (hN : vx_Zq Bundle.tN "SUPPRESSED_SENTINEL" Bundle.listD A s s.heap) (hS : va_S A s.heap H locs) (hsize : ls.size = c.maxLocals)
    (d0 : decode cc pc = .ok (.new ik, 3)) (d3 : decode cc (pc + 3) = .ok (.dup, 1)) (d4 : decode cc (pc + 4) = .ok (.ldc is, 2)) (d6 : decode cc (pc + 6) = .ok (.invokespecial ic, 3)) (d9 : decode cc (pc + 9) = .ok (.athrow, 1))
    (hout : ∀ x ∈ c.exceptionTable.toList, covers x (pc + 9) = false)
    (hRframes : names.length + 3 < R.frames) (hRlocals : (rest.map fun v => v.category).sum + (13 * (names.length + 1) + 43) ≤ R.locals) (hRcells : cells + 1 ≤ R.cells) (hRslots : slots + 6 ≤ R.slots) (hlocks : meth.locks = false)
    (hx : ∀ t : State, s.vm.Alike t.vm → H.size ≤ t.heap.size → (∀ q : Nat, q < H.size → t.heap[q]? = H[q]?) → XC cls s t)
    (hf : ∀ z ∈ locs, free z.base) (hc : cells + 1 ≤ mc) (hs : slots + 6 ≤ ms) :
    W p l e R s m args below meth c H locs cells slots (vx_MQ below Qc XC args s mc ms free) (F0 m pc ls rest) := by
  intro T hT X
  have htr : e.platform.stackTraces = false := (show e.platform.stackTraces = l.stackTraces by rw [X.admits.platform]).trans hl
  have Y := vx_rebase X (R' := { frames := R.frames, locals := R.locals, cells := 1, slots := 6 }) (Nat.le_refl _) (Nat.le_refl _) hRcells hRslots
  obtain ⟨s', hA⟩ : ∃ z, z = (T.setVm s.vm).setFrames (.invoking m args :: below) := ⟨_, rfl⟩
  rw [← hA] at Y
  have hvm : s'.vm = s.vm := by rw [hA]; rfl
  have hhp : s'.heap = H := by rw [hA]; exact hT
  have hW0 : s.WarmedH s'.vm := by rw [hvm]; exact State.WarmedH.refl s
  have hat' : ∀ w ∈ vx_atS own ic cls names, w.before args s' = true := fun w hw => vx_ot_at hW0 hvm.symm (hgood w (List.mem_cons_of_mem _ (List.mem_cons_of_mem _ hw))) (hat w hw)
  have hk' : (Cond.classLink own ik cls).before args s' = true := vx_ot_at hW0 hvm.symm (hgood _ List.mem_cons_self) hk
  have hini' : (Cond.initialized cls).before args s' = true := vx_ot_at hW0 hvm.symm (hgood _ (List.mem_cons_of_mem _ List.mem_cons_self)) hini
  have hU' : vx_Zq Bundle.tN "UNASSIGNED_STACK" Bundle.steD A s' s'.heap := by rw [hhp]; exact vx_Zq.moved hW0.alike (hU.kept hS.2.1)
  have hN' : vx_Zq Bundle.tN "SUPPRESSED_SENTINEL" Bundle.listD A s' s'.heap := by rw [hhp]; exact vx_Zq.moved hW0.alike (hN.kept hS.2.1)
  have h : ∀ w ∈ Bundle.ownAtoms own ic cls names, w.before args s' = true := vx_own hat' (vx_isRefq hU'.1) (vx_isRefq hN'.1) hU'.2.word hN'.2.word
  have hown' : s'.vm.findClass own = some m.cls := by rw [hvm]; exact hown
  have hins : (Cond.instantiable cls 6).before args s' = true := h _ (by simp [Bundle.ownAtoms])
  obtain ⟨vm₁, cX, kX, hfX, hkX, -, -, X₁, st1⟩ := Y.newCold hexec (own := own) (C := cls) (index := ik) (n := 6) hown' hk' hins hini'
    (g := F0 m pc ls rest) rfl (by rw [hb]; exact d0) (Nat.le_refl _) (Nat.le_refl _)
  generalize hT1 : (T.setVm vm₁).pushCell { cls := cX, slots := kX.instanceTypes.map defaultValue, vm := .none } = T1 at X₁ st1
  have hcat : (Value.ref T.heap.size).category = 1 := rfl
  have hcellA : T1.heap[T.heap.size]? = some (freshCell cX kX) := by rw [← hT1]; exact State.heap_pushCell_size _ _
  have d3' : decode c.code (pc + 3) = .ok (.dup, 1) := by rw [hb]; exact d3
  have d4' : decode c.code (pc + 4) = .ok (.ldc is, 2) := by rw [hb]; exact d4
  have hstr' : vk_R own is text sa s' := vk_R.warm hW0 hstr
  obtain ⟨U, hsteps, hrun, hend, hW, hsame, ce, hce, hO⟩ := X₁.ctorThrowS hexec htr (own := own) (cls := cls) (names := names) (ic := ic) hown' hcls hnames h (fun x hx => nomatch hx) hfX hkX hcellA (by rw [hhp, hT]; exact Nat.le_refl _) (msg := .ref sa) rfl
    (g := { method := m, pc := pc + 6, locals := ls, stack := .ref sa :: .ref T.heap.size :: .ref T.heap.size :: rest, locked := none }) rfl hsize rfl rfl (rest := rest) rfl
    (by rw [hb]; exact d6) (by rw [hb]; exact d9) hout hRframes (by simp only [List.map_cons, List.sum_cons, hcat]; omega) hlocks
  obtain ⟨f1, f2⟩ := vx_frame hsame
  rw [hhp] at f1 f2
  have hWs : s.WarmedH U.vm := State.WarmedH.trans hW0 hW
  have hcl : s.vm.findClass cls = some ce.cls := by
    have h9 := hO.cls
    rw [hvm] at h9
    exact h9
  have hall : s.sameButNew ({ U with vm := s.vm } : State) locs mc ms := by
    subst hA
    obtain ⟨e1, e2⟩ := hsame
    rw [State.setFrames_setFrames] at e1
    have h2 : (T.setVm s.vm).sameButNew ({ U with vm := s.vm } : State) [] (0 + 1) (0 + 6) := ⟨e1, e2⟩
    have h3 := X.same.trans h2
    rw [List.append_nil] at h3
    exact h3.mono hc hs
  refine ⟨U, ?_, .threw T.heap.size, hrun, hend, Or.inr ⟨T.heap.size, rfl, cls, ce, locs, hx U hWs.alike f1 (fun q hq => f2 q hq (fun z hz => nomatch hz)), hce, hO.vm, hcl, hWs, hall, hf⟩⟩
  refine st1 _ ?_
  show Steps p.tables e below (T1.setTop { method := m, pc := pc + 3, locals := ls, stack := .ref T.heap.size :: rest, locked := none }) _
  jvm_step X₁.here [X₁.here.top, hexec, d3', Value.category]
  exact X₁.ldcString hexec (own := own) (text := text) (index := is) (a := sa) hown' hstr'.1 hstr'.2
    (g := { method := m, pc := pc + 4, locals := ls, stack := .ref T.heap.size :: .ref T.heap.size :: rest, locked := none }) rfl d4' _ hsteps
/-- 'throw new E("text")', the text by a wide index -/
theorem vx_throwSW {cc : ByteArray} {pc : Nat} (hexec : p.tables.exec = Jvm.exec) (hb : c.code = cc) (hl : l.stackTraces = false) {own cls text : String} {names : List String} {ik is ic mc ms sa : Nat} {A : Nat → Prop}
    (hown : s.vm.findClass own = some m.cls) (hcls : Bundle.fit cls = true) (hnames : ∀ n ∈ names, Bundle.fit n = true)
    (hk : (Cond.classLink own ik cls).before args s = true) (hini : (Cond.initialized cls).before args s = true) (hstr : vk_R own is text sa s) (hat : ∀ w ∈ vx_atS own ic cls names, w.before args s = true)
    (hgood : ∀ w ∈ Cond.classLink own ik cls :: Cond.initialized cls :: vx_atS own ic cls names, vx_ot w = true)
    (hU : vx_Zq Bundle.tN "UNASSIGNED_STACK" Bundle.steD A s s.heap) (hN : vx_Zq Bundle.tN "SUPPRESSED_SENTINEL" Bundle.listD A s s.heap) (hS : va_S A s.heap H locs) (hsize : ls.size = c.maxLocals)
    (d0 : decode cc pc = .ok (.new ik, 3)) (d3 : decode cc (pc + 3) = .ok (.dup, 1)) (d4 : decode cc (pc + 4) = .ok (.ldc_w is, 3)) (d7 : decode cc (pc + 7) = .ok (.invokespecial ic, 3)) (d10 : decode cc (pc + 10) = .ok (.athrow, 1))
    (hout : ∀ x ∈ c.exceptionTable.toList, covers x (pc + 10) = false)
    (hRframes : names.length + 3 < R.frames) (hRlocals : (rest.map fun v => v.category).sum + (13 * (names.length + 1) + 43) ≤ R.locals) (hRcells : cells + 1 ≤ R.cells) (hRslots : slots + 6 ≤ R.slots) (hlocks : meth.locks = false)
    (hx : ∀ t : State, s.vm.Alike t.vm → H.size ≤ t.heap.size → (∀ q : Nat, q < H.size → t.heap[q]? = H[q]?) → XC cls s t)
    (hf : ∀ z ∈ locs, free z.base) (hc : cells + 1 ≤ mc) (hs : slots + 6 ≤ ms) :
    W p l e R s m args below meth c H locs cells slots (vx_MQ below Qc XC args s mc ms free) (F0 m pc ls rest) := by
  intro T hT X
  have htr : e.platform.stackTraces = false := (show e.platform.stackTraces = l.stackTraces by rw [X.admits.platform]).trans hl
  have Y := vx_rebase X (R' := { frames := R.frames, locals := R.locals, cells := 1, slots := 6 }) (Nat.le_refl _) (Nat.le_refl _) hRcells hRslots
  obtain ⟨s', hA⟩ : ∃ z, z = (T.setVm s.vm).setFrames (.invoking m args :: below) := ⟨_, rfl⟩
  rw [← hA] at Y
  have hvm : s'.vm = s.vm := by rw [hA]; rfl
  have hhp : s'.heap = H := by rw [hA]; exact hT
  have hW0 : s.WarmedH s'.vm := by rw [hvm]; exact State.WarmedH.refl s
  have hat' : ∀ w ∈ vx_atS own ic cls names, w.before args s' = true := fun w hw => vx_ot_at hW0 hvm.symm (hgood w (List.mem_cons_of_mem _ (List.mem_cons_of_mem _ hw))) (hat w hw)
  have hk' : (Cond.classLink own ik cls).before args s' = true := vx_ot_at hW0 hvm.symm (hgood _ List.mem_cons_self) hk
  have hini' : (Cond.initialized cls).before args s' = true := vx_ot_at hW0 hvm.symm (hgood _ (List.mem_cons_of_mem _ List.mem_cons_self)) hini
  have hU' : vx_Zq Bundle.tN "UNASSIGNED_STACK" Bundle.steD A s' s'.heap := by rw [hhp]; exact vx_Zq.moved hW0.alike (hU.kept hS.2.1)
  have hN' : vx_Zq Bundle.tN "SUPPRESSED_SENTINEL" Bundle.listD A s' s'.heap := by rw [hhp]; exact vx_Zq.moved hW0.alike (hN.kept hS.2.1)
  have h : ∀ w ∈ Bundle.ownAtoms own ic cls names, w.before args s' = true := vx_own hat' (vx_isRefq hU'.1) (vx_isRefq hN'.1) hU'.2.word hN'.2.word
  have hown' : s'.vm.findClass own = some m.cls := by rw [hvm]; exact hown
  have hins : (Cond.instantiable cls 6).before args s' = true := h _ (by simp [Bundle.ownAtoms])
  obtain ⟨vm₁, cX, kX, hfX, hkX, -, -, X₁, st1⟩ := Y.newCold hexec (own := own) (C := cls) (index := ik) (n := 6) hown' hk' hins hini'
    (g := F0 m pc ls rest) rfl (by rw [hb]; exact d0) (Nat.le_refl _) (Nat.le_refl _)
  generalize hT1 : (T.setVm vm₁).pushCell { cls := cX, slots := kX.instanceTypes.map defaultValue, vm := .none } = T1 at X₁ st1
  have hcat : (Value.ref T.heap.size).category = 1 := rfl
  have hcellA : T1.heap[T.heap.size]? = some (freshCell cX kX) := by rw [← hT1]; exact State.heap_pushCell_size _ _
  have d3' : decode c.code (pc + 3) = .ok (.dup, 1) := by rw [hb]; exact d3
  have d4' : decode c.code (pc + 4) = .ok (.ldc_w is, 3) := by rw [hb]; exact d4
  have hstr' : vk_R own is text sa s' := vk_R.warm hW0 hstr
  obtain ⟨U, hsteps, hrun, hend, hW, hsame, ce, hce, hO⟩ := X₁.ctorThrowS hexec htr (own := own) (cls := cls) (names := names) (ic := ic) hown' hcls hnames h (fun x hx => nomatch hx) hfX hkX hcellA (by rw [hhp, hT]; exact Nat.le_refl _) (msg := .ref sa) rfl
    (g := { method := m, pc := pc + 7, locals := ls, stack := .ref sa :: .ref T.heap.size :: .ref T.heap.size :: rest, locked := none }) rfl hsize rfl rfl (rest := rest) rfl
    (by rw [hb]; exact d7) (by rw [hb]; exact d10) hout hRframes (by simp only [List.map_cons, List.sum_cons, hcat]; omega) hlocks
  obtain ⟨f1, f2⟩ := vx_frame hsame
  rw [hhp] at f1 f2
  have hWs : s.WarmedH U.vm := State.WarmedH.trans hW0 hW
  have hcl : s.vm.findClass cls = some ce.cls := by
    have h9 := hO.cls
    rw [hvm] at h9
    exact h9
  have hall : s.sameButNew ({ U with vm := s.vm } : State) locs mc ms := by
    subst hA
    obtain ⟨e1, e2⟩ := hsame
    rw [State.setFrames_setFrames] at e1
    have h2 : (T.setVm s.vm).sameButNew ({ U with vm := s.vm } : State) [] (0 + 1) (0 + 6) := ⟨e1, e2⟩
    have h3 := X.same.trans h2
    rw [List.append_nil] at h3
    exact h3.mono hc hs
  refine ⟨U, ?_, .threw T.heap.size, hrun, hend, Or.inr ⟨T.heap.size, rfl, cls, ce, locs, hx U hWs.alike f1 (fun q hq => f2 q hq (fun z hz => nomatch hz)), hce, hO.vm, hcl, hWs, hall, hf⟩⟩
  refine st1 _ ?_
  show Steps p.tables e below (T1.setTop { method := m, pc := pc + 3, locals := ls, stack := .ref T.heap.size :: rest, locked := none }) _
  jvm_step X₁.here [X₁.here.top, hexec, d3', Value.category]
  exact X₁.ldcStringW hexec (own := own) (text := text) (index := is) (a := sa) hown' hstr'.1 hstr'.2
    (g := { method := m, pc := pc + 4, locals := ls, stack := .ref T.heap.size :: .ref T.heap.size :: rest, locked := none }) rfl d4' _ hsteps
end Ends
section Bodies
variable {l : Launch}
theorem vx_ofW {y : MethodName} {ws ws' : List Cond} {rm : Room} {Pc : Array Value → State → Prop} {Qc : Array Value → State → Outcome → State → Prop} {XC : String → State → State → Prop} {mc ms : Nat} {free : Addr → Prop} {cc : ByteArray} {maxL : Nat} {ret : Option FieldType}
    (hy : plainName y.cls = true) (hw : ws = Cond.code y cc maxL ret :: ws')
    (body : ∀ p e s m args below meth c s₁, BodyLoose p l y (headSpec ws rm) cc maxL ret e s m args below meth c s₁ → c.maxLocals = maxL → (∀ x ∈ c.exceptionTable.toList, False) → Pc args s →
      W p l e (headSpec ws rm).room s m args below meth c s.heap [] 0 0 (vx_MQ below Qc XC args s mc ms free) (entryFrame m args maxL)) : vx_Met l y ws rm Pc Qc XC mc ms free := by
  refine MetFree.of_bodyS (code := cc) (maxLocals := maxL) (ret := ret) hy ?_ ?_
  · intro args s m h hn
    obtain ⟨meth, c, h1, h2, h3, h4, h5, h6, -, -⟩ := Cond.code_spec hn (atoms_spec (ws := ws) h _ (by rw [hw]; exact List.mem_cons_self))
    exact ⟨meth, c, h1, h2, h3, h4, h5, h6⟩
  · intro p e s m args below meth c s₁ B hml hP _
    have hh0 : s₁.heap = s.heap := by rw [B.state]; rfl
    have ht : ∀ x ∈ c.exceptionTable.toList, False := by
      obtain ⟨meth9, c9, h1, h2, -, -, -, -, h7, -⟩ := Cond.code_spec B.named (atoms_spec (ws := ws) B.pre _ (by rw [hw]; exact List.mem_cons_self))
      cases Option.some.inj (h1.symm.trans B.method)
      cases Option.some.inj (h2.symm.trans (Stand.of_body B).code)
      intro x hx
      rw [Array.isEmpty_iff.mp h7] at hx
      cases hx
    obtain ⟨t, a1, o, b1, b2, b3⟩ := body p e s m args below meth c s₁ B hml ht hP s₁ hh0 (Stand.of_body B)
    exact ⟨t, o, a1, b1, b2, b3⟩
/-- the table of a body with handlers -/
theorem vx_table {p : Program} {x y : MethodName} {S : Spec} {cc bytes : ByteArray} {maxL maxL' : Nat} {ret ret' : Option FieldType} {e : Env} {s s₁ : State} {m : MethodId} {args : Array Value} {below : List Frame} {meth : Method} {c : Code} {hh : List (Nat × Nat × Nat × Nat)}
    (B : BodyLoose p l y S cc maxL ret e s m args below meth c s₁) (h : (Cond.codeWith y bytes maxL' ret' hh).before args s = true) : c.exceptionTable.toList = tableOf hh := by
  obtain ⟨m9, meth9, c9, hn9, h1, h2, -, -, h6, -⟩ := Cond.codeWith_spec h
  cases Option.some.inj (hn9.symm.trans B.named)
  cases Option.some.inj (h1.symm.trans B.method)
  cases Option.some.inj (h2.symm.trans (Stand.of_body B).code)
  rw [← h6, table_eq]
end Bodies
end VXA
/-! ===== END ===== -/
/-! ===== BEGIN a static call of a method with an exception table ===== -/
section VXS
variable {p : Program} {l : Launch} {e : Env} {R : Room} {s : State} {m : MethodId} {args : Array Value} {below : List Frame} {meth : Method} {c : Code} {T : State} {H : Heap} {locs : List Loc} {cells slots : Nat}
abbrev vx_CSW (R : Room) (s : State) (args : Array Value) (own : String) (index : Nat) (y : MethodName) (bytes : ByteArray) (maxL : Nat) (ret : Option FieldType) (hh : List (Nat × Nat × Nat × Nat)) (ws : List Cond) (rm : Room) (mc ms n : Nat) : Prop :=
  (rm.cells = mc ∧ rm.slots = ms ∧ rm.frames + 1 ≤ R.frames ∧ 8 + (maxL + 11) + rm.locals ≤ R.locals ∧ (∀ w ∈ ws, ∀ (a' : Array Value) (U : State), s.WarmedH U.vm → w.before a' U = true) ∧ Cond.codeWith y bytes maxL ret hh ∈ ws) ∧
  (Cond.codeWith y bytes maxL ret hh).before args s = true ∧ (Cond.initialized y.cls).before args s = true ∧ (y.cls ≠ "java/lang/invoke/MethodHandle" ∧ y.cls ≠ "java/lang/invoke/VarHandle") ∧
  (∀ sig, parseMethodDescriptor y.desc = some sig → n = sig.parameters.length) ∧ (Cond.methodLink own index y).before args s = true ∧ (Cond.static y).before args s = true
theorem vx_cwSW {own : String} {index maxL mc ms : Nat} {y : MethodName} {bytes : ByteArray} {ret : Option FieldType} {hh : List (Nat × Nat × Nat × Nat)} {Ts ws ws' : List Cond} {rm : Room} (n : Nat) (ht : ∀ w ∈ Ts, w.before args s = true) (hT : GoodIn Ts (va_wsS own index y ws)) (hw : ws = Cond.codeWith y bytes maxL ret hh :: ws') (hrc : rm.cells = mc) (hrs : rm.slots = ms)
    (hd : y.cls ≠ "java/lang/invoke/MethodHandle" ∧ y.cls ≠ "java/lang/invoke/VarHandle" ∧ (parseMethodDescriptor y.desc).map (fun d => d.parameters.length) = some n) (hR : rm.frames + 1 ≤ R.frames ∧ 8 + (maxL + 11) + rm.locals ≤ R.locals) :
    vx_CSW R s args own index y bytes maxL ret hh ws rm mc ms n := by
  have ok : ∀ w ∈ va_wsS own index y ws, w.before args s = true := fun w h => ht w (hT w h).1
  have hG : GoodIn Ts ws := fun w h => hT w (by unfold va_wsS; exact List.mem_append_right _ h)
  have hc : Cond.codeWith y bytes maxL ret hh ∈ ws := by rw [hw]; exact List.mem_cons_self
  refine ⟨⟨hrc, hrs, hR.1, hR.2, pay_in ht hG, hc⟩, ht _ (hG _ hc).1, ok _ (by simp [va_wsS]), ⟨hd.1, hd.2.1⟩, fun sig h => ?_, ok _ (by simp [va_wsS]), ok _ (by simp [va_wsS])⟩
  have h2 := hd.2.2
  rw [h] at h2
  exact (Option.some.inj h2).symm
theorem vx_callSW (X : Stand p l e R s m args below meth c T locs cells slots) (hexec : p.tables.exec = Jvm.exec) {own : String} {index : Nat} {y : MethodName} {bytes : ByteArray} {maxL : Nat} {ret : Option FieldType} {hh : List (Nat × Nat × Nat × Nat)}
    (hown : s.vm.findClass own = some m.cls) (hlink : (Cond.methodLink own index y).before args s = true) (hstat : (Cond.static y).before args s = true) (hinit : (Cond.initialized y.cls).before args s = true)
    (hcode : (Cond.codeWith y bytes maxL ret hh).before args s = true) (hy : y.cls ≠ "java/lang/invoke/MethodHandle" ∧ y.cls ≠ "java/lang/invoke/VarHandle")
    {W9 : Nat} {Pre : Pt → Array Value → Prop} {Post : Pt → Array Value → Option Value → Pt → Prop} (hK : Back l R p e below s args y 3 W9 Pre Post)
    {g : JFrame} (hg : g.method = m) (hsize : g.locals.size = c.maxLocals) {argsL rest : List Value} (hlen : ∀ sig, parseMethodDescriptor y.desc = some sig → argsL.length = sig.parameters.length)
    (hstack : g.stack = argsL.reverse ++ rest) (hW : 2 * g.monitorRoom + (rest.map fun v => v.category).sum ≤ W9) (hdg : decode c.code g.pc = .ok (.invokestatic index, 3))
    (hpre : ∀ vm₁, s.WarmedH vm₁ → Pre ⟨T.setVm vm₁, locs, cells, slots⟩ argsL.toArray) :
    ∃ (v : Option Value) (vm₁ : Vm) (B : Pt), s.WarmedH vm₁ ∧ Stand p l e R s m args below meth c B.U B.locs B.cells B.slots ∧ Post ⟨T.setVm vm₁, locs, cells, slots⟩ argsL.toArray v B ∧
      ∀ target, Steps p.tables e below (B.U.setTop { g with pc := g.pc + 3, stack := v.toList ++ rest }) target → Steps p.tables e below (T.setTop g) target := by
  obtain ⟨mk, methM, cM, hnamed, hmethM, -, -, -, -, -, -, hsigM⟩ := Cond.codeWith_spec hcode
  have hstatic : methM.isStatic = true := Cond.static_spec hnamed hmethM hstat
  obtain ⟨kP, hkP, -⟩ := className_of_methodNamed hnamed
  have hinitP : kP.init = .initialized := Cond.initialized_spec (findClass_of_methodNamed hnamed) hkP hinit
  obtain ⟨vm₁, X₁, hstep₁⟩ := X.invokestatic hexec hown hlink hnamed hmethM hstatic hkP hinitP hy (g := g) hg (argsL := argsL) (rest := rest) (hlen _ hsigM) hstack hdg
  obtain ⟨v, B, X', hpost, hsteps⟩ := hK m meth c ⟨T.setVm vm₁, locs, cells, slots⟩ { g with stack := rest } (.invokestatic index) mk argsL.toArray X₁ hg hsize hdg hW (X₁.named hnamed) (hpre vm₁ X₁.warmed)
  exact ⟨v, vm₁, B, X₁.warmed, X', hpost, fun target h => hstep₁ _ fun acts => by rw [doInvoke_state]; exact hsteps.trans h⟩
theorem vx_runSW {y : MethodName} {bytes cc : ByteArray} {maxL nL mc ms n index : Nat} {ret : Option FieldType} {hh : List (Nat × Nat × Nat × Nat)} {ws : List Cond} {rm : Room} {Pc : Array Value → State → Prop} {Qc : Array Value → State → Outcome → State → Prop} {free : Addr → Prop} {Ts : List Cond} {own : String} {As rest : List Value} {g : JFrame}
    (S : CallFix p m c cc nL s args Ts own) (hM : Met l y ws rm Pc Qc mc ms free) (cw : vx_CSW R s args own index y bytes maxL ret hh ws rm mc ms n) (hp : PreS s H Pc As)
    (hg : g.method = m) (hn : As.length = n) (hsize : g.locals.size = nL) (hstack : g.stack = As.reverse ++ rest) (hW : 2 * g.monitorRoom + (rest.map fun v => v.category).sum ≤ 8) (hdg : decode cc g.pc = .ok (.invokestatic index, 3)) (hf : cells + mc ≤ R.cells ∧ slots + ms ≤ R.slots) :
    va_Run p l e R s m args below meth c H locs cells slots mc ms g rest (Qc As.toArray) (free) := by
  obtain ⟨⟨hrc, hrs, hfr, hlo, hws, hcw⟩, hcode, hini, hy, hlen, hl, hstt⟩ := cw
  have hK : Back l R p e below s args y 3 8 (PreOf R mc ms Pc) (PostOf Qc mc ms free) := va_backW (hh := hh) (bytes := bytes) (maxL := maxL) (ret := ret) hM hp.1 hrc hrs hfr hlo hws hcw (fun a' U hW => word_at hW (Or.inl (by first | rfl | simp [Cond.onTables, Cond.keeps, Cond.steady])) hini)
  obtain ⟨hx, hb, hml, ho, -⟩ := S
  intro T hT X
  obtain ⟨v, vm₁, ⟨U', l2, c2, s2⟩, hW₁, X', ⟨g', mk, t, L, e1, e2, hq, h1, hL, h2, h3⟩, st⟩ := vx_callSW X hx (hh := hh) (bytes := bytes) (maxL := maxL) (ret := ret) ho hl hstt hini hcode hy hK hg (hsize.trans hml.symm) (argsL := As) (rest := rest) (fun sig h => hn.trans (hlen sig h)) hstack hW (by rw [hb]; exact hdg)
    (fun vm₁ hW₁ => ⟨hf.1, hf.2, hp.2 (T.setVm vm₁) hT hW₁⟩)
  dsimp only [Pt.U, Pt.locs, Pt.cells, Pt.slots] at X' e1 e2 h1 h2 h3 st
  subst h1; subst h2; subst h3
  exact ⟨v, (T.setVm vm₁).calling g' mk As.toArray, t, U', L, hT, X', hL, e1, e2, hq, st⟩
/-- not caught here, past rows that name other classes: it goes on to the caller -/
theorem vx_outP {p : Program} {l : Launch} {e : Env} {R : Room} {s : State} {m : MethodId} {args : Array Value} {below : List Frame} {meth : Method} {c : Code} {H : Heap} {locs : List Loc} {cells slots : Nat} {free : Addr → Prop} {ls : Array Slot} {rest : List Value} {Qc : Array Value → State → Outcome → State → Prop} {XC : String → State → State → Prop}
    {pc : Nat} {own E : String} {ce : Cell} {q : Addr} {mc ms : Nat} (hown : s.vm.findClass own = some m.cls) (hlocks : meth.locks = false)
    (hpass : ∀ z ∈ c.exceptionTable.toList, covers z pc = false ∨ (z.catchType ≠ 0 ∧ ∃ nm : String, (Cond.classLink own z.catchType nm).before args s = true ∧ va_Nc E nm s)) (hcell : H[q]? = some ce) (hv : ce.vm = .none) (hcl : s.vm.findClass E = some ce.cls)
    (hx : ∀ t : State, t.heap = H → s.vm.Alike t.vm → XC E s t) (hf : ∀ z ∈ locs, free z.base) (hc : cells ≤ mc) (hs : slots ≤ ms) :
    vx_W p l e R s m args below meth c H locs cells slots (vx_MQ below Qc XC args s mc ms free) (F0 m pc ls rest) q := by
  intro T hT X
  have hpl : e.platform.magicAccessors = ({} : Platform).magicAccessors := by rw [X.admits.platform]
  obtain ⟨vm', hW', X', st⟩ := X.outThrough hlocks q (g := F0 m pc ls rest) rfl rfl rfl (cell := ce) (by rw [hT]; exact hcell) (by rw [hv]; rfl)
    (by obtain ⟨k9, h9, -⟩ := Vm.findClass_spec hcl; exact ⟨k9, h9⟩) (fun z hz => by
      rcases hpass z hz with h | ⟨hz0, nm, hl1, hn1⟩
      · exact Or.inl h
      · obtain ⟨c6, hc6, hcl6⟩ := Cond.classLink_spec hown hl1 e.platform hpl
        obtain ⟨a8, b8, h1, h2, h3⟩ := hn1
        cases Option.some.inj (h1.symm.trans hcl)
        cases Option.some.inj (h2.symm.trans hc6)
        exact Or.inr ⟨hz0, _, hcl6, h3⟩)
  obtain ⟨g₀, hfr⟩ := X'.frames_eq
  have hcell9 : ((T.setVm vm').setFrames (.throwing q :: below)).heap[q]? = some ce := by
    show T.heap[q]? = some ce
    rw [hT]; exact hcell
  have hend : Ended ((T.setVm vm').setFrames (.throwing q :: below)) below (.threw q) := State.frames_setFrames _ (State.cur_lt_of_frames hfr)
  refine ⟨(T.setVm vm').setFrames (.throwing q :: below), ?_, .threw q, X'.here.running, hend, Or.inr ⟨q, rfl, E, ce, locs, hx _ hT (X'.ends _).1.alike, hcell9, hv, hcl, (X'.ends _).1, (X'.ends _).2.mono hc hs, hf⟩⟩
  rw [X.pushThrowing_eq]
  exact st
/-- a thing of a world lies in the heap -/
theorem vx_lt {D : va_G} {cl : List vw_C} {ws : va_W} {H1 : Heap} (h : va_P D cl ws H1) {k : Nat} {q : Nat × va_E} (hk : ws[k]? = some q) : q.1 < H1.size := (h k q hk).lt
end VXS
/-! ===== END ===== -/
/-! ===== BEGIN methods with a table of their own: called by a name, returning or throwing ===== -/
section VXH
/-! vx_backW, vx_callVX, vx_callSX, vx_callVW, vx_runVW, vx_runVX, vx_runSX, vx_ofWH follow the same proofs as their sisters above (Free/Laws.lean, Shelf42/LK1.lean); vx_outP calls Shelf42/NT130.lean (outThrough). -/
section
variable {l : Launch} {R : Room} {p : Program} {e : Env} {below : List Frame} {s : State} {sargs : Array Value} {y : MethodName} {len W9 : Nat}
theorem vx_backW {ws : List Cond} {rm : Room} {Pc : Array Value → State → Prop} {Qc : Array Value → State → Outcome → State → Prop} {XC : String → State → State → Prop} {mc ms : Nat} {free : Addr → Prop} {bytes : ByteArray} {maxL : Nat} {ret : Option FieldType} {hh : List (Nat × Nat × Nat × Nat)}
    (hM : vx_Met l y ws rm Pc Qc XC mc ms free) (hblind : FrameBlind Pc) (hrc : rm.cells = mc) (hrs : rm.slots = ms)
    (hframes : rm.frames + 1 ≤ R.frames) (hlocals : W9 + (maxL + 11) + rm.locals ≤ R.locals)
    (hws : ∀ w ∈ ws, ∀ a' U, s.WarmedH U.vm → w.before a' U = true) (hcode : Cond.codeWith y bytes maxL ret hh ∈ ws) (hinit : ∀ a' U, s.WarmedH U.vm → (Cond.initialized y.cls).before a' U = true) :
    vx_Back l R p e below s sargs y len W9 (PreOf R mc ms Pc) (PostOf Qc mc ms free) (vx_Post XC mc ms free) := by
  intro m meth c A g ig mk a X hg hsize hdg hW hn hp
  have h1 : (headSpec ws rm).pre.before a A.U = true := atoms_intro fun w hw => hws w hw _ _ X.warmed
  have h2 : (Cond.codeWith y bytes maxL ret hh).before a A.U = true := hws _ hcode _ _ X.warmed
  have h3 : (Cond.initialized y.cls).before a A.U = true := hinit _ _ X.warmed
  have h4 : A.cells + (headSpec ws rm).room.cells ≤ R.cells := by rw [show (headSpec ws rm).room.cells = mc from hrc]; exact hp.1
  have h5 : A.slots + (headSpec ws rm).room.slots ≤ R.slots := by rw [show (headSpec ws rm).room.slots = ms from hrs]; exact hp.2.1
  have hPc : Pc a (A.U.calling g mk a) := hblind _ _ _ _ hp.2.2
  obtain ⟨U, Ls, c0, s0⟩ := A
  dsimp only [Pt.U, Pt.locs, Pt.cells, Pt.slots] at h1 h2 h3 h4 h5 X hn hPc ⊢
  obtain ⟨m9, methY, cY, hn9, hmY, hcY, -, hlY, -⟩ := Cond.codeWith_spec h2
  cases Option.some.inj (hn9.symm.trans hn)
  obtain ⟨kY, hkY, -⟩ := className_of_methodNamed hn
  have hinitY : kY.init = .initialized := Cond.initialized_spec (findClass_of_methodNamed hn) hkY h3
  have h : At U g.method c below := by rw [hg]; exact X.here
  have hlocals9 : W9 + (maxL + 11) + (headSpec ws rm).room.locals ≤ R.locals := hlocals
  have happ : (headSpec ws rm).appliesLoose y e.platform (U.calling g mk a) = true :=
    Spec.appliesLoose_calling (g := g) h hdg hn hkY hinitY
      (X.room_calling (g := g) (R' := (headSpec ws rm).room) hsize hmY hcY hframes (by rw [hlY]; omega) h4 h5) h1
  obtain ⟨mid, hmid⟩ := h.above
  have hfr : (U.setTop g).frames = (.java g :: mid) ++ below := by rw [State.frames_setTop' g h.top, hmid]; rfl
  obtain ⟨o, s₂, hsteps, -, hend, hq⟩ := Steps.callFree hM p X.admits X.cas X.clock (acts := []) hfr happ hPc trivial
  have hq' : vx_Q Qc XC mc ms free a (U.calling g mk a) o s₂ := hq
  rw [State.frames_setTop' g h.top] at hend
  obtain ⟨g₀, hg0⟩ := Option.isSome_iff_exists.mp h.top
  obtain ⟨r, hr⟩ := State.topJava?_eq_some.mp hg0
  have hr' : (({ U with heap := s₂.heap, slotsUsed := s₂.slotsUsed } : State).setVm s₂.vm).frames = .java g₀ :: r := hr
  rcases hq' with ⟨hqc, L, hfe, hL⟩ | ⟨q, rfl, E, ce, L, hx, hce, hcv, hcl, hW₂, hsm, hL⟩
  · obtain ⟨⟨v, rfl⟩, hW₂, e2, q2, q3, q4, q5, q6⟩ := id hfe
    have e3 : s₂ = ({ (U.calling g mk a).setFrames s₂.frames with heap := s₂.heap, slotsUsed := s₂.slotsUsed } : State).setVm s₂.vm := by
      have : s₂ = ({ s₂ with vm := (U.calling g mk a).vm } : State).setVm s₂.vm := rfl
      rw [e2] at this
      exact this
    obtain ⟨c₂, i₂, len₂, hc₂, hd₂, hf₂⟩ := hend
    have hW' : U.WarmedH s₂.vm := hW₂
    have hcc : c₂ = c := by
      have h1 : s₂.code? g.method = U.code? g.method := by
        rw [State.code?_eq, State.code?_eq, hW'.alike.method?]
      exact Option.some.inj (hc₂.symm.trans (h1.trans h.code))
    subst hcc
    have hlen : len₂ = len := by rw [hdg] at hd₂; cases hd₂; rfl
    subst hlen
    have hs₂ : s₂ = (({ U with heap := s₂.heap, slotsUsed := s₂.slotsUsed } : State).setVm s₂.vm).setTop { g with pc := g.pc + len₂, stack := v.toList ++ g.stack } := by
      refine e3.trans ?_
      rw [hf₂, State.calling_eq h.top, State.setFrames_setFrames, State.setTop_of_frames _ hr', hr]
      rfl
    have hsame : U.sameButNew ({ U with heap := s₂.heap, slotsUsed := s₂.slotsUsed } : State) L mc ms := by
      refine ⟨?_, q2, q3, q4, q5, q6⟩
      obtain ⟨t, ht, -⟩ := State.frames_cons hr
      show ({ U with heap := s₂.heap, slotsUsed := s₂.slotsUsed } : State) = { U.setFrames U.frames with heap := s₂.heap, slotsUsed := s₂.slotsUsed }
      rw [State.setFrames_self ht]
    subst hg
    refine Or.inl ⟨v, ⟨(({ U with heap := s₂.heap, slotsUsed := s₂.slotsUsed } : State).setVm s₂.vm), Ls ++ L, c0 + mc, s0 + ms⟩,
      ⟨X.admits, X.cas, X.clock, X.frames, X.room, X.hears, X.method, X.code, (X.here.setHeapUsed s₂.heap s₂.slotsUsed).setVm hW'.alike, X.tail, State.WarmedH.trans X.warmed hW', X.limits, X.bytes, X.same.trans (hsame.setVm s.vm)⟩,
      ⟨g, mk, s₂, L, rfl, rfl, hqc, rfl, hL, rfl, rfl⟩, ?_⟩
    show Steps p.tables e below _ ((({ U with heap := s₂.heap, slotsUsed := s₂.slotsUsed } : State).setVm s₂.vm).setTop { g with pc := g.pc + len₂, stack := v.toList ++ g.stack })
    rw [← hs₂]
    exact hsteps
  · obtain ⟨e2, q2, q3, q4, q5, q6⟩ := id hsm
    have e3 : s₂ = ({ (U.calling g mk a).setFrames s₂.frames with heap := s₂.heap, slotsUsed := s₂.slotsUsed } : State).setVm s₂.vm := by
      have : s₂ = ({ s₂ with vm := (U.calling g mk a).vm } : State).setVm s₂.vm := rfl
      rw [e2] at this
      exact this
    have hf₂ : s₂.frames = .throwing q :: .java g :: U.frames.tail := hend
    have hW' : U.WarmedH s₂.vm := hW₂
    have hs₂ : s₂ = ((({ U with heap := s₂.heap, slotsUsed := s₂.slotsUsed } : State).setVm s₂.vm).setTop g).pushFrame (.throwing q) := by
      refine e3.trans ?_
      rw [hf₂, State.calling_eq h.top, State.setFrames_setFrames, State.pushFrame, State.frames_setTop _ hr', State.setTop_of_frames _ hr', State.setFrames_setFrames, hr]
      rfl
    have hsame : U.sameButNew ({ U with heap := s₂.heap, slotsUsed := s₂.slotsUsed } : State) L mc ms := by
      refine ⟨?_, q2, q3, q4, q5, q6⟩
      obtain ⟨t, ht, -⟩ := State.frames_cons hr
      show ({ U with heap := s₂.heap, slotsUsed := s₂.slotsUsed } : State) = { U.setFrames U.frames with heap := s₂.heap, slotsUsed := s₂.slotsUsed }
      rw [State.setFrames_self ht]
    subst hg
    refine Or.inr ⟨q, ⟨(({ U with heap := s₂.heap, slotsUsed := s₂.slotsUsed } : State).setVm s₂.vm), Ls ++ L, c0 + mc, s0 + ms⟩,
      ⟨X.admits, X.cas, X.clock, X.frames, X.room, X.hears, X.method, X.code, (X.here.setHeapUsed s₂.heap s₂.slotsUsed).setVm hW'.alike, X.tail, State.WarmedH.trans X.warmed hW', X.limits, X.bytes, X.same.trans (hsame.setVm s.vm)⟩,
      ⟨g, mk, s₂, L, E, ce, rfl, rfl, hx, hce, hcv, hcl, rfl, hL, rfl, rfl⟩, ?_⟩
    show Steps p.tables e below _ (((({ U with heap := s₂.heap, slotsUsed := s₂.slotsUsed } : State).setVm s₂.vm).setTop g).pushFrame (.throwing q))
    rw [← hs₂]
    exact hsteps
end
variable {p : Program} {l : Launch} {e : Env} {R : Room} {s : State} {m : MethodId} {args : Array Value} {below : List Frame} {meth : Method} {c : Code} {T : State} {H : Heap} {locs : List Loc} {cells slots : Nat}
theorem vx_callVX (X : Stand p l e R s m args below meth c T locs cells slots) (hexec : p.tables.exec = Jvm.exec) {own C : String} {index : Nat} {y : MethodName} {bytes : ByteArray} {maxL : Nat} {ret : Option FieldType} {hh : List (Nat × Nat × Nat × Nat)}
    (hown : s.vm.findClass own = some m.cls) (hlink : (Cond.methodLink own index y).before args s = true) (hinst : (Cond.instanceMethod y).before args s = true) (hsel : (Cond.selects C y y).before args s = true)
    (hcode : (Cond.codeWith y bytes maxL ret hh).before args s = true) (hy : y.cls ≠ "java/lang/invoke/MethodHandle" ∧ y.cls ≠ "java/lang/invoke/VarHandle")
    {W9 : Nat} {Pre : Pt → Array Value → Prop} {Post : Pt → Array Value → Option Value → Pt → Prop} {PostX : Pt → Array Value → Addr → Pt → Prop} (hK : vx_Back l R p e below s args y 3 W9 Pre Post PostX)
    {b : Addr} {cellB : Cell} (hcell : T.heap[b]? = some cellB) (hobj : cellB.vm.isStatics = false) (hcls : s.vm.findClass C = some cellB.cls)
    {g : JFrame} (hg : g.method = m) (hsize : g.locals.size = c.maxLocals) {argsL rest : List Value} (hlen : ∀ sig, parseMethodDescriptor y.desc = some sig → argsL.length = sig.parameters.length)
    (hstack : g.stack = argsL.reverse ++ .ref b :: rest) (hW : 2 * g.monitorRoom + (rest.map fun v => v.category).sum ≤ W9) (hdg : decode c.code g.pc = .ok (.invokevirtual index, 3))
    (hpre : ∀ vm₁, s.WarmedH vm₁ → Pre ⟨T.setVm vm₁, locs, cells, slots⟩ (Value.ref b :: argsL).toArray) :
    (∃ (v : Option Value) (vm₁ : Vm) (B : Pt), s.WarmedH vm₁ ∧ Stand p l e R s m args below meth c B.U B.locs B.cells B.slots ∧ Post ⟨T.setVm vm₁, locs, cells, slots⟩ (Value.ref b :: argsL).toArray v B ∧
      ∀ target, Steps p.tables e below (B.U.setTop { g with pc := g.pc + 3, stack := v.toList ++ rest }) target → Steps p.tables e below (T.setTop g) target) ∨
    (∃ (q : Addr) (vm₁ : Vm) (B : Pt), s.WarmedH vm₁ ∧ Stand p l e R s m args below meth c B.U B.locs B.cells B.slots ∧ PostX ⟨T.setVm vm₁, locs, cells, slots⟩ (Value.ref b :: argsL).toArray q B ∧
      Steps p.tables e below (T.setTop g) ((B.U.setTop { g with stack := rest }).pushFrame (.throwing q))) := by
  obtain ⟨mk, methM, hnamed, hmethM, hstM, habM⟩ := Cond.instanceMethod_spec hinst
  obtain ⟨m8, methM', cM, hn8, hmethM', -, -, -, -, -, -, hsigM⟩ := Cond.codeWith_spec hcode
  cases Option.some.inj (hn8.symm.trans hnamed)
  cases hmethM.symm.trans hmethM'
  obtain ⟨c2, r2, m2, q1, q2, q3, q4, kP, hkP, hkPi⟩ := Cond.selects_spec hsel
  cases hcls.symm.trans q1
  cases (State.methodFound?_of_named hnamed hy).symm.trans q2
  cases hnamed.symm.trans q3
  have hselP : selectMethod e.platform s.vm cellB.cls mk = .method mk := by rw [Launch.admits_selectMethod X.admits]; exact q4
  obtain ⟨vm₁, X₁, hstep₁⟩ := X.invokevirtual hexec hown hlink hnamed hmethM hstM hkP hkPi hy (a := b) (cell := cellB) hcell
    (fun z h => by rw [h] at hobj; cases hobj) hselP hmethM habM hkP hkPi (g := g) hg (argsL := argsL) (rest := rest) (hlen _ hsigM) hstack hdg
  rcases hK m meth c ⟨T.setVm vm₁, locs, cells, slots⟩ { g with stack := rest } (.invokevirtual index) mk (Value.ref b :: argsL).toArray X₁ hg hsize hdg hW (X₁.named hnamed) (hpre vm₁ X₁.warmed) with ⟨v, B, X', hpost, hsteps⟩ | ⟨q, B, X', hpost, hsteps⟩
  · exact Or.inl ⟨v, vm₁, B, X₁.warmed, X', hpost, fun target h => hstep₁ _ fun acts => by rw [doInvoke_state]; exact hsteps.trans h⟩
  · exact Or.inr ⟨q, vm₁, B, X₁.warmed, X', hpost, hstep₁ _ fun acts => by rw [doInvoke_state]; exact hsteps⟩
theorem vx_callSX (X : Stand p l e R s m args below meth c T locs cells slots) (hexec : p.tables.exec = Jvm.exec) {own : String} {index : Nat} {y : MethodName} {bytes : ByteArray} {maxL : Nat} {ret : Option FieldType} {hh : List (Nat × Nat × Nat × Nat)}
    (hown : s.vm.findClass own = some m.cls) (hlink : (Cond.methodLink own index y).before args s = true) (hstat : (Cond.static y).before args s = true) (hinit : (Cond.initialized y.cls).before args s = true)
    (hcode : (Cond.codeWith y bytes maxL ret hh).before args s = true) (hy : y.cls ≠ "java/lang/invoke/MethodHandle" ∧ y.cls ≠ "java/lang/invoke/VarHandle")
    {W9 : Nat} {Pre : Pt → Array Value → Prop} {Post : Pt → Array Value → Option Value → Pt → Prop} {PostX : Pt → Array Value → Addr → Pt → Prop} (hK : vx_Back l R p e below s args y 3 W9 Pre Post PostX)
    {g : JFrame} (hg : g.method = m) (hsize : g.locals.size = c.maxLocals) {argsL rest : List Value} (hlen : ∀ sig, parseMethodDescriptor y.desc = some sig → argsL.length = sig.parameters.length)
    (hstack : g.stack = argsL.reverse ++ rest) (hW : 2 * g.monitorRoom + (rest.map fun v => v.category).sum ≤ W9) (hdg : decode c.code g.pc = .ok (.invokestatic index, 3))
    (hpre : ∀ vm₁, s.WarmedH vm₁ → Pre ⟨T.setVm vm₁, locs, cells, slots⟩ argsL.toArray) :
    (∃ (v : Option Value) (vm₁ : Vm) (B : Pt), s.WarmedH vm₁ ∧ Stand p l e R s m args below meth c B.U B.locs B.cells B.slots ∧ Post ⟨T.setVm vm₁, locs, cells, slots⟩ argsL.toArray v B ∧
      ∀ target, Steps p.tables e below (B.U.setTop { g with pc := g.pc + 3, stack := v.toList ++ rest }) target → Steps p.tables e below (T.setTop g) target) ∨
    (∃ (q : Addr) (vm₁ : Vm) (B : Pt), s.WarmedH vm₁ ∧ Stand p l e R s m args below meth c B.U B.locs B.cells B.slots ∧ PostX ⟨T.setVm vm₁, locs, cells, slots⟩ argsL.toArray q B ∧
      Steps p.tables e below (T.setTop g) ((B.U.setTop { g with stack := rest }).pushFrame (.throwing q))) := by
  obtain ⟨mk, methM, cM, hnamed, hmethM, -, -, -, -, -, -, hsigM⟩ := Cond.codeWith_spec hcode
  have hstatic : methM.isStatic = true := Cond.static_spec hnamed hmethM hstat
  obtain ⟨kP, hkP, -⟩ := className_of_methodNamed hnamed
  have hinitP : kP.init = .initialized := Cond.initialized_spec (findClass_of_methodNamed hnamed) hkP hinit
  obtain ⟨vm₁, X₁, hstep₁⟩ := X.invokestatic hexec hown hlink hnamed hmethM hstatic hkP hinitP hy (g := g) hg (argsL := argsL) (rest := rest) (hlen _ hsigM) hstack hdg
  rcases hK m meth c ⟨T.setVm vm₁, locs, cells, slots⟩ { g with stack := rest } (.invokestatic index) mk argsL.toArray X₁ hg hsize hdg hW (X₁.named hnamed) (hpre vm₁ X₁.warmed) with ⟨v, B, X', hpost, hsteps⟩ | ⟨q, B, X', hpost, hsteps⟩
  · exact Or.inl ⟨v, vm₁, B, X₁.warmed, X', hpost, fun target h => hstep₁ _ fun acts => by rw [doInvoke_state]; exact hsteps.trans h⟩
  · exact Or.inr ⟨q, vm₁, B, X₁.warmed, X', hpost, hstep₁ _ fun acts => by rw [doInvoke_state]; exact hsteps⟩
theorem vx_callVW (X : Stand p l e R s m args below meth c T locs cells slots) (hexec : p.tables.exec = Jvm.exec) {own C : String} {index : Nat} {y : MethodName} {bytes : ByteArray} {maxL : Nat} {ret : Option FieldType} {hh : List (Nat × Nat × Nat × Nat)}
    (hown : s.vm.findClass own = some m.cls) (hlink : (Cond.methodLink own index y).before args s = true) (hinst : (Cond.instanceMethod y).before args s = true) (hsel : (Cond.selects C y y).before args s = true)
    (hcode : (Cond.codeWith y bytes maxL ret hh).before args s = true) (hy : y.cls ≠ "java/lang/invoke/MethodHandle" ∧ y.cls ≠ "java/lang/invoke/VarHandle")
    {W9 : Nat} {Pre : Pt → Array Value → Prop} {Post : Pt → Array Value → Option Value → Pt → Prop} (hK : Back l R p e below s args y 3 W9 Pre Post)
    {b : Addr} {cellB : Cell} (hcell : T.heap[b]? = some cellB) (hobj : cellB.vm.isStatics = false) (hcls : s.vm.findClass C = some cellB.cls)
    {g : JFrame} (hg : g.method = m) (hsize : g.locals.size = c.maxLocals) {argsL rest : List Value} (hlen : ∀ sig, parseMethodDescriptor y.desc = some sig → argsL.length = sig.parameters.length)
    (hstack : g.stack = argsL.reverse ++ .ref b :: rest) (hW : 2 * g.monitorRoom + (rest.map fun v => v.category).sum ≤ W9) (hdg : decode c.code g.pc = .ok (.invokevirtual index, 3))
    (hpre : ∀ vm₁, s.WarmedH vm₁ → Pre ⟨T.setVm vm₁, locs, cells, slots⟩ (Value.ref b :: argsL).toArray) :
    ∃ (v : Option Value) (vm₁ : Vm) (B : Pt), s.WarmedH vm₁ ∧ Stand p l e R s m args below meth c B.U B.locs B.cells B.slots ∧ Post ⟨T.setVm vm₁, locs, cells, slots⟩ (Value.ref b :: argsL).toArray v B ∧
      ∀ target, Steps p.tables e below (B.U.setTop { g with pc := g.pc + 3, stack := v.toList ++ rest }) target → Steps p.tables e below (T.setTop g) target := by
  obtain ⟨mk, methM, hnamed, hmethM, hstM, habM⟩ := Cond.instanceMethod_spec hinst
  obtain ⟨m8, methM', cM, hn8, hmethM', -, -, -, -, -, -, hsigM⟩ := Cond.codeWith_spec hcode
  cases Option.some.inj (hn8.symm.trans hnamed)
  cases hmethM.symm.trans hmethM'
  obtain ⟨c2, r2, m2, q1, q2, q3, q4, kP, hkP, hkPi⟩ := Cond.selects_spec hsel
  cases hcls.symm.trans q1
  cases (State.methodFound?_of_named hnamed hy).symm.trans q2
  cases hnamed.symm.trans q3
  have hselP : selectMethod e.platform s.vm cellB.cls mk = .method mk := by rw [Launch.admits_selectMethod X.admits]; exact q4
  obtain ⟨vm₁, X₁, hstep₁⟩ := X.invokevirtual hexec hown hlink hnamed hmethM hstM hkP hkPi hy (a := b) (cell := cellB) hcell
    (fun z h => by rw [h] at hobj; cases hobj) hselP hmethM habM hkP hkPi (g := g) hg (argsL := argsL) (rest := rest) (hlen _ hsigM) hstack hdg
  obtain ⟨v, B, X', hpost, hsteps⟩ := hK m meth c ⟨T.setVm vm₁, locs, cells, slots⟩ { g with stack := rest } (.invokevirtual index) mk (Value.ref b :: argsL).toArray X₁ hg hsize hdg hW (X₁.named hnamed) (hpre vm₁ X₁.warmed)
  exact ⟨v, vm₁, B, X₁.warmed, X', hpost, fun target h => hstep₁ _ fun acts => by rw [doInvoke_state]; exact hsteps.trans h⟩
abbrev vx_CVW (R : Room) (s : State) (args : Array Value) (own C : String) (index : Nat) (y : MethodName) (bytes : ByteArray) (maxL : Nat) (ret : Option FieldType) (hh : List (Nat × Nat × Nat × Nat)) (ws : List Cond) (rm : Room) (mc ms n : Nat) : Prop :=
  (rm.cells = mc ∧ rm.slots = ms ∧ rm.frames + 1 ≤ R.frames ∧ 8 + (maxL + 11) + rm.locals ≤ R.locals ∧ (∀ w ∈ ws, ∀ (a' : Array Value) (U : State), s.WarmedH U.vm → w.before a' U = true) ∧ Cond.codeWith y bytes maxL ret hh ∈ ws) ∧
  (Cond.codeWith y bytes maxL ret hh).before args s = true ∧ (Cond.initialized y.cls).before args s = true ∧ (y.cls ≠ "java/lang/invoke/MethodHandle" ∧ y.cls ≠ "java/lang/invoke/VarHandle") ∧
  (∀ sig, parseMethodDescriptor y.desc = some sig → n = sig.parameters.length) ∧ (Cond.methodLink own index y).before args s = true ∧ (Cond.instanceMethod y).before args s = true ∧ (Cond.selects C y y).before args s = true
theorem vx_cwVW {own C : String} {index maxL mc ms : Nat} {y : MethodName} {bytes : ByteArray} {ret : Option FieldType} {hh : List (Nat × Nat × Nat × Nat)} {Ts ws ws' : List Cond} {rm : Room} (n : Nat) (ht : ∀ w ∈ Ts, w.before args s = true) (hT : GoodIn Ts (wsV own index C y ws)) (hw : ws = Cond.codeWith y bytes maxL ret hh :: ws') (hrc : rm.cells = mc) (hrs : rm.slots = ms)
    (hd : y.cls = C ∧ y.cls ≠ "java/lang/invoke/MethodHandle" ∧ y.cls ≠ "java/lang/invoke/VarHandle" ∧ (parseMethodDescriptor y.desc).map (fun d => d.parameters.length) = some n) (hR : rm.frames + 1 ≤ R.frames ∧ 8 + (maxL + 11) + rm.locals ≤ R.locals) :
    vx_CVW R s args own C index y bytes maxL ret hh ws rm mc ms n := by
  obtain ⟨hC, hd⟩ := hd
  subst hC
  have ok : ∀ w ∈ wsV own index y.cls y ws, w.before args s = true := fun w h => ht w (hT w h).1
  have hG : GoodIn Ts ws := fun w h => hT w (by unfold wsV; exact List.mem_append_right _ h)
  have hc : Cond.codeWith y bytes maxL ret hh ∈ ws := by rw [hw]; exact List.mem_cons_self
  refine ⟨⟨hrc, hrs, hR.1, hR.2, pay_in ht hG, hc⟩, ht _ (hG _ hc).1, ok _ (by simp [wsV]), ⟨hd.1, hd.2.1⟩, fun sig h => ?_, ok _ (by simp [wsV]), ok _ (by simp [wsV]), ok _ (by simp [wsV])⟩
  have h2 := hd.2.2
  rw [h] at h2
  exact (Option.some.inj h2).symm
theorem vx_runVW {y : MethodName} {bytes cc : ByteArray} {maxL nL mc ms n index : Nat} {ret : Option FieldType} {hh : List (Nat × Nat × Nat × Nat)} {ws : List Cond} {rm : Room} {Pc : Array Value → State → Prop} {Qc : Array Value → State → Outcome → State → Prop} {free : Addr → Prop} {Ts : List Cond} {own C : String} {b : Addr} {As rest : List Value} {g : JFrame}
    (S : CallFix p m c cc nL s args Ts own) (hM : Met l y ws rm Pc Qc mc ms free) (cw : vx_CVW R s args own C index y bytes maxL ret hh ws rm mc ms n) (hp : PreV s H C b Pc As)
    (hg : g.method = m) (hn : As.length = n) (hsize : g.locals.size = nL) (hstack : g.stack = As.reverse ++ .ref b :: rest) (hW : 2 * g.monitorRoom + (rest.map fun v => v.category).sum ≤ 8) (hdg : decode cc g.pc = .ok (.invokevirtual index, 3)) (hf : cells + mc ≤ R.cells ∧ slots + ms ≤ R.slots) :
    va_Run p l e R s m args below meth c H locs cells slots mc ms g rest (Qc (Value.ref b :: As).toArray) free := by
  obtain ⟨⟨hrc, hrs, hfr, hlo, hws, hcw⟩, hcode, hini, hy, hlen, hl, hin, hse⟩ := cw
  have hK : Back l R p e below s args y 3 8 (PreOf R mc ms Pc) (PostOf Qc mc ms free) := va_backW (hh := hh) (bytes := bytes) (maxL := maxL) (ret := ret) hM hp.1 hrc hrs hfr hlo hws hcw (fun a' U hW => word_at hW (Or.inl (by first | rfl | simp [Cond.onTables, Cond.keeps, Cond.steady])) hini)
  obtain ⟨hx, hb, hml, ho, -⟩ := S
  obtain ⟨-, ⟨cellB, hcB, hoB, hclB⟩, hPc⟩ := hp
  intro T hT X
  obtain ⟨v, vm₁, ⟨U', l2, c2, s2⟩, hW₁, X', ⟨g', mk, t, L, e1, e2, hq, h1, hL, h2, h3⟩, st⟩ := vx_callVW X hx (C := C) (hh := hh) (bytes := bytes) (maxL := maxL) (ret := ret) ho hl hin hse hcode hy hK (by rw [hT]; exact hcB) hoB hclB hg (hsize.trans hml.symm) (argsL := As) (rest := rest) (fun sig h => hn.trans (hlen sig h)) hstack hW (by rw [hb]; exact hdg)
    (fun vm₁ hW₁ => ⟨hf.1, hf.2, hPc (T.setVm vm₁) hT hW₁⟩)
  dsimp only [Pt.U, Pt.locs, Pt.cells, Pt.slots] at X' e1 e2 h1 h2 h3 st
  subst h1; subst h2; subst h3
  exact ⟨v, (T.setVm vm₁).calling g' mk (Value.ref b :: As).toArray, t, U', L, hT, X', hL, e1, e2, hq, st⟩
section
variable {y : MethodName} {bytes cc : ByteArray} {maxL nL mc ms n index : Nat} {ret : Option FieldType} {ws : List Cond} {rm : Room} {Pc : Array Value → State → Prop} {Qc : Array Value → State → Outcome → State → Prop} {XC : String → State → State → Prop} {free : Addr → Prop} {Ts : List Cond} {own C : String} {b : Addr} {As rest : List Value} {g : JFrame}
theorem vx_runVX {hh : List (Nat × Nat × Nat × Nat)} (S : CallFix p m c cc nL s args Ts own) (hM : vx_Met l y ws rm Pc Qc XC mc ms free) (cw : vx_CVW R s args own C index y bytes maxL ret hh ws rm mc ms n) (hp : PreV s H C b Pc As)
    (hg : g.method = m) (hn : As.length = n) (hsize : g.locals.size = nL) (hstack : g.stack = As.reverse ++ .ref b :: rest) (hW : 2 * g.monitorRoom + (rest.map fun v => v.category).sum ≤ 8) (hdg : decode cc g.pc = .ok (.invokevirtual index, 3)) (hf : cells + mc ≤ R.cells ∧ slots + ms ≤ R.slots) :
    vx_Run p l e R s m args below meth c H locs cells slots mc ms g rest (Qc (Value.ref b :: As).toArray) XC free := by
  obtain ⟨⟨hrc, hrs, hfr, hlo, hws, hcw⟩, hcode, hini, hy, hlen, hl, hin, hse⟩ := cw
  have hK : vx_Back l R p e below s args y 3 8 (PreOf R mc ms Pc) (PostOf Qc mc ms free) (vx_Post XC mc ms free) := vx_backW (hh := hh) (bytes := bytes) (maxL := maxL) (ret := ret) hM hp.1 hrc hrs hfr hlo hws hcw (fun a' U hW => word_at hW (Or.inl (by first | rfl | simp [Cond.onTables, Cond.keeps, Cond.steady])) hini)
  obtain ⟨hx, hb, hml, ho, -⟩ := S
  obtain ⟨-, ⟨cellB, hcB, hoB, hclB⟩, hPc⟩ := hp
  intro T hT X
  rcases vx_callVX X hx (C := C) (hh := hh) (bytes := bytes) (maxL := maxL) (ret := ret) ho hl hin hse hcode hy hK (by rw [hT]; exact hcB) hoB hclB hg (hsize.trans hml.symm) (argsL := As) (rest := rest) (fun sig h => hn.trans (hlen sig h)) hstack hW (by rw [hb]; exact hdg)
    (fun vm₁ hW₁ => ⟨hf.1, hf.2, hPc (T.setVm vm₁) hT hW₁⟩) with ⟨v, vm₁, ⟨U', l2, c2, s2⟩, hW₁, X', ⟨g', mk, t, L, e1, e2, hq, h1, hL, h2, h3⟩, st⟩ | ⟨q, vm₁, ⟨U', l2, c2, s2⟩, hW₁, X', ⟨g', mk, t, L, E, ce, e1, e2, hq, hce, hcv, hcl, h1, hL, h2, h3⟩, st⟩
  · dsimp only [Pt.U, Pt.locs, Pt.cells, Pt.slots] at X' e1 e2 h1 h2 h3 st
    subst h1; subst h2; subst h3
    exact Or.inl ⟨v, (T.setVm vm₁).calling g' mk (Value.ref b :: As).toArray, t, U', L, hT, X', hL, e1, e2, hq, st⟩
  · dsimp only [Pt.U, Pt.locs, Pt.cells, Pt.slots] at X' e1 e2 h1 h2 h3 st hcl
    subst h1; subst h2; subst h3
    exact Or.inr ⟨q, (T.setVm vm₁).calling g' mk (Value.ref b :: As).toArray, t, U', L, E, ce, hT, X', hL, e1, e2, hq, hce, hcv, vx_cls hW₁ hcl, st⟩
theorem vx_runSX {hh : List (Nat × Nat × Nat × Nat)} (S : CallFix p m c cc nL s args Ts own) (hM : vx_Met l y ws rm Pc Qc XC mc ms free) (cw : vx_CSW R s args own index y bytes maxL ret hh ws rm mc ms n) (hp : PreS s H Pc As)
    (hg : g.method = m) (hn : As.length = n) (hsize : g.locals.size = nL) (hstack : g.stack = As.reverse ++ rest) (hW : 2 * g.monitorRoom + (rest.map fun v => v.category).sum ≤ 8) (hdg : decode cc g.pc = .ok (.invokestatic index, 3)) (hf : cells + mc ≤ R.cells ∧ slots + ms ≤ R.slots) :
    vx_Run p l e R s m args below meth c H locs cells slots mc ms g rest (Qc As.toArray) XC free := by
  obtain ⟨⟨hrc, hrs, hfr, hlo, hws, hcw⟩, hcode, hini, hy, hlen, hl, hstt⟩ := cw
  have hK : vx_Back l R p e below s args y 3 8 (PreOf R mc ms Pc) (PostOf Qc mc ms free) (vx_Post XC mc ms free) := vx_backW (hh := hh) (bytes := bytes) (maxL := maxL) (ret := ret) hM hp.1 hrc hrs hfr hlo hws hcw (fun a' U hW => word_at hW (Or.inl (by first | rfl | simp [Cond.onTables, Cond.keeps, Cond.steady])) hini)
  obtain ⟨hx, hb, hml, ho, -⟩ := S
  intro T hT X
  rcases vx_callSX X hx (hh := hh) (bytes := bytes) (maxL := maxL) (ret := ret) ho hl hstt hini hcode hy hK hg (hsize.trans hml.symm) (argsL := As) (rest := rest) (fun sig h => hn.trans (hlen sig h)) hstack hW (by rw [hb]; exact hdg)
    (fun vm₁ hW₁ => ⟨hf.1, hf.2, hp.2 (T.setVm vm₁) hT hW₁⟩) with ⟨v, vm₁, ⟨U', l2, c2, s2⟩, hW₁, X', ⟨g', mk, t, L, e1, e2, hq, h1, hL, h2, h3⟩, st⟩ | ⟨q, vm₁, ⟨U', l2, c2, s2⟩, hW₁, X', ⟨g', mk, t, L, E, ce, e1, e2, hq, hce, hcv, hcl, h1, hL, h2, h3⟩, st⟩
  · dsimp only [Pt.U, Pt.locs, Pt.cells, Pt.slots] at X' e1 e2 h1 h2 h3 st
    subst h1; subst h2; subst h3
    exact Or.inl ⟨v, (T.setVm vm₁).calling g' mk As.toArray, t, U', L, hT, X', hL, e1, e2, hq, st⟩
  · dsimp only [Pt.U, Pt.locs, Pt.cells, Pt.slots] at X' e1 e2 h1 h2 h3 st hcl
    subst h1; subst h2; subst h3
    exact Or.inr ⟨q, (T.setVm vm₁).calling g' mk As.toArray, t, U', L, E, ce, hT, X', hL, e1, e2, hq, hce, hcv, vx_cls hW₁ hcl, st⟩
end
end VXH
theorem vx_ofWH {l : Launch} {y : MethodName} {ws ws' : List Cond} {rm : Room} {Pc : Array Value → State → Prop} {Qc : Array Value → State → Outcome → State → Prop} {XC : String → State → State → Prop} {mc ms : Nat} {free : Addr → Prop} {cc : ByteArray} {maxL : Nat} {ret : Option FieldType} {hh : List (Nat × Nat × Nat × Nat)}
    (hy : plainName y.cls = true) (hw : ws = Cond.codeWith y cc maxL ret hh :: ws')
    (body : ∀ p e s m args below meth c s₁, BodyLoose p l y (headSpec ws rm) cc maxL ret e s m args below meth c s₁ → c.maxLocals = maxL → Pc args s →
      W p l e (headSpec ws rm).room s m args below meth c s.heap [] 0 0 (vx_MQ below Qc XC args s mc ms free) (entryFrame m args maxL)) : vx_Met l y ws rm Pc Qc XC mc ms free := by
  refine MetFree.of_bodyS (code := cc) (maxLocals := maxL) (ret := ret) hy ?_ ?_
  · intro args s m h hn
    obtain ⟨m9, meth, c, hn9, h1, h2, h3, h4, -, h5, h6, -⟩ := Cond.codeWith_spec (atoms_spec (ws := ws) h _ (by rw [hw]; exact List.mem_cons_self))
    cases hn.symm.trans hn9
    exact ⟨meth, c, h1, h2, h3, h4, h5, h6⟩
  · intro p e s m args below meth c s₁ B hml hP _
    have hh0 : s₁.heap = s.heap := by rw [B.state]; rfl
    obtain ⟨t, a1, o, b1, b2, b3⟩ := body p e s m args below meth c s₁ B hml hP s₁ hh0 (Stand.of_body B)
    exact ⟨t, o, a1, b1, b2, b3⟩
/-! ===== END ===== -/
end
section
/-! ===== BEGIN printed: names, fields, word lists, decode rows ===== -/
def RX0 : String := "StampSheets$Machine"
def TX0 : u_T := fun k => match k with
  | 0 => ("StampSheets$Machine", "pins", "[LStampSheets$Pin;", true)
  | 1 => ("StampSheets$Machine", "feed", "I", false)
  | 2 => ("StampSheets$Machine", "drift", "I", false)
  | 3 => ("StampSheets$Machine", "error", "I", false)
  | 4 => ("StampSheets$Machine", "rowsLeft", "I", false)
  | 5 => ("StampSheets$Machine", "rowsRun", "I", false)
  | _ => ("StampSheets$Machine", "step", "I", false)
def tyX0 : Nat → FieldType := fun k => match k with
  | 0 => .array (.object "StampSheets$Pin")
  | 1 => .int
  | 2 => .int
  | 3 => .int
  | 4 => .int
  | 5 => .int
  | _ => .int
abbrev wsX00 : List Cond := u_ws RX0 TX0 7
theorem nmX0 : ∀ a, a < 7 → ∀ b, b < 7 → a ≠ b → (TX0 a).2.1 ≠ (TX0 b).2.1 := by decide +kernel
theorem tyX0_ok : ∀ k, k < 7 → parseFieldDescriptor (TX0 k).2.2.1 = some (tyX0 k) := by decide +kernel
abbrev cX0_init : ByteArray := prog_2_method_1_code
def yX0_init : MethodName := ⟨RX0, "<init>", "()V"⟩
abbrev cX0_becomeLike : ByteArray := prog_2_method_2_code
def yX0_becomeLike : MethodName := ⟨RX0, "becomeLike", "(LStampSheets$Machine;)V"⟩
abbrev cX0_perforate : ByteArray := prog_2_method_3_code
def yX0_perforate : MethodName := ⟨RX0, "perforate", "([ZLStampSheets$Sheet;)V"⟩
abbrev cX0_markRow : ByteArray := prog_2_method_4_code
def yX0_markRow : MethodName := ⟨RX0, "markRow", "(I[ZLStampSheets$Sheet;)V"⟩
abbrev cX0_holeFaults : ByteArray := prog_2_method_5_code
def yX0_holeFaults : MethodName := ⟨RX0, "holeFaults", "(I)I"⟩
abbrev cX0_hasWatermark : ByteArray := prog_2_method_6_code
def yX0_hasWatermark : MethodName := ⟨RX0, "hasWatermark", "(I)Z"⟩
abbrev cX0_strikeAll : ByteArray := prog_2_method_7_code
def yX0_strikeAll : MethodName := ⟨RX0, "strikeAll", "()V"⟩
abbrev cX0_brokenPins : ByteArray := prog_2_method_8_code
def yX0_brokenPins : MethodName := ⟨RX0, "brokenPins", "()I"⟩
def RX1 : String := "StampSheets$Pin"
def TX1 : u_T := fun k => match k with
  | 0 => ("StampSheets$Pin", "strength", "I", false)
  | _ => ("StampSheets$Pin", "wear", "I", false)
def tyX1 : Nat → FieldType := fun k => match k with
  | 0 => .int
  | _ => .int
abbrev wsX10 : List Cond := u_ws RX1 TX1 2
theorem nmX1 : ∀ a, a < 2 → ∀ b, b < 2 → a ≠ b → (TX1 a).2.1 ≠ (TX1 b).2.1 := by decide +kernel
theorem tyX1_ok : ∀ k, k < 2 → parseFieldDescriptor (TX1 k).2.2.1 = some (tyX1 k) := by decide +kernel
abbrev cX1_init : ByteArray := prog_3_method_1_code
def yX1_init : MethodName := ⟨RX1, "<init>", "()V"⟩
abbrev cX1_isWhole : ByteArray := prog_3_method_2_code
def yX1_isWhole : MethodName := ⟨RX1, "isWhole", "()Z"⟩
abbrev cX1_strike : ByteArray := prog_3_method_3_code
def yX1_strike : MethodName := ⟨RX1, "strike", "()V"⟩
abbrev cX1_becomeLike : ByteArray := prog_3_method_4_code
def yX1_becomeLike : MethodName := ⟨RX1, "becomeLike", "(LStampSheets$Pin;)V"⟩
abbrev cX1_answer : ByteArray := prog_3_method_5_code
def yX1_answer : MethodName := ⟨RX1, "answer", "(I)I"⟩
def RX2 : String := "StampSheets$Sheet"
def TX2 : u_T := fun k => match k with
  | 0 => ("StampSheets$Sheet", "faultSets", "[I", true)
  | _ => ("StampSheets$Sheet", "tornOff", "[Z", true)
def tyX2 : Nat → FieldType := fun k => match k with
  | 0 => .array .int
  | _ => .array .boolean
abbrev wsX20 : List Cond := u_ws RX2 TX2 2
theorem nmX2 : ∀ a, a < 2 → ∀ b, b < 2 → a ≠ b → (TX2 a).2.1 ≠ (TX2 b).2.1 := by decide +kernel
theorem tyX2_ok : ∀ k, k < 2 → parseFieldDescriptor (TX2 k).2.2.1 = some (tyX2 k) := by decide +kernel
abbrev cX2_init : ByteArray := prog_4_method_1_code
def yX2_init : MethodName := ⟨RX2, "<init>", "()V"⟩
abbrev cX2_answer : ByteArray := prog_4_method_2_code
def yX2_answer : MethodName := ⟨RX2, "answer", "(I)I"⟩
abbrev cX2_worthOf : ByteArray := prog_4_method_3_code
def yX2_worthOf : MethodName := ⟨RX2, "worthOf", "(I)I"⟩
abbrev cX2_worth : ByteArray := prog_4_method_4_code
def yX2_worth : MethodName := ⟨RX2, "worth", "()I"⟩
abbrev cX2_left : ByteArray := prog_4_method_5_code
def yX2_left : MethodName := ⟨RX2, "left", "()I"⟩
abbrev cX2_isLeftWith : ByteArray := prog_4_method_6_code
def yX2_isLeftWith : MethodName := ⟨RX2, "isLeftWith", "(II)Z"⟩
abbrev cX2_leftWith : ByteArray := prog_4_method_7_code
def yX2_leftWith : MethodName := ⟨RX2, "leftWith", "(I)I"⟩
abbrev cX2_invertedPairs : ByteArray := prog_4_method_8_code
def yX2_invertedPairs : MethodName := ⟨RX2, "invertedPairs", "()I"⟩
abbrev cX2_isInvertedPair : ByteArray := prog_4_method_9_code
def yX2_isInvertedPair : MethodName := ⟨RX2, "isInvertedPair", "(I)Z"⟩
abbrev cX2_rowsOff : ByteArray := prog_4_method_10_code
def yX2_rowsOff : MethodName := ⟨RX2, "rowsOff", "()I"⟩
abbrev cX2_greatestBlock : ByteArray := prog_4_method_11_code
def yX2_greatestBlock : MethodName := ⟨RX2, "greatestBlock", "()I"⟩
abbrev cX2_goodColumns : ByteArray := prog_4_method_12_code
def yX2_goodColumns : MethodName := ⟨RX2, "goodColumns", "(I)I"⟩
abbrev cX2_longestRun : ByteArray := prog_4_method_13_code
def yX2_longestRun : MethodName := ⟨RX2, "longestRun", "(I)I"⟩
def RX3 : String := "StampSheets$Trial"
def TX3 : u_T := fun k => match k with
  | 0 => ("StampSheets$Trial", "machine", "LStampSheets$Machine;", true)
  | 1 => ("StampSheets$Trial", "sheet", "LStampSheets$Sheet;", true)
  | 2 => ("StampSheets$Trial", "faultless", "I", false)
  | _ => ("StampSheets$Trial", "worth", "I", false)
def tyX3 : Nat → FieldType := fun k => match k with
  | 0 => .object "StampSheets$Machine"
  | 1 => .object "StampSheets$Sheet"
  | 2 => .int
  | _ => .int
abbrev wsX30 : List Cond := u_ws RX3 TX3 4
theorem nmX3 : ∀ a, a < 4 → ∀ b, b < 4 → a ≠ b → (TX3 a).2.1 ≠ (TX3 b).2.1 := by decide +kernel
theorem tyX3_ok : ∀ k, k < 4 → parseFieldDescriptor (TX3 k).2.2.1 = some (tyX3 k) := by decide +kernel
abbrev cX3_init : ByteArray := prog_5_method_1_code
def yX3_init : MethodName := ⟨RX3, "<init>", "()V"⟩
abbrev cX3_perforateFrom : ByteArray := prog_5_method_2_code
def yX3_perforateFrom : MethodName := ⟨RX3, "perforateFrom", "(LStampSheets$Machine;I[ZI)V"⟩
abbrev cX3_answer : ByteArray := prog_5_method_3_code
def yX3_answer : MethodName := ⟨RX3, "answer", "(I)I"⟩
def RX4 : String := "StampSheets"
def TX4 : u_T := fun k => match k with
  | 0 => ("StampSheets", "machine", "LStampSheets$Machine;", true)
  | 1 => ("StampSheets", "trial", "LStampSheets$Trial;", true)
  | 2 => ("StampSheets", "plateInverted", "[Z", true)
  | 3 => ("StampSheets", "sheetStore", "[LStampSheets$Sheet;", true)
  | _ => ("StampSheets", "sheetCount", "I", false)
def tyX4 : Nat → FieldType := fun k => match k with
  | 0 => .object "StampSheets$Machine"
  | 1 => .object "StampSheets$Trial"
  | 2 => .array .boolean
  | 3 => .array (.object "StampSheets$Sheet")
  | _ => .int
abbrev wsX40 : List Cond := u_ws RX4 TX4 5
theorem nmX4 : ∀ a, a < 5 → ∀ b, b < 5 → a ≠ b → (TX4 a).2.1 ≠ (TX4 b).2.1 := by decide +kernel
theorem tyX4_ok : ∀ k, k < 5 → parseFieldDescriptor (TX4 k).2.2.1 = some (tyX4 k) := by decide +kernel
abbrev cX4_init : ByteArray := prog_1_method_1_code
def yX4_init : MethodName := ⟨RX4, "<init>", "()V"⟩
abbrev cX4_setFeed : ByteArray := prog_1_method_2_code
def yX4_setFeed : MethodName := ⟨RX4, "setFeed", "(II)I"⟩
abbrev cX4_align : ByteArray := prog_1_method_3_code
def yX4_align : MethodName := ⟨RX4, "align", "()I"⟩
abbrev cX4_roll : ByteArray := prog_1_method_4_code
def yX4_roll : MethodName := ⟨RX4, "roll", "(II)I"⟩
abbrev cX4_fit : ByteArray := prog_1_method_5_code
def yX4_fit : MethodName := ⟨RX4, "fit", "(II)I"⟩
abbrev cX4_turn : ByteArray := prog_1_method_6_code
def yX4_turn : MethodName := ⟨RX4, "turn", "(II)Z"⟩
abbrev cX4_run : ByteArray := prog_1_method_7_code
def yX4_run : MethodName := ⟨RX4, "run", "()I"⟩
abbrev cX4_faults : ByteArray := prog_1_method_8_code
def yX4_faults : MethodName := ⟨RX4, "faults", "(III)I"⟩
abbrev cX4_tear : ByteArray := prog_1_method_9_code
def yX4_tear : MethodName := ⟨RX4, "tear", "(III)I"⟩
abbrev cX4_sheet : ByteArray := prog_1_method_10_code
def yX4_sheet : MethodName := ⟨RX4, "sheet", "(II)I"⟩
abbrev cX4_pin : ByteArray := prog_1_method_11_code
def yX4_pin : MethodName := ⟨RX4, "pin", "(II)I"⟩
abbrev cX4_count : ByteArray := prog_1_method_12_code
def yX4_count : MethodName := ⟨RX4, "count", "(I)I"⟩
abbrev cX4_foresee : ByteArray := prog_1_method_13_code
def yX4_foresee : MethodName := ⟨RX4, "foresee", "(II)I"⟩
abbrev cX4_like : ByteArray := prog_1_method_15_code
def yX4_like : MethodName := ⟨RX4, "like", "(I)I"⟩
abbrev cX4_share : ByteArray := prog_1_method_16_code
def yX4_share : MethodName := ⟨RX4, "share", "()D"⟩
abbrev cX4_isWithin : ByteArray := prog_1_method_18_code
def yX4_isWithin : MethodName := ⟨RX4, "isWithin", "(III)Z"⟩
abbrev cX4_checkPin : ByteArray := prog_1_method_19_code
def yX4_checkPin : MethodName := ⟨RX4, "checkPin", "(I)V"⟩
abbrev cX4_checkPlace : ByteArray := prog_1_method_20_code
def yX4_checkPlace : MethodName := ⟨RX4, "checkPlace", "(II)V"⟩
abbrev cX4_checkSheet : ByteArray := prog_1_method_21_code
def yX4_checkSheet : MethodName := ⟨RX4, "checkSheet", "(I)V"⟩
abbrev cX4_checkWhat : ByteArray := prog_1_method_22_code
def yX4_checkWhat : MethodName := ⟨RX4, "checkWhat", "(II)V"⟩
abbrev cX4_checkSheetsToRun : ByteArray := prog_1_method_23_code
def yX4_checkSheetsToRun : MethodName := ⟨RX4, "checkSheetsToRun", "(I)V"⟩
abbrev cX4_countAnswer : ByteArray := prog_1_method_24_code
def yX4_countAnswer : MethodName := ⟨RX4, "countAnswer", "(I)I"⟩
abbrev cX4_invertedPlaces : ByteArray := prog_1_method_25_code
def yX4_invertedPlaces : MethodName := ⟨RX4, "invertedPlaces", "()I"⟩
abbrev cX4_worthOfSheets : ByteArray := prog_1_method_26_code
def yX4_worthOfSheets : MethodName := ⟨RX4, "worthOfSheets", "()I"⟩
abbrev cX4_stampsWith : ByteArray := prog_1_method_27_code
def yX4_stampsWith : MethodName := ⟨RX4, "stampsWith", "(I)I"⟩
def RX5 : String := "StampSheetsLaw$Sim"
def TX5 : u_T := fun k => match k with
  | 0 => ("StampSheetsLaw$Sim", "feed", "I", false)
  | 1 => ("StampSheetsLaw$Sim", "drift", "I", false)
  | 2 => ("StampSheetsLaw$Sim", "error", "I", false)
  | 3 => ("StampSheetsLaw$Sim", "left", "I", false)
  | 4 => ("StampSheetsLaw$Sim", "step", "I", false)
  | 5 => ("StampSheetsLaw$Sim", "ran", "I", false)
  | 6 => ("StampSheetsLaw$Sim", "strength", "[I", false)
  | 7 => ("StampSheetsLaw$Sim", "wear", "[I", false)
  | 8 => ("StampSheetsLaw$Sim", "broken", "[Z", false)
  | 9 => ("StampSheetsLaw$Sim", "plate", "[[Z", false)
  | 10 => ("StampSheetsLaw$Sim", "sheets", "[[[I", false)
  | _ => ("StampSheetsLaw$Sim", "torn", "[[[Z", false)
def tyX5 : Nat → FieldType := fun k => match k with
  | 0 => .int
  | 1 => .int
  | 2 => .int
  | 3 => .int
  | 4 => .int
  | 5 => .int
  | 6 => .array .int
  | 7 => .array .int
  | 8 => .array .boolean
  | 9 => .array (.array .boolean)
  | 10 => .array (.array (.array .int))
  | _ => .array (.array (.array .boolean))
abbrev wsX50 : List Cond := u_ws RX5 TX5 12
theorem nmX5 : ∀ a, a < 12 → ∀ b, b < 12 → a ≠ b → (TX5 a).2.1 ≠ (TX5 b).2.1 := by decide +kernel
theorem tyX5_ok : ∀ k, k < 12 → parseFieldDescriptor (TX5 k).2.2.1 = some (tyX5 k) := by decide +kernel
abbrev cX5_init : ByteArray := prog_7_method_1_code
def yX5_init : MethodName := ⟨RX5, "<init>", "()V"⟩
abbrev cX5_sheet : ByteArray := prog_7_method_3_code
def yX5_sheet : MethodName := ⟨RX5, "sheet", "()[[I"⟩
abbrev cX5_run : ByteArray := prog_7_method_4_code
def yX5_run : MethodName := ⟨RX5, "run", "()I"⟩
abbrev cX5_worth : ByteArray := prog_7_method_5_code
def yX5_worth : MethodName := ⟨RX5, "worth", "(IZ)I"⟩
abbrev cX5_told : ByteArray := prog_7_method_6_code
def yX5_told : MethodName := ⟨RX5, "told", "(II)I"⟩
abbrev cX5_broken : ByteArray := prog_7_method_7_code
def yX5_broken : MethodName := ⟨RX5, "broken", "()I"⟩
abbrev cX5_isSame : ByteArray := prog_7_method_8_code
def yX5_isSame : MethodName := ⟨RX5, "isSame", "(LStampSheets;)Z"⟩
def RX6 : String := "StampSheetsModel"
def TX6 : u_T := fun k => match k with
  | _ => ("", "", "", false)
def tyX6 : Nat → FieldType := fun k => match k with
  | _ => .int
abbrev wsX60 : List Cond := u_ws RX6 TX6 0
theorem nmX6 : ∀ a, a < 0 → ∀ b, b < 0 → a ≠ b → (TX6 a).2.1 ≠ (TX6 b).2.1 := by decide +kernel
theorem tyX6_ok : ∀ k, k < 0 → parseFieldDescriptor (TX6 k).2.2.1 = some (tyX6 k) := by decide +kernel
def RJx8e188 : String := "java/lang/Cloneable"
def TJx8e188 : u_T := fun k => match k with
  | _ => ("", "", "", false)
def tyJx8e188 : Nat → FieldType := fun k => match k with
  | _ => .int
abbrev wsJx8e1880 : List Cond := u_ws RJx8e188 TJx8e188 0
theorem nmJx8e188 : ∀ a, a < 0 → ∀ b, b < 0 → a ≠ b → (TJx8e188 a).2.1 ≠ (TJx8e188 b).2.1 := by decide +kernel
theorem tyJx8e188_ok : ∀ k, k < 0 → parseFieldDescriptor (TJx8e188 k).2.2.1 = some (tyJx8e188 k) := by decide +kernel
def RJ9 : String := "java/lang/Math"
def TJ9 : u_T := fun k => match k with
  | _ => ("", "", "", false)
def tyJ9 : Nat → FieldType := fun k => match k with
  | _ => .int
abbrev wsJ90 : List Cond := u_ws RJ9 TJ9 0
theorem nmJ9 : ∀ a, a < 0 → ∀ b, b < 0 → a ≠ b → (TJ9 a).2.1 ≠ (TJ9 b).2.1 := by decide +kernel
theorem tyJ9_ok : ∀ k, k < 0 → parseFieldDescriptor (TJ9 k).2.2.1 = some (tyJ9 k) := by decide +kernel
abbrev cJ9_max_7cf53 : ByteArray := prog_14_method_65_code
def yJ9_max_7cf53 : MethodName := ⟨RJ9, "max", "(II)I"⟩
abbrev cJ9_min_7cf53 : ByteArray := prog_14_method_69_code
def yJ9_min_7cf53 : MethodName := ⟨RJ9, "min", "(II)I"⟩
def RJ0 : String := "java/lang/String"
def TJ0 : u_T := fun k => match k with
  | _ => ("", "", "", false)
def tyJ0 : Nat → FieldType := fun k => match k with
  | _ => .int
abbrev wsJ00 : List Cond := u_ws RJ0 TJ0 0
theorem nmJ0 : ∀ a, a < 0 → ∀ b, b < 0 → a ≠ b → (TJ0 a).2.1 ≠ (TJ0 b).2.1 := by decide +kernel
theorem tyJ0_ok : ∀ k, k < 0 → parseFieldDescriptor (TJ0 k).2.2.1 = some (tyJ0 k) := by decide +kernel
def RL : String := "StampSheetsLaw"
abbrev cL_below : ByteArray := method_2_code
def yL_below : MethodName := ⟨RL, "below", "(II)I"⟩
abbrev cL_cell : ByteArray := method_3_code
def yL_cell : MethodName := ⟨RL, "cell", "([II)I"⟩
abbrev cL_act : ByteArray := method_4_code
def yL_act : MethodName := ⟨RL, "act", "(LStampSheets;LStampSheetsLaw$Sim;I)Z"⟩
abbrev cL_build : ByteArray := method_5_code
def yL_build : MethodName := ⟨RL, "build", "(LStampSheets;[I)LStampSheetsLaw$Sim;"⟩
abbrev cL_law : ByteArray := code
def yL_law : MethodName := ⟨RL, "law", "([I)Z"⟩
def wsX1_init : List Cond := .code yX1_init cX1_init 1 none :: ([.methodLink RX1 3 objectInit, .instanceMethod objectInit, .code objectInit ⟨#[0xb1]⟩ 1 none, .fieldLink RX1 9 "StampSheets$Pin" "strength" "I"] ++ wsX10)
def wsX0_init : List Cond := .code yX0_init cX0_init 2 none :: ([.methodLink RX0 3 objectInit, .instanceMethod objectInit, .code objectInit ⟨#[0xb1]⟩ 1 none, .fieldLink RX0 9 "StampSheets$Machine" "feed" "I", .fieldLink RX0 15 "StampSheets$Machine" "step" "I", .classLink RX0 18 RX1, .fieldLink RX0 20 "StampSheets$Machine" "pins" "[LStampSheets$Pin;", .instantiable RX1 2, .initialized RX1, .instanceMethod yX1_init, .code yX1_init cX1_init 1 none, .methodLink RX1 3 objectInit, .fieldLink RX1 9 "StampSheets$Pin" "strength" "I"] ++ wsX00 ++ wsX10)
def wsX1_becomeLike : List Cond := .code yX1_becomeLike cX1_becomeLike 2 none :: ([.fieldLink RX1 9 "StampSheets$Pin" "strength" "I", .fieldLink RX1 15 "StampSheets$Pin" "wear" "I"] ++ wsX10)
def wsX0_becomeLike : List Cond := .code yX0_becomeLike cX0_becomeLike 3 none :: ([.fieldLink RX0 20 "StampSheets$Machine" "pins" "[LStampSheets$Pin;", .fieldLink RX0 9 "StampSheets$Machine" "feed" "I", .fieldLink RX0 29 "StampSheets$Machine" "drift" "I", .fieldLink RX0 32 "StampSheets$Machine" "error" "I", .fieldLink RX0 35 "StampSheets$Machine" "rowsLeft" "I", .fieldLink RX0 38 "StampSheets$Machine" "rowsRun" "I", .fieldLink RX0 15 "StampSheets$Machine" "step" "I", .methodLink RX0 25 yX1_becomeLike, .instanceMethod yX1_becomeLike, .selects RX1 yX1_becomeLike yX1_becomeLike, .initialized RX1, .code yX1_becomeLike cX1_becomeLike 2 none, .fieldLink RX1 9 "StampSheets$Pin" "strength" "I", .fieldLink RX1 15 "StampSheets$Pin" "wear" "I"] ++ wsX00 ++ wsX10)
def wsX4_isWithin : List Cond := .code yX4_isWithin cX4_isWithin 3 (some .boolean) :: ([])
def wsX1_isWhole : List Cond := .code yX1_isWhole cX1_isWhole 1 (some .boolean) :: ([.fieldLink RX1 15 "StampSheets$Pin" "wear" "I", .fieldLink RX1 9 "StampSheets$Pin" "strength" "I"] ++ wsX10)
def wsX0_holeFaults : List Cond := .code yX0_holeFaults cX0_holeFaults 3 (some .int) :: ([.fieldLink RX0 20 "StampSheets$Machine" "pins" "[LStampSheets$Pin;", .methodLink RX0 75 yX1_isWhole, .instanceMethod yX1_isWhole, .selects RX1 yX1_isWhole yX1_isWhole, .initialized RX1, .code yX1_isWhole cX1_isWhole 1 (some .boolean), .fieldLink RX1 15 "StampSheets$Pin" "wear" "I", .fieldLink RX1 9 "StampSheets$Pin" "strength" "I"] ++ wsX00 ++ wsX10)
def wsX0_hasWatermark : List Cond := .code yX0_hasWatermark cX0_hasWatermark 2 (some .boolean) :: ([.fieldLink RX0 15 "StampSheets$Machine" "step" "I", .fieldLink RX0 38 "StampSheets$Machine" "rowsRun" "I"] ++ wsX00)
def wsX0_markRow : List Cond := .code yX0_markRow cX0_markRow 8 none :: ([.fieldLink RX0 32 "StampSheets$Machine" "error" "I", .static yX4_isWithin, .initialized RX4, .code yX4_isWithin cX4_isWithin 3 (some .boolean), .methodLink RX0 61 yX0_holeFaults, .instanceMethod yX0_holeFaults, .selects RX0 yX0_holeFaults yX0_holeFaults, .initialized RX0, .code yX0_holeFaults cX0_holeFaults 3 (some .int), .fieldLink RX0 20 "StampSheets$Machine" "pins" "[LStampSheets$Pin;", .methodLink RX0 75 yX1_isWhole, .instanceMethod yX1_isWhole, .selects RX1 yX1_isWhole yX1_isWhole, .initialized RX1, .code yX1_isWhole cX1_isWhole 1 (some .boolean), .fieldLink RX1 15 "StampSheets$Pin" "wear" "I", .fieldLink RX1 9 "StampSheets$Pin" "strength" "I", .methodLink RX0 65 yX0_hasWatermark, .instanceMethod yX0_hasWatermark, .selects RX0 yX0_hasWatermark yX0_hasWatermark, .code yX0_hasWatermark cX0_hasWatermark 2 (some .boolean), .fieldLink RX0 15 "StampSheets$Machine" "step" "I", .fieldLink RX0 38 "StampSheets$Machine" "rowsRun" "I"] ++ wsX00 ++ wsX20 ++ wsX10)
def wsX1_strike : List Cond := .code yX1_strike cX1_strike 1 none :: ([.fieldLink RX1 15 "StampSheets$Pin" "wear" "I", .methodLink RX1 18 yX1_isWhole, .instanceMethod yX1_isWhole, .selects RX1 yX1_isWhole yX1_isWhole, .initialized RX1, .code yX1_isWhole cX1_isWhole 1 (some .boolean), .fieldLink RX1 9 "StampSheets$Pin" "strength" "I"] ++ wsX10)
def wsX0_strikeAll : List Cond := .code yX0_strikeAll cX0_strikeAll 2 none :: ([.fieldLink RX0 20 "StampSheets$Machine" "pins" "[LStampSheets$Pin;", .methodLink RX0 79 yX1_strike, .instanceMethod yX1_strike, .selects RX1 yX1_strike yX1_strike, .initialized RX1, .code yX1_strike cX1_strike 1 none, .fieldLink RX1 15 "StampSheets$Pin" "wear" "I", .methodLink RX1 18 yX1_isWhole, .instanceMethod yX1_isWhole, .selects RX1 yX1_isWhole yX1_isWhole, .code yX1_isWhole cX1_isWhole 1 (some .boolean), .fieldLink RX1 9 "StampSheets$Pin" "strength" "I"] ++ wsX00 ++ wsX10)
def wsX0_perforate_r1 : List Cond := [Cond.fieldLink RX0 32 "StampSheets$Machine" "error" "I", Cond.fieldLink RX0 9 "StampSheets$Machine" "feed" "I", Cond.fieldLink RX0 35 "StampSheets$Machine" "rowsLeft" "I", Cond.fieldLink RX0 38 "StampSheets$Machine" "rowsRun" "I", Cond.fieldLink RX0 29 "StampSheets$Machine" "drift" "I", Cond.methodLink RX0 48 Lib.Math.min.name, Cond.static Lib.Math.min.name, Cond.initialized "java/lang/Math", Cond.code Lib.Math.min.name Lib.Math.min.code 2 (some .int), Cond.methodLink RX0 54 Lib.Math.max.name, Cond.static Lib.Math.max.name, Cond.code Lib.Math.max.name Lib.Math.max.code 2 (some .int), Cond.methodLink RX0 41 yX0_markRow, Cond.instanceMethod yX0_markRow, Cond.selects RX0 yX0_markRow yX0_markRow, Cond.initialized RX0, Cond.code yX0_markRow cX0_markRow 8 none, Cond.static yX4_isWithin, Cond.initialized RX4, Cond.code yX4_isWithin cX4_isWithin 3 (some .boolean), Cond.methodLink RX0 61 yX0_holeFaults, Cond.instanceMethod yX0_holeFaults, Cond.selects RX0 yX0_holeFaults yX0_holeFaults, Cond.code yX0_holeFaults cX0_holeFaults 3 (some .int)]
def wsX0_perforate_r2 : List Cond := [Cond.fieldLink RX0 20 "StampSheets$Machine" "pins" "[LStampSheets$Pin;", Cond.methodLink RX0 75 yX1_isWhole, Cond.instanceMethod yX1_isWhole, Cond.selects RX1 yX1_isWhole yX1_isWhole, Cond.initialized RX1, Cond.code yX1_isWhole cX1_isWhole 1 (some .boolean), Cond.fieldLink RX1 15 "StampSheets$Pin" "wear" "I", Cond.fieldLink RX1 9 "StampSheets$Pin" "strength" "I", Cond.methodLink RX0 65 yX0_hasWatermark, Cond.instanceMethod yX0_hasWatermark, Cond.selects RX0 yX0_hasWatermark yX0_hasWatermark, Cond.code yX0_hasWatermark cX0_hasWatermark 2 (some .boolean), Cond.fieldLink RX0 15 "StampSheets$Machine" "step" "I", Cond.methodLink RX0 45 yX0_strikeAll, Cond.instanceMethod yX0_strikeAll, Cond.selects RX0 yX0_strikeAll yX0_strikeAll, Cond.code yX0_strikeAll cX0_strikeAll 2 none, Cond.methodLink RX0 79 yX1_strike, Cond.instanceMethod yX1_strike, Cond.selects RX1 yX1_strike yX1_strike, Cond.code yX1_strike cX1_strike 1 none, Cond.methodLink RX1 18 yX1_isWhole]
def wsX0_perforate : List Cond := .code yX0_perforate cX0_perforate 4 none :: ((wsX0_perforate_r1 ++ wsX0_perforate_r2) ++ wsX00 ++ wsX20 ++ wsX10)
def wsX0_brokenPins : List Cond := .code yX0_brokenPins cX0_brokenPins 3 (some .int) :: ([.fieldLink RX0 20 "StampSheets$Machine" "pins" "[LStampSheets$Pin;", .methodLink RX0 75 yX1_isWhole, .instanceMethod yX1_isWhole, .selects RX1 yX1_isWhole yX1_isWhole, .initialized RX1, .code yX1_isWhole cX1_isWhole 1 (some .boolean), .fieldLink RX1 15 "StampSheets$Pin" "wear" "I", .fieldLink RX1 9 "StampSheets$Pin" "strength" "I"] ++ wsX00 ++ wsX10)
def wsX1_answer : List Cond := .code yX1_answer cX1_answer 2 (some .int) :: ([.fieldLink RX1 9 "StampSheets$Pin" "strength" "I", .fieldLink RX1 15 "StampSheets$Pin" "wear" "I", .methodLink RX1 18 yX1_isWhole, .instanceMethod yX1_isWhole, .selects RX1 yX1_isWhole yX1_isWhole, .initialized RX1, .code yX1_isWhole cX1_isWhole 1 (some .boolean)] ++ wsX10)
def wsX2_init : List Cond := .code yX2_init cX2_init 1 none :: ([.methodLink RX2 3 objectInit, .instanceMethod objectInit, .code objectInit ⟨#[0xb1]⟩ 1 none, .arrayClass .int, .fieldLink RX2 9 "StampSheets$Sheet" "faultSets" "[I", .arrayClass .boolean, .fieldLink RX2 15 "StampSheets$Sheet" "tornOff" "[Z"] ++ wsX20)
def wsX2_left : List Cond := .code yX2_left cX2_left 3 (some .int) :: ([.fieldLink RX2 15 "StampSheets$Sheet" "tornOff" "[Z"] ++ wsX20)
def wsX2_isLeftWith : List Cond := .code yX2_isLeftWith cX2_isLeftWith 3 (some .boolean) :: ([.fieldLink RX2 15 "StampSheets$Sheet" "tornOff" "[Z", .fieldLink RX2 9 "StampSheets$Sheet" "faultSets" "[I"] ++ wsX20)
def wsX2_leftWith : List Cond := .code yX2_leftWith cX2_leftWith 4 (some .int) :: ([.methodLink RX2 42 yX2_isLeftWith, .instanceMethod yX2_isLeftWith, .selects RX2 yX2_isLeftWith yX2_isLeftWith, .initialized RX2, .code yX2_isLeftWith cX2_isLeftWith 3 (some .boolean), .fieldLink RX2 15 "StampSheets$Sheet" "tornOff" "[Z", .fieldLink RX2 9 "StampSheets$Sheet" "faultSets" "[I"] ++ wsX20)
def wsX2_worthOf : List Cond := .code yX2_worthOf cX2_worthOf 4 (some .int) :: ([.fieldLink RX2 9 "StampSheets$Sheet" "faultSets" "[I", .fieldLink RX2 15 "StampSheets$Sheet" "tornOff" "[Z"] ++ wsX20)
def wsX2_worth : List Cond := .code yX2_worth cX2_worth 3 (some .int) :: ([.methodLink RX2 39 yX2_worthOf, .instanceMethod yX2_worthOf, .selects RX2 yX2_worthOf yX2_worthOf, .initialized RX2, .code yX2_worthOf cX2_worthOf 4 (some .int), .fieldLink RX2 9 "StampSheets$Sheet" "faultSets" "[I", .fieldLink RX2 15 "StampSheets$Sheet" "tornOff" "[Z"] ++ wsX20)
def wsX2_isInvertedPair : List Cond := .code yX2_isInvertedPair cX2_isInvertedPair 3 (some .boolean) :: ([.fieldLink RX2 15 "StampSheets$Sheet" "tornOff" "[Z", .fieldLink RX2 9 "StampSheets$Sheet" "faultSets" "[I"] ++ wsX20)
def wsX2_invertedPairs : List Cond := .code yX2_invertedPairs cX2_invertedPairs 4 (some .int) :: ([.methodLink RX2 46 yX2_isInvertedPair, .instanceMethod yX2_isInvertedPair, .selects RX2 yX2_isInvertedPair yX2_isInvertedPair, .initialized RX2, .code yX2_isInvertedPair cX2_isInvertedPair 3 (some .boolean), .fieldLink RX2 15 "StampSheets$Sheet" "tornOff" "[Z", .fieldLink RX2 9 "StampSheets$Sheet" "faultSets" "[I"] ++ wsX20)
def wsX2_rowsOff : List Cond := .code yX2_rowsOff cX2_rowsOff 3 (some .int) :: ([.fieldLink RX2 9 "StampSheets$Sheet" "faultSets" "[I"] ++ wsX20)
def wsX2_goodColumns : List Cond := .code yX2_goodColumns cX2_goodColumns 4 (some .int) :: ([.methodLink RX2 42 yX2_isLeftWith, .instanceMethod yX2_isLeftWith, .selects RX2 yX2_isLeftWith yX2_isLeftWith, .initialized RX2, .code yX2_isLeftWith cX2_isLeftWith 3 (some .boolean), .fieldLink RX2 15 "StampSheets$Sheet" "tornOff" "[Z", .fieldLink RX2 9 "StampSheets$Sheet" "faultSets" "[I"] ++ wsX20)
def wsX2_longestRun : List Cond := .code yX2_longestRun cX2_longestRun 4 (some .int) :: ([.methodLink RX2 56 Lib.Math.max.name, .static Lib.Math.max.name, .initialized "java/lang/Math", .code Lib.Math.max.name Lib.Math.max.code 2 (some .int)])
def wsX2_greatestBlock : List Cond := .code yX2_greatestBlock cX2_greatestBlock 5 (some .int) :: ([.methodLink RX2 56 Lib.Math.max.name, .static Lib.Math.max.name, .initialized "java/lang/Math", .code Lib.Math.max.name Lib.Math.max.code 2 (some .int), .methodLink RX2 50 yX2_goodColumns, .instanceMethod yX2_goodColumns, .selects RX2 yX2_goodColumns yX2_goodColumns, .initialized RX2, .code yX2_goodColumns cX2_goodColumns 4 (some .int), .methodLink RX2 42 yX2_isLeftWith, .instanceMethod yX2_isLeftWith, .selects RX2 yX2_isLeftWith yX2_isLeftWith, .code yX2_isLeftWith cX2_isLeftWith 3 (some .boolean), .fieldLink RX2 15 "StampSheets$Sheet" "tornOff" "[Z", .fieldLink RX2 9 "StampSheets$Sheet" "faultSets" "[I", .methodLink RX2 53 yX2_longestRun, .static yX2_longestRun, .code yX2_longestRun cX2_longestRun 4 (some .int)] ++ wsX20)
def wsX2_answer_r1 : List Cond := [Cond.methodLink RX2 19 yX2_left, Cond.instanceMethod yX2_left, Cond.selects RX2 yX2_left yX2_left, Cond.initialized RX2, Cond.code yX2_left cX2_left 3 (some .int), Cond.fieldLink RX2 15 "StampSheets$Sheet" "tornOff" "[Z", Cond.methodLink RX2 23 yX2_leftWith, Cond.instanceMethod yX2_leftWith, Cond.selects RX2 yX2_leftWith yX2_leftWith, Cond.code yX2_leftWith cX2_leftWith 4 (some .int), Cond.methodLink RX2 42 yX2_isLeftWith, Cond.instanceMethod yX2_isLeftWith, Cond.selects RX2 yX2_isLeftWith yX2_isLeftWith, Cond.code yX2_isLeftWith cX2_isLeftWith 3 (some .boolean), Cond.fieldLink RX2 9 "StampSheets$Sheet" "faultSets" "[I", Cond.methodLink RX2 27 yX2_worth, Cond.instanceMethod yX2_worth, Cond.selects RX2 yX2_worth yX2_worth, Cond.code yX2_worth cX2_worth 3 (some .int), Cond.methodLink RX2 39 yX2_worthOf, Cond.instanceMethod yX2_worthOf, Cond.selects RX2 yX2_worthOf yX2_worthOf, Cond.code yX2_worthOf cX2_worthOf 4 (some .int), Cond.methodLink RX2 30 yX2_invertedPairs]
def wsX2_answer_r2 : List Cond := [Cond.instanceMethod yX2_invertedPairs, Cond.selects RX2 yX2_invertedPairs yX2_invertedPairs, Cond.code yX2_invertedPairs cX2_invertedPairs 4 (some .int), Cond.methodLink RX2 46 yX2_isInvertedPair, Cond.instanceMethod yX2_isInvertedPair, Cond.selects RX2 yX2_isInvertedPair yX2_isInvertedPair, Cond.code yX2_isInvertedPair cX2_isInvertedPair 3 (some .boolean), Cond.methodLink RX2 33 yX2_rowsOff, Cond.instanceMethod yX2_rowsOff, Cond.selects RX2 yX2_rowsOff yX2_rowsOff, Cond.code yX2_rowsOff cX2_rowsOff 3 (some .int), Cond.methodLink RX2 36 yX2_greatestBlock, Cond.instanceMethod yX2_greatestBlock, Cond.selects RX2 yX2_greatestBlock yX2_greatestBlock, Cond.code yX2_greatestBlock cX2_greatestBlock 5 (some .int), Cond.methodLink RX2 56 Lib.Math.max.name, Cond.static Lib.Math.max.name, Cond.initialized "java/lang/Math", Cond.code Lib.Math.max.name Lib.Math.max.code 2 (some .int), Cond.methodLink RX2 50 yX2_goodColumns, Cond.instanceMethod yX2_goodColumns, Cond.selects RX2 yX2_goodColumns yX2_goodColumns, Cond.code yX2_goodColumns cX2_goodColumns 4 (some .int), Cond.methodLink RX2 53 yX2_longestRun]
def wsX2_answer_r3 : List Cond := [Cond.static yX2_longestRun, Cond.code yX2_longestRun cX2_longestRun 4 (some .int)]
def wsX2_answer : List Cond := .code yX2_answer cX2_answer 2 (some .int) :: ((wsX2_answer_r1 ++ (wsX2_answer_r2 ++ wsX2_answer_r3)) ++ wsX20)
def wsX3_init_r1 : List Cond := [Cond.methodLink RX3 1 objectInit, Cond.instanceMethod objectInit, Cond.code objectInit ⟨#[0xb1]⟩ 1 none, Cond.classLink RX3 7 RX0, Cond.instantiable RX0 7, Cond.initialized RX0, Cond.fieldLink RX3 10 "StampSheets$Trial" "machine" "LStampSheets$Machine;", Cond.classLink RX3 16 RX2, Cond.instantiable RX2 2, Cond.initialized RX2, Cond.fieldLink RX3 19 "StampSheets$Trial" "sheet" "LStampSheets$Sheet;", Cond.methodLink RX3 9 yX0_init, Cond.instanceMethod yX0_init, Cond.code yX0_init cX0_init 2 none, Cond.methodLink RX0 3 objectInit, Cond.fieldLink RX0 9 "StampSheets$Machine" "feed" "I", Cond.fieldLink RX0 15 "StampSheets$Machine" "step" "I", Cond.classLink RX0 18 RX1, Cond.fieldLink RX0 20 "StampSheets$Machine" "pins" "[LStampSheets$Pin;", Cond.instantiable RX1 2, Cond.initialized RX1, Cond.instanceMethod yX1_init, Cond.code yX1_init cX1_init 1 none, Cond.methodLink RX1 3 objectInit]
def wsX3_init_r2 : List Cond := [Cond.fieldLink RX1 9 "StampSheets$Pin" "strength" "I", Cond.methodLink RX3 18 yX2_init, Cond.instanceMethod yX2_init, Cond.code yX2_init cX2_init 1 none, Cond.methodLink RX2 3 objectInit, Cond.arrayClass .int, Cond.fieldLink RX2 9 "StampSheets$Sheet" "faultSets" "[I", Cond.arrayClass .boolean, Cond.fieldLink RX2 15 "StampSheets$Sheet" "tornOff" "[Z"]
def wsX3_init : List Cond := .code yX3_init cX3_init 1 none :: ((wsX3_init_r1 ++ wsX3_init_r2) ++ wsX00 ++ wsX30 ++ wsX20 ++ wsX10)
def wsX3_perforateFrom_r1 : List Cond := [Cond.fieldLink RX3 10 "StampSheets$Trial" "machine" "LStampSheets$Machine;", Cond.fieldLink RX3 31 "StampSheets$Trial" "faultless" "I", Cond.fieldLink RX3 34 "StampSheets$Trial" "worth" "I", Cond.fieldLink RX3 19 "StampSheets$Trial" "sheet" "LStampSheets$Sheet;", Cond.methodLink RX3 23 yX0_becomeLike, Cond.instanceMethod yX0_becomeLike, Cond.selects RX0 yX0_becomeLike yX0_becomeLike, Cond.initialized RX0, Cond.code yX0_becomeLike cX0_becomeLike 3 none, Cond.fieldLink RX0 20 "StampSheets$Machine" "pins" "[LStampSheets$Pin;", Cond.fieldLink RX0 9 "StampSheets$Machine" "feed" "I", Cond.fieldLink RX0 29 "StampSheets$Machine" "drift" "I", Cond.fieldLink RX0 32 "StampSheets$Machine" "error" "I", Cond.fieldLink RX0 35 "StampSheets$Machine" "rowsLeft" "I", Cond.fieldLink RX0 38 "StampSheets$Machine" "rowsRun" "I", Cond.fieldLink RX0 15 "StampSheets$Machine" "step" "I", Cond.methodLink RX0 25 yX1_becomeLike, Cond.instanceMethod yX1_becomeLike, Cond.selects RX1 yX1_becomeLike yX1_becomeLike, Cond.initialized RX1, Cond.code yX1_becomeLike cX1_becomeLike 2 none, Cond.fieldLink RX1 9 "StampSheets$Pin" "strength" "I", Cond.fieldLink RX1 15 "StampSheets$Pin" "wear" "I", Cond.methodLink RX3 37 yX0_perforate]
def wsX3_perforateFrom_r2 : List Cond := [Cond.instanceMethod yX0_perforate, Cond.selects RX0 yX0_perforate yX0_perforate, Cond.code yX0_perforate cX0_perforate 4 none, Cond.methodLink RX0 48 Lib.Math.min.name, Cond.static Lib.Math.min.name, Cond.initialized "java/lang/Math", Cond.code Lib.Math.min.name Lib.Math.min.code 2 (some .int), Cond.methodLink RX0 54 Lib.Math.max.name, Cond.static Lib.Math.max.name, Cond.code Lib.Math.max.name Lib.Math.max.code 2 (some .int), Cond.methodLink RX0 41 yX0_markRow, Cond.instanceMethod yX0_markRow, Cond.selects RX0 yX0_markRow yX0_markRow, Cond.code yX0_markRow cX0_markRow 8 none, Cond.static yX4_isWithin, Cond.initialized RX4, Cond.code yX4_isWithin cX4_isWithin 3 (some .boolean), Cond.methodLink RX0 61 yX0_holeFaults, Cond.instanceMethod yX0_holeFaults, Cond.selects RX0 yX0_holeFaults yX0_holeFaults, Cond.code yX0_holeFaults cX0_holeFaults 3 (some .int), Cond.methodLink RX0 75 yX1_isWhole, Cond.instanceMethod yX1_isWhole, Cond.selects RX1 yX1_isWhole yX1_isWhole]
def wsX3_perforateFrom_r3 : List Cond := [Cond.code yX1_isWhole cX1_isWhole 1 (some .boolean), Cond.methodLink RX0 65 yX0_hasWatermark, Cond.instanceMethod yX0_hasWatermark, Cond.selects RX0 yX0_hasWatermark yX0_hasWatermark, Cond.code yX0_hasWatermark cX0_hasWatermark 2 (some .boolean), Cond.methodLink RX0 45 yX0_strikeAll, Cond.instanceMethod yX0_strikeAll, Cond.selects RX0 yX0_strikeAll yX0_strikeAll, Cond.code yX0_strikeAll cX0_strikeAll 2 none, Cond.methodLink RX0 79 yX1_strike, Cond.instanceMethod yX1_strike, Cond.selects RX1 yX1_strike yX1_strike, Cond.code yX1_strike cX1_strike 1 none, Cond.methodLink RX1 18 yX1_isWhole, Cond.methodLink RX3 41 yX2_leftWith, Cond.instanceMethod yX2_leftWith, Cond.selects RX2 yX2_leftWith yX2_leftWith, Cond.initialized RX2, Cond.code yX2_leftWith cX2_leftWith 4 (some .int), Cond.methodLink RX2 42 yX2_isLeftWith, Cond.instanceMethod yX2_isLeftWith, Cond.selects RX2 yX2_isLeftWith yX2_isLeftWith, Cond.code yX2_isLeftWith cX2_isLeftWith 3 (some .boolean), Cond.fieldLink RX2 15 "StampSheets$Sheet" "tornOff" "[Z"]
def wsX3_perforateFrom_r4 : List Cond := [Cond.fieldLink RX2 9 "StampSheets$Sheet" "faultSets" "[I", Cond.methodLink RX3 45 yX2_worth, Cond.instanceMethod yX2_worth, Cond.selects RX2 yX2_worth yX2_worth, Cond.code yX2_worth cX2_worth 3 (some .int), Cond.methodLink RX2 39 yX2_worthOf, Cond.instanceMethod yX2_worthOf, Cond.selects RX2 yX2_worthOf yX2_worthOf, Cond.code yX2_worthOf cX2_worthOf 4 (some .int)]
def wsX3_perforateFrom : List Cond := .code yX3_perforateFrom cX3_perforateFrom 6 none :: ((wsX3_perforateFrom_r1 ++ (wsX3_perforateFrom_r2 ++ (wsX3_perforateFrom_r3 ++ wsX3_perforateFrom_r4))) ++ wsX30 ++ wsX00 ++ wsX10 ++ wsX20)
def wsX3_answer : List Cond := .code yX3_answer cX3_answer 2 (some .int) :: ([.fieldLink RX3 31 "StampSheets$Trial" "faultless" "I", .fieldLink RX3 34 "StampSheets$Trial" "worth" "I", .fieldLink RX3 10 "StampSheets$Trial" "machine" "LStampSheets$Machine;", .methodLink RX3 48 yX0_brokenPins, .instanceMethod yX0_brokenPins, .selects RX0 yX0_brokenPins yX0_brokenPins, .initialized RX0, .code yX0_brokenPins cX0_brokenPins 3 (some .int), .fieldLink RX0 20 "StampSheets$Machine" "pins" "[LStampSheets$Pin;", .methodLink RX0 75 yX1_isWhole, .instanceMethod yX1_isWhole, .selects RX1 yX1_isWhole yX1_isWhole, .initialized RX1, .code yX1_isWhole cX1_isWhole 1 (some .boolean), .fieldLink RX1 15 "StampSheets$Pin" "wear" "I", .fieldLink RX1 9 "StampSheets$Pin" "strength" "I"] ++ wsX30 ++ wsX00 ++ wsX10)
def wsX4_init_r1 : List Cond := [Cond.methodLink RX4 3 objectInit, Cond.instanceMethod objectInit, Cond.code objectInit ⟨#[0xb1]⟩ 1 none, Cond.classLink RX4 9 RX0, Cond.instantiable RX0 7, Cond.initialized RX0, Cond.fieldLink RX4 12 "StampSheets" "machine" "LStampSheets$Machine;", Cond.classLink RX4 16 RX3, Cond.instantiable RX3 4, Cond.initialized RX3, Cond.fieldLink RX4 19 "StampSheets" "trial" "LStampSheets$Trial;", Cond.arrayClass .boolean, Cond.fieldLink RX4 23 "StampSheets" "plateInverted" "[Z", Cond.classLink RX4 27 RX2, Cond.fieldLink RX4 29 "StampSheets" "sheetStore" "[LStampSheets$Sheet;", Cond.instantiable RX2 2, Cond.initialized RX2, Cond.methodLink RX4 11 yX0_init, Cond.instanceMethod yX0_init, Cond.code yX0_init cX0_init 2 none, Cond.methodLink RX0 3 objectInit, Cond.fieldLink RX0 9 "StampSheets$Machine" "feed" "I", Cond.fieldLink RX0 15 "StampSheets$Machine" "step" "I", Cond.classLink RX0 18 RX1]
def wsX4_init_r2 : List Cond := [Cond.fieldLink RX0 20 "StampSheets$Machine" "pins" "[LStampSheets$Pin;", Cond.instantiable RX1 2, Cond.initialized RX1, Cond.instanceMethod yX1_init, Cond.code yX1_init cX1_init 1 none, Cond.methodLink RX1 3 objectInit, Cond.fieldLink RX1 9 "StampSheets$Pin" "strength" "I", Cond.methodLink RX4 18 yX3_init, Cond.instanceMethod yX3_init, Cond.code yX3_init cX3_init 1 none, Cond.methodLink RX3 1 objectInit, Cond.classLink RX3 7 RX0, Cond.fieldLink RX3 10 "StampSheets$Trial" "machine" "LStampSheets$Machine;", Cond.classLink RX3 16 RX2, Cond.fieldLink RX3 19 "StampSheets$Trial" "sheet" "LStampSheets$Sheet;", Cond.methodLink RX3 9 yX0_init, Cond.methodLink RX3 18 yX2_init, Cond.instanceMethod yX2_init, Cond.code yX2_init cX2_init 1 none, Cond.methodLink RX2 3 objectInit, Cond.arrayClass .int, Cond.fieldLink RX2 9 "StampSheets$Sheet" "faultSets" "[I", Cond.fieldLink RX2 15 "StampSheets$Sheet" "tornOff" "[Z", Cond.methodLink RX4 33 yX2_init]
def wsX4_init : List Cond := .code yX4_init cX4_init 2 none :: ((wsX4_init_r1 ++ wsX4_init_r2) ++ wsX00 ++ wsX40 ++ wsX30 ++ wsX20 ++ wsX10)
def wsX4_setFeed : List Cond := .code yX4_setFeed cX4_setFeed 4 (some .int) :: ([.classLink RX4 38 "java/lang/IllegalArgumentException", .initialized "java/lang/IllegalArgumentException", .fieldLink RX4 12 "StampSheets" "machine" "LStampSheets$Machine;", .methodLink RX4 34 yX4_isWithin, .static yX4_isWithin, .initialized RX4, .code yX4_isWithin cX4_isWithin 3 (some .boolean)] ++ wsX40 ++ wsX00 ++ (vx_atS RX4 42 "java/lang/IllegalArgumentException" ["java/lang/RuntimeException", "java/lang/Exception"]).filter goodWord)
def wsX4_align : List Cond := .code yX4_align cX4_align 2 (some .int) :: ([.fieldLink RX4 12 "StampSheets" "machine" "LStampSheets$Machine;"] ++ wsX40 ++ wsX00)
def wsX4_roll : List Cond := .code yX4_roll cX4_roll 4 (some .int) :: ([.classLink RX4 38 "java/lang/IllegalArgumentException", .initialized "java/lang/IllegalArgumentException", .fieldLink RX4 12 "StampSheets" "machine" "LStampSheets$Machine;", .methodLink RX4 34 yX4_isWithin, .static yX4_isWithin, .initialized RX4, .code yX4_isWithin cX4_isWithin 3 (some .boolean)] ++ wsX40 ++ wsX00 ++ (vx_atS RX4 42 "java/lang/IllegalArgumentException" ["java/lang/RuntimeException", "java/lang/Exception"]).filter goodWord)
def wsX4_checkPin : List Cond := .code yX4_checkPin cX4_checkPin 1 none :: ([.classLink RX4 150 "java/lang/IndexOutOfBoundsException", .initialized "java/lang/IndexOutOfBoundsException", .methodLink RX4 34 yX4_isWithin, .static yX4_isWithin, .initialized RX4, .code yX4_isWithin cX4_isWithin 3 (some .boolean)] ++ (vx_atS RX4 154 "java/lang/IndexOutOfBoundsException" ["java/lang/RuntimeException", "java/lang/Exception"]).filter goodWord)
def wsX4_fit : List Cond := .code yX4_fit cX4_fit 5 (some .int) :: ([.classLink RX4 38 "java/lang/IllegalArgumentException", .initialized "java/lang/IllegalArgumentException", .fieldLink RX4 12 "StampSheets" "machine" "LStampSheets$Machine;", .methodLink RX4 66 yX4_checkPin, .static yX4_checkPin, .initialized RX4, .code yX4_checkPin cX4_checkPin 1 none, .classLink RX4 150 "java/lang/IndexOutOfBoundsException", .initialized "java/lang/IndexOutOfBoundsException", .methodLink RX4 34 yX4_isWithin, .static yX4_isWithin, .code yX4_isWithin cX4_isWithin 3 (some .boolean)] ++ wsX40 ++ wsX00 ++ wsX10 ++ (vx_atS RX4 42 "java/lang/IllegalArgumentException" ["java/lang/RuntimeException", "java/lang/Exception"]).filter goodWord ++ (vx_atS RX4 154 "java/lang/IndexOutOfBoundsException" ["java/lang/RuntimeException", "java/lang/Exception"]).filter goodWord)
def wsX4_checkPlace : List Cond := .code yX4_checkPlace cX4_checkPlace 2 none :: ([.classLink RX4 150 "java/lang/IndexOutOfBoundsException", .initialized "java/lang/IndexOutOfBoundsException", .methodLink RX4 34 yX4_isWithin, .static yX4_isWithin, .initialized RX4, .code yX4_isWithin cX4_isWithin 3 (some .boolean)] ++ (vx_atS RX4 154 "java/lang/IndexOutOfBoundsException" ["java/lang/RuntimeException", "java/lang/Exception"]).filter goodWord)
def wsX4_turn : List Cond := .code yX4_turn cX4_turn 4 (some .boolean) :: ([.fieldLink RX4 23 "StampSheets" "plateInverted" "[Z", .methodLink RX4 84 yX4_checkPlace, .static yX4_checkPlace, .initialized RX4, .code yX4_checkPlace cX4_checkPlace 2 none, .classLink RX4 150 "java/lang/IndexOutOfBoundsException", .initialized "java/lang/IndexOutOfBoundsException", .methodLink RX4 34 yX4_isWithin, .static yX4_isWithin, .code yX4_isWithin cX4_isWithin 3 (some .boolean)] ++ wsX40 ++ (vx_atS RX4 154 "java/lang/IndexOutOfBoundsException" ["java/lang/RuntimeException", "java/lang/Exception"]).filter goodWord)
def wsX4_run_r1 : List Cond := [Cond.classLink RX4 91 "java/lang/IllegalStateException", Cond.initialized "java/lang/IllegalStateException", Cond.fieldLink RX4 88 "StampSheets" "sheetCount" "I", Cond.fieldLink RX4 12 "StampSheets" "machine" "LStampSheets$Machine;", Cond.fieldLink RX4 23 "StampSheets" "plateInverted" "[Z", Cond.fieldLink RX4 29 "StampSheets" "sheetStore" "[LStampSheets$Sheet;", Cond.methodLink RX4 96 yX0_perforate, Cond.instanceMethod yX0_perforate, Cond.selects RX0 yX0_perforate yX0_perforate, Cond.initialized RX0, Cond.code yX0_perforate cX0_perforate 4 none, Cond.fieldLink RX0 32 "StampSheets$Machine" "error" "I", Cond.fieldLink RX0 9 "StampSheets$Machine" "feed" "I", Cond.fieldLink RX0 35 "StampSheets$Machine" "rowsLeft" "I", Cond.fieldLink RX0 38 "StampSheets$Machine" "rowsRun" "I", Cond.fieldLink RX0 29 "StampSheets$Machine" "drift" "I", Cond.methodLink RX0 48 Lib.Math.min.name, Cond.static Lib.Math.min.name, Cond.initialized "java/lang/Math", Cond.code Lib.Math.min.name Lib.Math.min.code 2 (some .int), Cond.methodLink RX0 54 Lib.Math.max.name, Cond.static Lib.Math.max.name, Cond.code Lib.Math.max.name Lib.Math.max.code 2 (some .int), Cond.methodLink RX0 41 yX0_markRow]
def wsX4_run_r2 : List Cond := [Cond.instanceMethod yX0_markRow, Cond.selects RX0 yX0_markRow yX0_markRow, Cond.code yX0_markRow cX0_markRow 8 none, Cond.static yX4_isWithin, Cond.initialized RX4, Cond.code yX4_isWithin cX4_isWithin 3 (some .boolean), Cond.methodLink RX0 61 yX0_holeFaults, Cond.instanceMethod yX0_holeFaults, Cond.selects RX0 yX0_holeFaults yX0_holeFaults, Cond.code yX0_holeFaults cX0_holeFaults 3 (some .int), Cond.fieldLink RX0 20 "StampSheets$Machine" "pins" "[LStampSheets$Pin;", Cond.methodLink RX0 75 yX1_isWhole, Cond.instanceMethod yX1_isWhole, Cond.selects RX1 yX1_isWhole yX1_isWhole, Cond.initialized RX1, Cond.code yX1_isWhole cX1_isWhole 1 (some .boolean), Cond.fieldLink RX1 15 "StampSheets$Pin" "wear" "I", Cond.fieldLink RX1 9 "StampSheets$Pin" "strength" "I", Cond.methodLink RX0 65 yX0_hasWatermark, Cond.instanceMethod yX0_hasWatermark, Cond.selects RX0 yX0_hasWatermark yX0_hasWatermark, Cond.code yX0_hasWatermark cX0_hasWatermark 2 (some .boolean), Cond.fieldLink RX0 15 "StampSheets$Machine" "step" "I", Cond.methodLink RX0 45 yX0_strikeAll]
def wsX4_run_r3 : List Cond := [Cond.instanceMethod yX0_strikeAll, Cond.selects RX0 yX0_strikeAll yX0_strikeAll, Cond.code yX0_strikeAll cX0_strikeAll 2 none, Cond.methodLink RX0 79 yX1_strike, Cond.instanceMethod yX1_strike, Cond.selects RX1 yX1_strike yX1_strike, Cond.code yX1_strike cX1_strike 1 none, Cond.methodLink RX1 18 yX1_isWhole]
def wsX4_run : List Cond := .code yX4_run cX4_run 1 (some .int) :: ((wsX4_run_r1 ++ (wsX4_run_r2 ++ wsX4_run_r3)) ++ wsX40 ++ wsX00 ++ wsX20 ++ wsX10 ++ (vx_atS RX4 95 "java/lang/IllegalStateException" ["java/lang/RuntimeException", "java/lang/Exception"]).filter goodWord)
def wsX4_checkSheet : List Cond := .code yX4_checkSheet cX4_checkSheet 2 none :: ([.classLink RX4 150 "java/lang/IndexOutOfBoundsException", .initialized "java/lang/IndexOutOfBoundsException", .fieldLink RX4 88 "StampSheets" "sheetCount" "I", .methodLink RX4 34 yX4_isWithin, .static yX4_isWithin, .initialized RX4, .code yX4_isWithin cX4_isWithin 3 (some .boolean)] ++ wsX40 ++ (vx_atS RX4 154 "java/lang/IndexOutOfBoundsException" ["java/lang/RuntimeException", "java/lang/Exception"]).filter goodWord)
def wsX4_faults : List Cond := .code yX4_faults cX4_faults 4 (some .int) :: ([.fieldLink RX4 29 "StampSheets" "sheetStore" "[LStampSheets$Sheet;", .methodLink RX4 100 yX4_checkSheet, .instanceMethod yX4_checkSheet, .selects RX4 yX4_checkSheet yX4_checkSheet, .initialized RX4, .code yX4_checkSheet cX4_checkSheet 2 none, .classLink RX4 150 "java/lang/IndexOutOfBoundsException", .initialized "java/lang/IndexOutOfBoundsException", .fieldLink RX4 88 "StampSheets" "sheetCount" "I", .methodLink RX4 34 yX4_isWithin, .static yX4_isWithin, .code yX4_isWithin cX4_isWithin 3 (some .boolean), .methodLink RX4 84 yX4_checkPlace, .static yX4_checkPlace, .code yX4_checkPlace cX4_checkPlace 2 none] ++ wsX40 ++ wsX20 ++ (vx_atS RX4 154 "java/lang/IndexOutOfBoundsException" ["java/lang/RuntimeException", "java/lang/Exception"]).filter goodWord)
def wsX4_tear : List Cond := .code yX4_tear cX4_tear 7 (some .int) :: ([.classLink RX4 91 "java/lang/IllegalStateException", .initialized "java/lang/IllegalStateException", .fieldLink RX4 29 "StampSheets" "sheetStore" "[LStampSheets$Sheet;", .methodLink RX4 100 yX4_checkSheet, .instanceMethod yX4_checkSheet, .selects RX4 yX4_checkSheet yX4_checkSheet, .initialized RX4, .code yX4_checkSheet cX4_checkSheet 2 none, .classLink RX4 150 "java/lang/IndexOutOfBoundsException", .initialized "java/lang/IndexOutOfBoundsException", .fieldLink RX4 88 "StampSheets" "sheetCount" "I", .methodLink RX4 34 yX4_isWithin, .static yX4_isWithin, .code yX4_isWithin cX4_isWithin 3 (some .boolean), .methodLink RX4 84 yX4_checkPlace, .static yX4_checkPlace, .code yX4_checkPlace cX4_checkPlace 2 none, .methodLink RX4 112 yX2_worthOf, .instanceMethod yX2_worthOf, .selects RX2 yX2_worthOf yX2_worthOf, .initialized RX2, .code yX2_worthOf cX2_worthOf 4 (some .int), .fieldLink RX2 9 "StampSheets$Sheet" "faultSets" "[I", .fieldLink RX2 15 "StampSheets$Sheet" "tornOff" "[Z"] ++ wsX40 ++ wsX20 ++ (vx_atS RX4 95 "java/lang/IllegalStateException" ["java/lang/RuntimeException", "java/lang/Exception"]).filter goodWord ++ (vx_atS RX4 154 "java/lang/IndexOutOfBoundsException" ["java/lang/RuntimeException", "java/lang/Exception"]).filter goodWord)
def wsX4_checkWhat : List Cond := .code yX4_checkWhat cX4_checkWhat 2 none :: ([.classLink RX4 150 "java/lang/IndexOutOfBoundsException", .initialized "java/lang/IndexOutOfBoundsException", .methodLink RX4 34 yX4_isWithin, .static yX4_isWithin, .initialized RX4, .code yX4_isWithin cX4_isWithin 3 (some .boolean)] ++ (vx_atS RX4 154 "java/lang/IndexOutOfBoundsException" ["java/lang/RuntimeException", "java/lang/Exception"]).filter goodWord)
def wsX4_sheet_r1 : List Cond := [Cond.fieldLink RX4 29 "StampSheets" "sheetStore" "[LStampSheets$Sheet;", Cond.methodLink RX4 100 yX4_checkSheet, Cond.instanceMethod yX4_checkSheet, Cond.selects RX4 yX4_checkSheet yX4_checkSheet, Cond.initialized RX4, Cond.code yX4_checkSheet cX4_checkSheet 2 none, Cond.classLink RX4 150 "java/lang/IndexOutOfBoundsException", Cond.initialized "java/lang/IndexOutOfBoundsException", Cond.fieldLink RX4 88 "StampSheets" "sheetCount" "I", Cond.methodLink RX4 34 yX4_isWithin, Cond.static yX4_isWithin, Cond.code yX4_isWithin cX4_isWithin 3 (some .boolean), Cond.methodLink RX4 116 yX4_checkWhat, Cond.static yX4_checkWhat, Cond.code yX4_checkWhat cX4_checkWhat 2 none, Cond.methodLink RX4 119 yX2_answer, Cond.instanceMethod yX2_answer, Cond.selects RX2 yX2_answer yX2_answer, Cond.initialized RX2, Cond.code yX2_answer cX2_answer 2 (some .int), Cond.methodLink RX2 19 yX2_left, Cond.instanceMethod yX2_left, Cond.selects RX2 yX2_left yX2_left, Cond.code yX2_left cX2_left 3 (some .int)]
def wsX4_sheet_r2 : List Cond := [Cond.fieldLink RX2 15 "StampSheets$Sheet" "tornOff" "[Z", Cond.methodLink RX2 23 yX2_leftWith, Cond.instanceMethod yX2_leftWith, Cond.selects RX2 yX2_leftWith yX2_leftWith, Cond.code yX2_leftWith cX2_leftWith 4 (some .int), Cond.methodLink RX2 42 yX2_isLeftWith, Cond.instanceMethod yX2_isLeftWith, Cond.selects RX2 yX2_isLeftWith yX2_isLeftWith, Cond.code yX2_isLeftWith cX2_isLeftWith 3 (some .boolean), Cond.fieldLink RX2 9 "StampSheets$Sheet" "faultSets" "[I", Cond.methodLink RX2 27 yX2_worth, Cond.instanceMethod yX2_worth, Cond.selects RX2 yX2_worth yX2_worth, Cond.code yX2_worth cX2_worth 3 (some .int), Cond.methodLink RX2 39 yX2_worthOf, Cond.instanceMethod yX2_worthOf, Cond.selects RX2 yX2_worthOf yX2_worthOf, Cond.code yX2_worthOf cX2_worthOf 4 (some .int), Cond.methodLink RX2 30 yX2_invertedPairs, Cond.instanceMethod yX2_invertedPairs, Cond.selects RX2 yX2_invertedPairs yX2_invertedPairs, Cond.code yX2_invertedPairs cX2_invertedPairs 4 (some .int), Cond.methodLink RX2 46 yX2_isInvertedPair, Cond.instanceMethod yX2_isInvertedPair]
def wsX4_sheet_r3 : List Cond := [Cond.selects RX2 yX2_isInvertedPair yX2_isInvertedPair, Cond.code yX2_isInvertedPair cX2_isInvertedPair 3 (some .boolean), Cond.methodLink RX2 33 yX2_rowsOff, Cond.instanceMethod yX2_rowsOff, Cond.selects RX2 yX2_rowsOff yX2_rowsOff, Cond.code yX2_rowsOff cX2_rowsOff 3 (some .int), Cond.methodLink RX2 36 yX2_greatestBlock, Cond.instanceMethod yX2_greatestBlock, Cond.selects RX2 yX2_greatestBlock yX2_greatestBlock, Cond.code yX2_greatestBlock cX2_greatestBlock 5 (some .int), Cond.methodLink RX2 56 Lib.Math.max.name, Cond.static Lib.Math.max.name, Cond.initialized "java/lang/Math", Cond.code Lib.Math.max.name Lib.Math.max.code 2 (some .int), Cond.methodLink RX2 50 yX2_goodColumns, Cond.instanceMethod yX2_goodColumns, Cond.selects RX2 yX2_goodColumns yX2_goodColumns, Cond.code yX2_goodColumns cX2_goodColumns 4 (some .int), Cond.methodLink RX2 53 yX2_longestRun, Cond.static yX2_longestRun, Cond.code yX2_longestRun cX2_longestRun 4 (some .int)]
def wsX4_sheet : List Cond := .code yX4_sheet cX4_sheet 3 (some .int) :: ((wsX4_sheet_r1 ++ (wsX4_sheet_r2 ++ wsX4_sheet_r3)) ++ wsX40 ++ wsX20 ++ (vx_atS RX4 154 "java/lang/IndexOutOfBoundsException" ["java/lang/RuntimeException", "java/lang/Exception"]).filter goodWord)
def wsX4_pin : List Cond := .code yX4_pin cX4_pin 3 (some .int) :: ([.fieldLink RX4 12 "StampSheets" "machine" "LStampSheets$Machine;", .methodLink RX4 66 yX4_checkPin, .static yX4_checkPin, .initialized RX4, .code yX4_checkPin cX4_checkPin 1 none, .classLink RX4 150 "java/lang/IndexOutOfBoundsException", .initialized "java/lang/IndexOutOfBoundsException", .methodLink RX4 34 yX4_isWithin, .static yX4_isWithin, .code yX4_isWithin cX4_isWithin 3 (some .boolean), .methodLink RX4 116 yX4_checkWhat, .static yX4_checkWhat, .code yX4_checkWhat cX4_checkWhat 2 none, .methodLink RX4 122 yX1_answer, .instanceMethod yX1_answer, .selects RX1 yX1_answer yX1_answer, .initialized RX1, .code yX1_answer cX1_answer 2 (some .int), .fieldLink RX1 9 "StampSheets$Pin" "strength" "I", .fieldLink RX1 15 "StampSheets$Pin" "wear" "I", .methodLink RX1 18 yX1_isWhole, .instanceMethod yX1_isWhole, .selects RX1 yX1_isWhole yX1_isWhole, .code yX1_isWhole cX1_isWhole 1 (some .boolean)] ++ wsX40 ++ wsX00 ++ wsX10 ++ (vx_atS RX4 154 "java/lang/IndexOutOfBoundsException" ["java/lang/RuntimeException", "java/lang/Exception"]).filter goodWord)
def wsX4_invertedPlaces : List Cond := .code yX4_invertedPlaces cX4_invertedPlaces 3 (some .int) :: ([.fieldLink RX4 23 "StampSheets" "plateInverted" "[Z"] ++ wsX40)
def wsX4_worthOfSheets : List Cond := .code yX4_worthOfSheets cX4_worthOfSheets 3 (some .int) :: ([.fieldLink RX4 88 "StampSheets" "sheetCount" "I", .fieldLink RX4 29 "StampSheets" "sheetStore" "[LStampSheets$Sheet;", .methodLink RX4 173 yX2_worth, .instanceMethod yX2_worth, .selects RX2 yX2_worth yX2_worth, .initialized RX2, .code yX2_worth cX2_worth 3 (some .int), .methodLink RX2 39 yX2_worthOf, .instanceMethod yX2_worthOf, .selects RX2 yX2_worthOf yX2_worthOf, .code yX2_worthOf cX2_worthOf 4 (some .int), .fieldLink RX2 9 "StampSheets$Sheet" "faultSets" "[I", .fieldLink RX2 15 "StampSheets$Sheet" "tornOff" "[Z"] ++ wsX40 ++ wsX20)
def wsX4_countAnswer_r1 : List Cond := [Cond.fieldLink RX4 88 "StampSheets" "sheetCount" "I", Cond.fieldLink RX4 12 "StampSheets" "machine" "LStampSheets$Machine;", Cond.methodLink RX4 163 yX0_brokenPins, Cond.instanceMethod yX0_brokenPins, Cond.selects RX0 yX0_brokenPins yX0_brokenPins, Cond.initialized RX0, Cond.code yX0_brokenPins cX0_brokenPins 3 (some .int), Cond.fieldLink RX0 20 "StampSheets$Machine" "pins" "[LStampSheets$Pin;", Cond.methodLink RX0 75 yX1_isWhole, Cond.instanceMethod yX1_isWhole, Cond.selects RX1 yX1_isWhole yX1_isWhole, Cond.initialized RX1, Cond.code yX1_isWhole cX1_isWhole 1 (some .boolean), Cond.fieldLink RX1 15 "StampSheets$Pin" "wear" "I", Cond.fieldLink RX1 9 "StampSheets$Pin" "strength" "I", Cond.methodLink RX4 167 yX4_invertedPlaces, Cond.instanceMethod yX4_invertedPlaces, Cond.selects RX4 yX4_invertedPlaces yX4_invertedPlaces, Cond.initialized RX4, Cond.code yX4_invertedPlaces cX4_invertedPlaces 3 (some .int), Cond.fieldLink RX4 23 "StampSheets" "plateInverted" "[Z", Cond.methodLink RX4 170 yX4_worthOfSheets, Cond.instanceMethod yX4_worthOfSheets, Cond.selects RX4 yX4_worthOfSheets yX4_worthOfSheets]
def wsX4_countAnswer_r2 : List Cond := [Cond.code yX4_worthOfSheets cX4_worthOfSheets 3 (some .int), Cond.fieldLink RX4 29 "StampSheets" "sheetStore" "[LStampSheets$Sheet;", Cond.methodLink RX4 173 yX2_worth, Cond.instanceMethod yX2_worth, Cond.selects RX2 yX2_worth yX2_worth, Cond.initialized RX2, Cond.code yX2_worth cX2_worth 3 (some .int), Cond.methodLink RX2 39 yX2_worthOf, Cond.instanceMethod yX2_worthOf, Cond.selects RX2 yX2_worthOf yX2_worthOf, Cond.code yX2_worthOf cX2_worthOf 4 (some .int), Cond.fieldLink RX2 9 "StampSheets$Sheet" "faultSets" "[I", Cond.fieldLink RX2 15 "StampSheets$Sheet" "tornOff" "[Z"]
def wsX4_countAnswer : List Cond := .code yX4_countAnswer cX4_countAnswer 2 (some .int) :: ((wsX4_countAnswer_r1 ++ wsX4_countAnswer_r2) ++ wsX40 ++ wsX00 ++ wsX10 ++ wsX20)
def wsX4_count_r1 : List Cond := [Cond.methodLink RX4 116 yX4_checkWhat, Cond.static yX4_checkWhat, Cond.initialized RX4, Cond.code yX4_checkWhat cX4_checkWhat 2 none, Cond.classLink RX4 150 "java/lang/IndexOutOfBoundsException", Cond.initialized "java/lang/IndexOutOfBoundsException", Cond.methodLink RX4 34 yX4_isWithin, Cond.static yX4_isWithin, Cond.code yX4_isWithin cX4_isWithin 3 (some .boolean), Cond.methodLink RX4 123 yX4_countAnswer, Cond.instanceMethod yX4_countAnswer, Cond.selects RX4 yX4_countAnswer yX4_countAnswer, Cond.code yX4_countAnswer cX4_countAnswer 2 (some .int), Cond.fieldLink RX4 88 "StampSheets" "sheetCount" "I", Cond.fieldLink RX4 12 "StampSheets" "machine" "LStampSheets$Machine;", Cond.methodLink RX4 163 yX0_brokenPins, Cond.instanceMethod yX0_brokenPins, Cond.selects RX0 yX0_brokenPins yX0_brokenPins, Cond.initialized RX0, Cond.code yX0_brokenPins cX0_brokenPins 3 (some .int), Cond.fieldLink RX0 20 "StampSheets$Machine" "pins" "[LStampSheets$Pin;", Cond.methodLink RX0 75 yX1_isWhole, Cond.instanceMethod yX1_isWhole, Cond.selects RX1 yX1_isWhole yX1_isWhole]
def wsX4_count_r2 : List Cond := [Cond.initialized RX1, Cond.code yX1_isWhole cX1_isWhole 1 (some .boolean), Cond.fieldLink RX1 15 "StampSheets$Pin" "wear" "I", Cond.fieldLink RX1 9 "StampSheets$Pin" "strength" "I", Cond.methodLink RX4 167 yX4_invertedPlaces, Cond.instanceMethod yX4_invertedPlaces, Cond.selects RX4 yX4_invertedPlaces yX4_invertedPlaces, Cond.code yX4_invertedPlaces cX4_invertedPlaces 3 (some .int), Cond.fieldLink RX4 23 "StampSheets" "plateInverted" "[Z", Cond.methodLink RX4 170 yX4_worthOfSheets, Cond.instanceMethod yX4_worthOfSheets, Cond.selects RX4 yX4_worthOfSheets yX4_worthOfSheets, Cond.code yX4_worthOfSheets cX4_worthOfSheets 3 (some .int), Cond.fieldLink RX4 29 "StampSheets" "sheetStore" "[LStampSheets$Sheet;", Cond.methodLink RX4 173 yX2_worth, Cond.instanceMethod yX2_worth, Cond.selects RX2 yX2_worth yX2_worth, Cond.initialized RX2, Cond.code yX2_worth cX2_worth 3 (some .int), Cond.methodLink RX2 39 yX2_worthOf, Cond.instanceMethod yX2_worthOf, Cond.selects RX2 yX2_worthOf yX2_worthOf, Cond.code yX2_worthOf cX2_worthOf 4 (some .int), Cond.fieldLink RX2 9 "StampSheets$Sheet" "faultSets" "[I"]
def wsX4_count_r3 : List Cond := [Cond.fieldLink RX2 15 "StampSheets$Sheet" "tornOff" "[Z"]
def wsX4_count : List Cond := .code yX4_count cX4_count 2 (some .int) :: ((wsX4_count_r1 ++ (wsX4_count_r2 ++ wsX4_count_r3)) ++ wsX40 ++ wsX00 ++ wsX10 ++ wsX20 ++ (vx_atS RX4 154 "java/lang/IndexOutOfBoundsException" ["java/lang/RuntimeException", "java/lang/Exception"]).filter goodWord)
def wsX4_checkSheetsToRun : List Cond := .code yX4_checkSheetsToRun cX4_checkSheetsToRun 1 none :: ([.classLink RX4 38 "java/lang/IllegalArgumentException", .initialized "java/lang/IllegalArgumentException", .methodLink RX4 34 yX4_isWithin, .static yX4_isWithin, .initialized RX4, .code yX4_isWithin cX4_isWithin 3 (some .boolean)] ++ (vx_atS RX4 42 "java/lang/IllegalArgumentException" ["java/lang/RuntimeException", "java/lang/Exception"]).filter goodWord)
def wsX4_foresee_r1 : List Cond := [Cond.fieldLink RX4 19 "StampSheets" "trial" "LStampSheets$Trial;", Cond.fieldLink RX4 12 "StampSheets" "machine" "LStampSheets$Machine;", Cond.fieldLink RX4 23 "StampSheets" "plateInverted" "[Z", Cond.methodLink RX4 126 yX4_checkSheetsToRun, Cond.static yX4_checkSheetsToRun, Cond.initialized RX4, Cond.code yX4_checkSheetsToRun cX4_checkSheetsToRun 1 none, Cond.classLink RX4 38 "java/lang/IllegalArgumentException", Cond.initialized "java/lang/IllegalArgumentException", Cond.methodLink RX4 34 yX4_isWithin, Cond.static yX4_isWithin, Cond.code yX4_isWithin cX4_isWithin 3 (some .boolean), Cond.methodLink RX4 116 yX4_checkWhat, Cond.static yX4_checkWhat, Cond.code yX4_checkWhat cX4_checkWhat 2 none, Cond.classLink RX4 150 "java/lang/IndexOutOfBoundsException", Cond.initialized "java/lang/IndexOutOfBoundsException", Cond.methodLink RX4 129 yX3_perforateFrom, Cond.instanceMethod yX3_perforateFrom, Cond.selects RX3 yX3_perforateFrom yX3_perforateFrom, Cond.initialized RX3, Cond.code yX3_perforateFrom cX3_perforateFrom 6 none, Cond.fieldLink RX3 10 "StampSheets$Trial" "machine" "LStampSheets$Machine;", Cond.fieldLink RX3 31 "StampSheets$Trial" "faultless" "I"]
def wsX4_foresee_r2 : List Cond := [Cond.fieldLink RX3 34 "StampSheets$Trial" "worth" "I", Cond.fieldLink RX3 19 "StampSheets$Trial" "sheet" "LStampSheets$Sheet;", Cond.methodLink RX3 23 yX0_becomeLike, Cond.instanceMethod yX0_becomeLike, Cond.selects RX0 yX0_becomeLike yX0_becomeLike, Cond.initialized RX0, Cond.code yX0_becomeLike cX0_becomeLike 3 none, Cond.fieldLink RX0 20 "StampSheets$Machine" "pins" "[LStampSheets$Pin;", Cond.fieldLink RX0 9 "StampSheets$Machine" "feed" "I", Cond.fieldLink RX0 29 "StampSheets$Machine" "drift" "I", Cond.fieldLink RX0 32 "StampSheets$Machine" "error" "I", Cond.fieldLink RX0 35 "StampSheets$Machine" "rowsLeft" "I", Cond.fieldLink RX0 38 "StampSheets$Machine" "rowsRun" "I", Cond.fieldLink RX0 15 "StampSheets$Machine" "step" "I", Cond.methodLink RX0 25 yX1_becomeLike, Cond.instanceMethod yX1_becomeLike, Cond.selects RX1 yX1_becomeLike yX1_becomeLike, Cond.initialized RX1, Cond.code yX1_becomeLike cX1_becomeLike 2 none, Cond.fieldLink RX1 9 "StampSheets$Pin" "strength" "I", Cond.fieldLink RX1 15 "StampSheets$Pin" "wear" "I", Cond.methodLink RX3 37 yX0_perforate, Cond.instanceMethod yX0_perforate, Cond.selects RX0 yX0_perforate yX0_perforate]
def wsX4_foresee_r3 : List Cond := [Cond.code yX0_perforate cX0_perforate 4 none, Cond.methodLink RX0 48 Lib.Math.min.name, Cond.static Lib.Math.min.name, Cond.initialized "java/lang/Math", Cond.code Lib.Math.min.name Lib.Math.min.code 2 (some .int), Cond.methodLink RX0 54 Lib.Math.max.name, Cond.static Lib.Math.max.name, Cond.code Lib.Math.max.name Lib.Math.max.code 2 (some .int), Cond.methodLink RX0 41 yX0_markRow, Cond.instanceMethod yX0_markRow, Cond.selects RX0 yX0_markRow yX0_markRow, Cond.code yX0_markRow cX0_markRow 8 none, Cond.methodLink RX0 61 yX0_holeFaults, Cond.instanceMethod yX0_holeFaults, Cond.selects RX0 yX0_holeFaults yX0_holeFaults, Cond.code yX0_holeFaults cX0_holeFaults 3 (some .int), Cond.methodLink RX0 75 yX1_isWhole, Cond.instanceMethod yX1_isWhole, Cond.selects RX1 yX1_isWhole yX1_isWhole, Cond.code yX1_isWhole cX1_isWhole 1 (some .boolean), Cond.methodLink RX0 65 yX0_hasWatermark, Cond.instanceMethod yX0_hasWatermark, Cond.selects RX0 yX0_hasWatermark yX0_hasWatermark, Cond.code yX0_hasWatermark cX0_hasWatermark 2 (some .boolean)]
def wsX4_foresee_r4 : List Cond := [Cond.methodLink RX0 45 yX0_strikeAll, Cond.instanceMethod yX0_strikeAll, Cond.selects RX0 yX0_strikeAll yX0_strikeAll, Cond.code yX0_strikeAll cX0_strikeAll 2 none, Cond.methodLink RX0 79 yX1_strike, Cond.instanceMethod yX1_strike, Cond.selects RX1 yX1_strike yX1_strike, Cond.code yX1_strike cX1_strike 1 none, Cond.methodLink RX1 18 yX1_isWhole, Cond.methodLink RX3 41 yX2_leftWith, Cond.instanceMethod yX2_leftWith, Cond.selects RX2 yX2_leftWith yX2_leftWith, Cond.initialized RX2, Cond.code yX2_leftWith cX2_leftWith 4 (some .int), Cond.methodLink RX2 42 yX2_isLeftWith, Cond.instanceMethod yX2_isLeftWith, Cond.selects RX2 yX2_isLeftWith yX2_isLeftWith, Cond.code yX2_isLeftWith cX2_isLeftWith 3 (some .boolean), Cond.fieldLink RX2 15 "StampSheets$Sheet" "tornOff" "[Z", Cond.fieldLink RX2 9 "StampSheets$Sheet" "faultSets" "[I", Cond.methodLink RX3 45 yX2_worth, Cond.instanceMethod yX2_worth, Cond.selects RX2 yX2_worth yX2_worth, Cond.code yX2_worth cX2_worth 3 (some .int)]
def wsX4_foresee_r5 : List Cond := [Cond.methodLink RX2 39 yX2_worthOf, Cond.instanceMethod yX2_worthOf, Cond.selects RX2 yX2_worthOf yX2_worthOf, Cond.code yX2_worthOf cX2_worthOf 4 (some .int), Cond.methodLink RX4 133 yX3_answer, Cond.instanceMethod yX3_answer, Cond.selects RX3 yX3_answer yX3_answer, Cond.code yX3_answer cX3_answer 2 (some .int), Cond.methodLink RX3 48 yX0_brokenPins, Cond.instanceMethod yX0_brokenPins, Cond.selects RX0 yX0_brokenPins yX0_brokenPins, Cond.code yX0_brokenPins cX0_brokenPins 3 (some .int)]
def wsX4_foresee : List Cond := .code yX4_foresee cX4_foresee 3 (some .int) :: ((wsX4_foresee_r1 ++ (wsX4_foresee_r2 ++ (wsX4_foresee_r3 ++ (wsX4_foresee_r4 ++ wsX4_foresee_r5)))) ++ wsX40 ++ wsX00 ++ wsX30 ++ wsX10 ++ wsX20 ++ (vx_atS RX4 42 "java/lang/IllegalArgumentException" ["java/lang/RuntimeException", "java/lang/Exception"]).filter goodWord ++ (vx_atS RX4 154 "java/lang/IndexOutOfBoundsException" ["java/lang/RuntimeException", "java/lang/Exception"]).filter goodWord)
def wsX4_stampsWith : List Cond := .code yX4_stampsWith cX4_stampsWith 4 (some .int) :: ([.fieldLink RX4 88 "StampSheets" "sheetCount" "I", .fieldLink RX4 29 "StampSheets" "sheetStore" "[LStampSheets$Sheet;", .methodLink RX4 176 yX2_leftWith, .instanceMethod yX2_leftWith, .selects RX2 yX2_leftWith yX2_leftWith, .initialized RX2, .code yX2_leftWith cX2_leftWith 4 (some .int), .methodLink RX2 42 yX2_isLeftWith, .instanceMethod yX2_isLeftWith, .selects RX2 yX2_isLeftWith yX2_isLeftWith, .code yX2_isLeftWith cX2_isLeftWith 3 (some .boolean), .fieldLink RX2 15 "StampSheets$Sheet" "tornOff" "[Z", .fieldLink RX2 9 "StampSheets$Sheet" "faultSets" "[I"] ++ wsX40 ++ wsX20)
def wsX4_like : List Cond := .code yX4_like cX4_like 2 (some .int) :: ([.classLink RX4 38 "java/lang/IllegalArgumentException", .initialized "java/lang/IllegalArgumentException", .methodLink RX4 34 yX4_isWithin, .static yX4_isWithin, .initialized RX4, .code yX4_isWithin cX4_isWithin 3 (some .boolean), .methodLink RX4 139 yX4_stampsWith, .instanceMethod yX4_stampsWith, .selects RX4 yX4_stampsWith yX4_stampsWith, .code yX4_stampsWith cX4_stampsWith 4 (some .int), .fieldLink RX4 88 "StampSheets" "sheetCount" "I", .fieldLink RX4 29 "StampSheets" "sheetStore" "[LStampSheets$Sheet;", .methodLink RX4 176 yX2_leftWith, .instanceMethod yX2_leftWith, .selects RX2 yX2_leftWith yX2_leftWith, .initialized RX2, .code yX2_leftWith cX2_leftWith 4 (some .int), .methodLink RX2 42 yX2_isLeftWith, .instanceMethod yX2_isLeftWith, .selects RX2 yX2_isLeftWith yX2_isLeftWith, .code yX2_isLeftWith cX2_isLeftWith 3 (some .boolean), .fieldLink RX2 15 "StampSheets$Sheet" "tornOff" "[Z", .fieldLink RX2 9 "StampSheets$Sheet" "faultSets" "[I"] ++ wsX40 ++ wsX20 ++ (vx_atS RX4 42 "java/lang/IllegalArgumentException" ["java/lang/RuntimeException", "java/lang/Exception"]).filter goodWord)
def wsX4_share : List Cond := .code yX4_share cX4_share 2 (some .double) :: ([.fieldLink RX4 88 "StampSheets" "sheetCount" "I", .methodLink RX4 139 yX4_stampsWith, .instanceMethod yX4_stampsWith, .selects RX4 yX4_stampsWith yX4_stampsWith, .initialized RX4, .code yX4_stampsWith cX4_stampsWith 4 (some .int), .fieldLink RX4 29 "StampSheets" "sheetStore" "[LStampSheets$Sheet;", .methodLink RX4 176 yX2_leftWith, .instanceMethod yX2_leftWith, .selects RX2 yX2_leftWith yX2_leftWith, .initialized RX2, .code yX2_leftWith cX2_leftWith 4 (some .int), .methodLink RX2 42 yX2_isLeftWith, .instanceMethod yX2_isLeftWith, .selects RX2 yX2_isLeftWith yX2_isLeftWith, .code yX2_isLeftWith cX2_isLeftWith 3 (some .boolean), .fieldLink RX2 15 "StampSheets$Sheet" "tornOff" "[Z", .fieldLink RX2 9 "StampSheets$Sheet" "faultSets" "[I"] ++ wsX40 ++ wsX20)
def wsX5_init : List Cond := .code yX5_init cX5_init 1 none :: ([.methodLink RX5 1 objectInit, .instanceMethod objectInit, .code objectInit ⟨#[0xb1]⟩ 1 none, .fieldLink RX5 7 "StampSheetsLaw$Sim" "feed" "I", .fieldLink RX5 13 "StampSheetsLaw$Sim" "step" "I", .arrayClass .int, .fieldLink RX5 16 "StampSheetsLaw$Sim" "strength" "[I", .fieldLink RX5 20 "StampSheetsLaw$Sim" "wear" "[I", .arrayClass .boolean, .fieldLink RX5 23 "StampSheetsLaw$Sim" "broken" "[Z", .classLink RX5 27 "[[Z", .fieldLink RX5 29 "StampSheetsLaw$Sim" "plate" "[[Z", .classLink RX5 32 "[[I", .fieldLink RX5 34 "StampSheetsLaw$Sim" "sheets" "[[[I", .fieldLink RX5 38 "StampSheetsLaw$Sim" "torn" "[[[Z"] ++ wsX50)
def wsX5_sheet : List Cond := .code yX5_sheet cX5_sheet 5 (some (.array (.array .int))) :: ([.classLink RX5 32 "[[I", .arrayClass .int, .fieldLink RX5 46 "StampSheetsLaw$Sim" "error" "I", .fieldLink RX5 7 "StampSheetsLaw$Sim" "feed" "I", .fieldLink RX5 23 "StampSheetsLaw$Sim" "broken" "[Z", .fieldLink RX5 29 "StampSheetsLaw$Sim" "plate" "[[Z", .fieldLink RX5 49 "StampSheetsLaw$Sim" "ran" "I", .fieldLink RX5 13 "StampSheetsLaw$Sim" "step" "I", .fieldLink RX5 20 "StampSheetsLaw$Sim" "wear" "[I", .fieldLink RX5 16 "StampSheetsLaw$Sim" "strength" "[I", .fieldLink RX5 52 "StampSheetsLaw$Sim" "left" "I", .fieldLink RX5 43 "StampSheetsLaw$Sim" "drift" "I"] ++ wsX50)
def wsX5_run : List Cond := .code yX5_run cX5_run 5 (some .int) :: ([.fieldLink RX5 34 "StampSheetsLaw$Sim" "sheets" "[[[I", .classLink RX5 32 "[[I", .fieldLink RX5 38 "StampSheetsLaw$Sim" "torn" "[[[Z", .classLink RX5 27 "[[Z", .arrayClass .boolean, .methodLink RX5 55 yX5_sheet, .instanceMethod yX5_sheet, .selects RX5 yX5_sheet yX5_sheet, .initialized RX5, .code yX5_sheet cX5_sheet 5 (some (.array (.array .int))), .arrayClass .int, .fieldLink RX5 46 "StampSheetsLaw$Sim" "error" "I", .fieldLink RX5 7 "StampSheetsLaw$Sim" "feed" "I", .fieldLink RX5 23 "StampSheetsLaw$Sim" "broken" "[Z", .fieldLink RX5 29 "StampSheetsLaw$Sim" "plate" "[[Z", .fieldLink RX5 49 "StampSheetsLaw$Sim" "ran" "I", .fieldLink RX5 13 "StampSheetsLaw$Sim" "step" "I", .fieldLink RX5 20 "StampSheetsLaw$Sim" "wear" "[I", .fieldLink RX5 16 "StampSheetsLaw$Sim" "strength" "[I", .fieldLink RX5 52 "StampSheetsLaw$Sim" "left" "I", .fieldLink RX5 43 "StampSheetsLaw$Sim" "drift" "I"] ++ wsX50)
def wsX5_worth : List Cond := .code yX5_worth cX5_worth 2 (some .int) :: ([])
def wsX5_told : List Cond := .code yX5_told cX5_told 10 (some .int) :: ([.fieldLink RX5 34 "StampSheetsLaw$Sim" "sheets" "[[[I", .fieldLink RX5 38 "StampSheetsLaw$Sim" "torn" "[[[Z", .arrayClass .boolean, .methodLink RX5 63 Lib.Math.max.name, .static Lib.Math.max.name, .initialized "java/lang/Math", .code Lib.Math.max.name Lib.Math.max.code 2 (some .int), .methodLink RX5 59 yX5_worth, .static yX5_worth, .initialized RX5, .code yX5_worth cX5_worth 2 (some .int)] ++ wsX50)
def wsX5_broken : List Cond := .code yX5_broken cX5_broken 6 (some .int) :: ([.fieldLink RX5 23 "StampSheetsLaw$Sim" "broken" "[Z"] ++ wsX50)
def wsX5_isSame_r1 : List Cond := [Cond.fieldLink RX5 34 "StampSheetsLaw$Sim" "sheets" "[[[I", Cond.arrayClass .int, Cond.fieldLink RX5 16 "StampSheetsLaw$Sim" "strength" "[I", Cond.fieldLink RX5 20 "StampSheetsLaw$Sim" "wear" "[I", Cond.fieldLink RX5 23 "StampSheetsLaw$Sim" "broken" "[Z", Cond.fieldLink RX5 29 "StampSheetsLaw$Sim" "plate" "[[Z", Cond.fieldLink RX5 7 "StampSheetsLaw$Sim" "feed" "I", Cond.fieldLink RX5 43 "StampSheetsLaw$Sim" "drift" "I", Cond.fieldLink RX5 46 "StampSheetsLaw$Sim" "error" "I", Cond.fieldLink RX5 52 "StampSheetsLaw$Sim" "left" "I", Cond.fieldLink RX5 13 "StampSheetsLaw$Sim" "step" "I", Cond.fieldLink RX5 49 "StampSheetsLaw$Sim" "ran" "I", Cond.methodLink RX5 69 yX4_sheet, Cond.instanceMethod yX4_sheet, Cond.selects RX4 yX4_sheet yX4_sheet, Cond.initialized RX4, Cond.code yX4_sheet cX4_sheet 3 (some .int), Cond.fieldLink RX4 29 "StampSheets" "sheetStore" "[LStampSheets$Sheet;", Cond.methodLink RX4 100 yX4_checkSheet, Cond.instanceMethod yX4_checkSheet, Cond.selects RX4 yX4_checkSheet yX4_checkSheet, Cond.code yX4_checkSheet cX4_checkSheet 2 none, Cond.classLink RX4 150 "java/lang/IndexOutOfBoundsException", Cond.initialized "java/lang/IndexOutOfBoundsException"]
def wsX5_isSame_r2 : List Cond := [Cond.fieldLink RX4 88 "StampSheets" "sheetCount" "I", Cond.methodLink RX4 34 yX4_isWithin, Cond.static yX4_isWithin, Cond.code yX4_isWithin cX4_isWithin 3 (some .boolean), Cond.methodLink RX4 116 yX4_checkWhat, Cond.static yX4_checkWhat, Cond.code yX4_checkWhat cX4_checkWhat 2 none, Cond.methodLink RX4 119 yX2_answer, Cond.instanceMethod yX2_answer, Cond.selects RX2 yX2_answer yX2_answer, Cond.initialized RX2, Cond.code yX2_answer cX2_answer 2 (some .int), Cond.methodLink RX2 19 yX2_left, Cond.instanceMethod yX2_left, Cond.selects RX2 yX2_left yX2_left, Cond.code yX2_left cX2_left 3 (some .int), Cond.fieldLink RX2 15 "StampSheets$Sheet" "tornOff" "[Z", Cond.methodLink RX2 23 yX2_leftWith, Cond.instanceMethod yX2_leftWith, Cond.selects RX2 yX2_leftWith yX2_leftWith, Cond.code yX2_leftWith cX2_leftWith 4 (some .int), Cond.methodLink RX2 42 yX2_isLeftWith, Cond.instanceMethod yX2_isLeftWith, Cond.selects RX2 yX2_isLeftWith yX2_isLeftWith]
def wsX5_isSame_r3 : List Cond := [Cond.code yX2_isLeftWith cX2_isLeftWith 3 (some .boolean), Cond.fieldLink RX2 9 "StampSheets$Sheet" "faultSets" "[I", Cond.methodLink RX2 27 yX2_worth, Cond.instanceMethod yX2_worth, Cond.selects RX2 yX2_worth yX2_worth, Cond.code yX2_worth cX2_worth 3 (some .int), Cond.methodLink RX2 39 yX2_worthOf, Cond.instanceMethod yX2_worthOf, Cond.selects RX2 yX2_worthOf yX2_worthOf, Cond.code yX2_worthOf cX2_worthOf 4 (some .int), Cond.methodLink RX2 30 yX2_invertedPairs, Cond.instanceMethod yX2_invertedPairs, Cond.selects RX2 yX2_invertedPairs yX2_invertedPairs, Cond.code yX2_invertedPairs cX2_invertedPairs 4 (some .int), Cond.methodLink RX2 46 yX2_isInvertedPair, Cond.instanceMethod yX2_isInvertedPair, Cond.selects RX2 yX2_isInvertedPair yX2_isInvertedPair, Cond.code yX2_isInvertedPair cX2_isInvertedPair 3 (some .boolean), Cond.methodLink RX2 33 yX2_rowsOff, Cond.instanceMethod yX2_rowsOff, Cond.selects RX2 yX2_rowsOff yX2_rowsOff, Cond.code yX2_rowsOff cX2_rowsOff 3 (some .int), Cond.methodLink RX2 36 yX2_greatestBlock, Cond.instanceMethod yX2_greatestBlock]
def wsX5_isSame_r4 : List Cond := [Cond.selects RX2 yX2_greatestBlock yX2_greatestBlock, Cond.code yX2_greatestBlock cX2_greatestBlock 5 (some .int), Cond.methodLink RX2 56 Lib.Math.max.name, Cond.static Lib.Math.max.name, Cond.initialized "java/lang/Math", Cond.code Lib.Math.max.name Lib.Math.max.code 2 (some .int), Cond.methodLink RX2 50 yX2_goodColumns, Cond.instanceMethod yX2_goodColumns, Cond.selects RX2 yX2_goodColumns yX2_goodColumns, Cond.code yX2_goodColumns cX2_goodColumns 4 (some .int), Cond.methodLink RX2 53 yX2_longestRun, Cond.static yX2_longestRun, Cond.code yX2_longestRun cX2_longestRun 4 (some .int), Cond.methodLink RX5 73 yX5_told, Cond.instanceMethod yX5_told, Cond.selects RX5 yX5_told yX5_told, Cond.initialized RX5, Cond.code yX5_told cX5_told 10 (some .int), Cond.fieldLink RX5 38 "StampSheetsLaw$Sim" "torn" "[[[Z", Cond.arrayClass .boolean, Cond.methodLink RX5 63 Lib.Math.max.name, Cond.methodLink RX5 59 yX5_worth, Cond.static yX5_worth, Cond.code yX5_worth cX5_worth 2 (some .int)]
def wsX5_isSame_r5 : List Cond := [Cond.methodLink RX5 76 yX4_faults, Cond.instanceMethod yX4_faults, Cond.selects RX4 yX4_faults yX4_faults, Cond.code yX4_faults cX4_faults 4 (some .int), Cond.methodLink RX4 84 yX4_checkPlace, Cond.static yX4_checkPlace, Cond.code yX4_checkPlace cX4_checkPlace 2 none, Cond.methodLink RX5 80 yX4_pin, Cond.instanceMethod yX4_pin, Cond.selects RX4 yX4_pin yX4_pin, Cond.code yX4_pin cX4_pin 3 (some .int), Cond.fieldLink RX4 12 "StampSheets" "machine" "LStampSheets$Machine;", Cond.methodLink RX4 66 yX4_checkPin, Cond.static yX4_checkPin, Cond.code yX4_checkPin cX4_checkPin 1 none, Cond.methodLink RX4 122 yX1_answer, Cond.instanceMethod yX1_answer, Cond.selects RX1 yX1_answer yX1_answer, Cond.initialized RX1, Cond.code yX1_answer cX1_answer 2 (some .int), Cond.fieldLink RX1 9 "StampSheets$Pin" "strength" "I", Cond.fieldLink RX1 15 "StampSheets$Pin" "wear" "I", Cond.methodLink RX1 18 yX1_isWhole, Cond.instanceMethod yX1_isWhole]
def wsX5_isSame_r6 : List Cond := [Cond.selects RX1 yX1_isWhole yX1_isWhole, Cond.code yX1_isWhole cX1_isWhole 1 (some .boolean), Cond.methodLink RX5 83 yX5_broken, Cond.instanceMethod yX5_broken, Cond.selects RX5 yX5_broken yX5_broken, Cond.code yX5_broken cX5_broken 6 (some .int), Cond.methodLink RX5 86 yX4_count, Cond.instanceMethod yX4_count, Cond.selects RX4 yX4_count yX4_count, Cond.code yX4_count cX4_count 2 (some .int), Cond.methodLink RX4 123 yX4_countAnswer, Cond.instanceMethod yX4_countAnswer, Cond.selects RX4 yX4_countAnswer yX4_countAnswer, Cond.code yX4_countAnswer cX4_countAnswer 2 (some .int), Cond.methodLink RX4 163 yX0_brokenPins, Cond.instanceMethod yX0_brokenPins, Cond.selects RX0 yX0_brokenPins yX0_brokenPins, Cond.initialized RX0, Cond.code yX0_brokenPins cX0_brokenPins 3 (some .int), Cond.fieldLink RX0 20 "StampSheets$Machine" "pins" "[LStampSheets$Pin;", Cond.methodLink RX0 75 yX1_isWhole, Cond.methodLink RX4 167 yX4_invertedPlaces, Cond.instanceMethod yX4_invertedPlaces, Cond.selects RX4 yX4_invertedPlaces yX4_invertedPlaces]
def wsX5_isSame_r7 : List Cond := [Cond.code yX4_invertedPlaces cX4_invertedPlaces 3 (some .int), Cond.fieldLink RX4 23 "StampSheets" "plateInverted" "[Z", Cond.methodLink RX4 170 yX4_worthOfSheets, Cond.instanceMethod yX4_worthOfSheets, Cond.selects RX4 yX4_worthOfSheets yX4_worthOfSheets, Cond.code yX4_worthOfSheets cX4_worthOfSheets 3 (some .int), Cond.methodLink RX4 173 yX2_worth, Cond.methodLink RX5 90 yX4_share, Cond.instanceMethod yX4_share, Cond.selects RX4 yX4_share yX4_share, Cond.code yX4_share cX4_share 2 (some .double), Cond.methodLink RX4 139 yX4_stampsWith, Cond.instanceMethod yX4_stampsWith, Cond.selects RX4 yX4_stampsWith yX4_stampsWith, Cond.code yX4_stampsWith cX4_stampsWith 4 (some .int), Cond.methodLink RX4 176 yX2_leftWith]
def wsX5_isSame : List Cond := .code yX5_isSame cX5_isSame 13 (some .boolean) :: ((wsX5_isSame_r1 ++ (wsX5_isSame_r2 ++ (wsX5_isSame_r3 ++ (wsX5_isSame_r4 ++ (wsX5_isSame_r5 ++ (wsX5_isSame_r6 ++ wsX5_isSame_r7)))))) ++ wsX50 ++ wsX40 ++ wsX20 ++ wsX00 ++ wsX10 ++ (vx_atS RX4 154 "java/lang/IndexOutOfBoundsException" ["java/lang/RuntimeException", "java/lang/Exception"]).filter goodWord)
def wsJ9_max_7cf53 : List Cond := .code yJ9_max_7cf53 cJ9_max_7cf53 2 (some .int) :: ([])
def wsJ9_min_7cf53 : List Cond := .code yJ9_min_7cf53 cJ9_min_7cf53 2 (some .int) :: ([])
def wsL_below : List Cond := .code yL_below cL_below 2 (some .int) :: ([.constant RL 7 (2147483647)])
def wsL_cell : List Cond := .code yL_cell cL_cell 2 (some .int) :: ([.constant RL 8 (790386105)])
def wsL_act_r1 : List Cond := [Cond.fieldLink RL 9 "StampSheetsLaw$Sim" "sheets" "[[[I", Cond.fieldLink RL 21 "StampSheetsLaw$Sim" "feed" "I", Cond.fieldLink RL 25 "StampSheetsLaw$Sim" "drift" "I", Cond.fieldLink RL 33 "StampSheetsLaw$Sim" "error" "I", Cond.fieldLink RL 40 "StampSheetsLaw$Sim" "left" "I", Cond.fieldLink RL 43 "StampSheetsLaw$Sim" "step" "I", Cond.fieldLink RL 46 "StampSheetsLaw$Sim" "ran" "I", Cond.fieldLink RL 52 "StampSheetsLaw$Sim" "wear" "[I", Cond.fieldLink RL 56 "StampSheetsLaw$Sim" "strength" "[I", Cond.methodLink RL 59 ⟨"[I", "clone", "()Ljava/lang/Object;"⟩, Cond.sameMethod "[I" "java/lang/Object" "clone" "()Ljava/lang/Object;", Cond.native ⟨"java/lang/Object", "clone", "()Ljava/lang/Object;"⟩, Cond.instanceMethod ⟨"java/lang/Object", "clone", "()Ljava/lang/Object;"⟩, Cond.selects "[I" ⟨"[I", "clone", "()Ljava/lang/Object;"⟩ ⟨"java/lang/Object", "clone", "()Ljava/lang/Object;"⟩, Cond.classLink RL 60 "[I", Cond.fieldLink RL 64 "StampSheetsLaw$Sim" "broken" "[Z", Cond.fieldLink RL 71 "StampSheetsLaw$Sim" "plate" "[[Z", Cond.fieldLink RL 83 "StampSheetsLaw$Sim" "torn" "[[[Z", Cond.methodLink RL 15 yL_below, Cond.static yL_below, Cond.initialized RL, Cond.code yL_below cL_below 2 (some .int), Cond.constant RL 7 (2147483647), Cond.methodLink RL 28 yX4_setFeed]
def wsL_act_r2 : List Cond := [Cond.instanceMethod yX4_setFeed, Cond.selects RX4 yX4_setFeed yX4_setFeed, Cond.initialized RX4, Cond.code yX4_setFeed cX4_setFeed 4 (some .int), Cond.classLink RX4 38 "java/lang/IllegalArgumentException", Cond.initialized "java/lang/IllegalArgumentException", Cond.fieldLink RX4 12 "StampSheets" "machine" "LStampSheets$Machine;", Cond.methodLink RX4 34 yX4_isWithin, Cond.static yX4_isWithin, Cond.code yX4_isWithin cX4_isWithin 3 (some .boolean), Cond.methodLink RL 36 yX4_align, Cond.instanceMethod yX4_align, Cond.selects RX4 yX4_align yX4_align, Cond.code yX4_align cX4_align 2 (some .int), Cond.methodLink RL 49 yX4_roll, Cond.instanceMethod yX4_roll, Cond.selects RX4 yX4_roll yX4_roll, Cond.code yX4_roll cX4_roll 4 (some .int), Cond.methodLink RL 68 yX4_fit, Cond.instanceMethod yX4_fit, Cond.selects RX4 yX4_fit yX4_fit, Cond.code yX4_fit cX4_fit 5 (some .int), Cond.methodLink RX4 66 yX4_checkPin, Cond.static yX4_checkPin]
def wsL_act_r3 : List Cond := [Cond.code yX4_checkPin cX4_checkPin 1 none, Cond.classLink RX4 150 "java/lang/IndexOutOfBoundsException", Cond.initialized "java/lang/IndexOutOfBoundsException", Cond.methodLink RL 75 yX4_turn, Cond.instanceMethod yX4_turn, Cond.selects RX4 yX4_turn yX4_turn, Cond.code yX4_turn cX4_turn 4 (some .boolean), Cond.fieldLink RX4 23 "StampSheets" "plateInverted" "[Z", Cond.methodLink RX4 84 yX4_checkPlace, Cond.static yX4_checkPlace, Cond.code yX4_checkPlace cX4_checkPlace 2 none, Cond.methodLink RL 79 yX4_run, Cond.instanceMethod yX4_run, Cond.selects RX4 yX4_run yX4_run, Cond.code yX4_run cX4_run 1 (some .int), Cond.classLink RX4 91 "java/lang/IllegalStateException", Cond.initialized "java/lang/IllegalStateException", Cond.fieldLink RX4 88 "StampSheets" "sheetCount" "I", Cond.fieldLink RX4 29 "StampSheets" "sheetStore" "[LStampSheets$Sheet;", Cond.methodLink RX4 96 yX0_perforate, Cond.instanceMethod yX0_perforate, Cond.selects RX0 yX0_perforate yX0_perforate, Cond.initialized RX0, Cond.code yX0_perforate cX0_perforate 4 none]
def wsL_act_r4 : List Cond := [Cond.fieldLink RX0 32 "StampSheets$Machine" "error" "I", Cond.fieldLink RX0 9 "StampSheets$Machine" "feed" "I", Cond.fieldLink RX0 35 "StampSheets$Machine" "rowsLeft" "I", Cond.fieldLink RX0 38 "StampSheets$Machine" "rowsRun" "I", Cond.fieldLink RX0 29 "StampSheets$Machine" "drift" "I", Cond.methodLink RX0 48 Lib.Math.min.name, Cond.static Lib.Math.min.name, Cond.initialized "java/lang/Math", Cond.code Lib.Math.min.name Lib.Math.min.code 2 (some .int), Cond.methodLink RX0 54 Lib.Math.max.name, Cond.static Lib.Math.max.name, Cond.code Lib.Math.max.name Lib.Math.max.code 2 (some .int), Cond.methodLink RX0 41 yX0_markRow, Cond.instanceMethod yX0_markRow, Cond.selects RX0 yX0_markRow yX0_markRow, Cond.code yX0_markRow cX0_markRow 8 none, Cond.methodLink RX0 61 yX0_holeFaults, Cond.instanceMethod yX0_holeFaults, Cond.selects RX0 yX0_holeFaults yX0_holeFaults, Cond.code yX0_holeFaults cX0_holeFaults 3 (some .int), Cond.fieldLink RX0 20 "StampSheets$Machine" "pins" "[LStampSheets$Pin;", Cond.methodLink RX0 75 yX1_isWhole, Cond.instanceMethod yX1_isWhole, Cond.selects RX1 yX1_isWhole yX1_isWhole]
def wsL_act_r5 : List Cond := [Cond.initialized RX1, Cond.code yX1_isWhole cX1_isWhole 1 (some .boolean), Cond.fieldLink RX1 15 "StampSheets$Pin" "wear" "I", Cond.fieldLink RX1 9 "StampSheets$Pin" "strength" "I", Cond.methodLink RX0 65 yX0_hasWatermark, Cond.instanceMethod yX0_hasWatermark, Cond.selects RX0 yX0_hasWatermark yX0_hasWatermark, Cond.code yX0_hasWatermark cX0_hasWatermark 2 (some .boolean), Cond.fieldLink RX0 15 "StampSheets$Machine" "step" "I", Cond.methodLink RX0 45 yX0_strikeAll, Cond.instanceMethod yX0_strikeAll, Cond.selects RX0 yX0_strikeAll yX0_strikeAll, Cond.code yX0_strikeAll cX0_strikeAll 2 none, Cond.methodLink RX0 79 yX1_strike, Cond.instanceMethod yX1_strike, Cond.selects RX1 yX1_strike yX1_strike, Cond.code yX1_strike cX1_strike 1 none, Cond.methodLink RX1 18 yX1_isWhole, Cond.methodLink RL 82 yX5_run, Cond.instanceMethod yX5_run, Cond.selects RX5 yX5_run yX5_run, Cond.initialized RX5, Cond.code yX5_run cX5_run 5 (some .int), Cond.fieldLink RX5 34 "StampSheetsLaw$Sim" "sheets" "[[[I"]
def wsL_act_r6 : List Cond := [Cond.classLink RX5 32 "[[I", Cond.fieldLink RX5 38 "StampSheetsLaw$Sim" "torn" "[[[Z", Cond.classLink RX5 27 "[[Z", Cond.arrayClass .boolean, Cond.methodLink RX5 55 yX5_sheet, Cond.instanceMethod yX5_sheet, Cond.selects RX5 yX5_sheet yX5_sheet, Cond.code yX5_sheet cX5_sheet 5 (some (.array (.array .int))), Cond.arrayClass .int, Cond.fieldLink RX5 46 "StampSheetsLaw$Sim" "error" "I", Cond.fieldLink RX5 7 "StampSheetsLaw$Sim" "feed" "I", Cond.fieldLink RX5 23 "StampSheetsLaw$Sim" "broken" "[Z", Cond.fieldLink RX5 29 "StampSheetsLaw$Sim" "plate" "[[Z", Cond.fieldLink RX5 49 "StampSheetsLaw$Sim" "ran" "I", Cond.fieldLink RX5 13 "StampSheetsLaw$Sim" "step" "I", Cond.fieldLink RX5 20 "StampSheetsLaw$Sim" "wear" "[I", Cond.fieldLink RX5 16 "StampSheetsLaw$Sim" "strength" "[I", Cond.fieldLink RX5 52 "StampSheetsLaw$Sim" "left" "I", Cond.fieldLink RX5 43 "StampSheetsLaw$Sim" "drift" "I", Cond.methodLink RL 87 yX5_worth, Cond.static yX5_worth, Cond.code yX5_worth cX5_worth 2 (some .int), Cond.methodLink RL 91 yX4_tear, Cond.instanceMethod yX4_tear]
def wsL_act_r7 : List Cond := [Cond.selects RX4 yX4_tear yX4_tear, Cond.code yX4_tear cX4_tear 7 (some .int), Cond.methodLink RX4 100 yX4_checkSheet, Cond.instanceMethod yX4_checkSheet, Cond.selects RX4 yX4_checkSheet yX4_checkSheet, Cond.code yX4_checkSheet cX4_checkSheet 2 none, Cond.methodLink RX4 112 yX2_worthOf, Cond.instanceMethod yX2_worthOf, Cond.selects RX2 yX2_worthOf yX2_worthOf, Cond.initialized RX2, Cond.code yX2_worthOf cX2_worthOf 4 (some .int), Cond.fieldLink RX2 9 "StampSheets$Sheet" "faultSets" "[I", Cond.fieldLink RX2 15 "StampSheets$Sheet" "tornOff" "[Z"]
def wsL_act : List Cond := .code yL_act cL_act 16 (some .boolean) :: ((wsL_act_r1 ++ (wsL_act_r2 ++ (wsL_act_r3 ++ (wsL_act_r4 ++ (wsL_act_r5 ++ (wsL_act_r6 ++ wsL_act_r7)))))) ++ wsX50 ++ wsX40 ++ wsX00 ++ wsX10 ++ wsX20 ++ (vx_atS RX4 42 "java/lang/IllegalArgumentException" ["java/lang/RuntimeException", "java/lang/Exception"]).filter goodWord ++ (vx_atS RX4 154 "java/lang/IndexOutOfBoundsException" ["java/lang/RuntimeException", "java/lang/Exception"]).filter goodWord ++ (vx_atS RX4 95 "java/lang/IllegalStateException" ["java/lang/RuntimeException", "java/lang/Exception"]).filter goodWord)
def wsL_build_r1 : List Cond := [Cond.classLink RL 10 RX5, Cond.instantiable RX5 12, Cond.initialized RX5, Cond.instanceMethod yX5_init, Cond.code yX5_init cX5_init 1 none, Cond.methodLink RX5 1 objectInit, Cond.instanceMethod objectInit, Cond.code objectInit ⟨#[0xb1]⟩ 1 none, Cond.fieldLink RX5 7 "StampSheetsLaw$Sim" "feed" "I", Cond.fieldLink RX5 13 "StampSheetsLaw$Sim" "step" "I", Cond.arrayClass .int, Cond.fieldLink RX5 16 "StampSheetsLaw$Sim" "strength" "[I", Cond.fieldLink RX5 20 "StampSheetsLaw$Sim" "wear" "[I", Cond.arrayClass .boolean, Cond.fieldLink RX5 23 "StampSheetsLaw$Sim" "broken" "[Z", Cond.classLink RX5 27 "[[Z", Cond.fieldLink RX5 29 "StampSheetsLaw$Sim" "plate" "[[Z", Cond.classLink RX5 32 "[[I", Cond.fieldLink RX5 34 "StampSheetsLaw$Sim" "sheets" "[[[I", Cond.fieldLink RX5 38 "StampSheetsLaw$Sim" "torn" "[[[Z", Cond.methodLink RL 96 yL_cell, Cond.static yL_cell, Cond.initialized RL, Cond.code yL_cell cL_cell 2 (some .int)]
def wsL_build_r2 : List Cond := [Cond.constant RL 8 (790386105), Cond.methodLink RL 100 yL_act, Cond.static yL_act, Cond.code yL_act cL_act 16 (some .boolean), Cond.fieldLink RL 9 "StampSheetsLaw$Sim" "sheets" "[[[I", Cond.fieldLink RL 21 "StampSheetsLaw$Sim" "feed" "I", Cond.fieldLink RL 25 "StampSheetsLaw$Sim" "drift" "I", Cond.fieldLink RL 33 "StampSheetsLaw$Sim" "error" "I", Cond.fieldLink RL 40 "StampSheetsLaw$Sim" "left" "I", Cond.fieldLink RL 43 "StampSheetsLaw$Sim" "step" "I", Cond.fieldLink RL 46 "StampSheetsLaw$Sim" "ran" "I", Cond.fieldLink RL 52 "StampSheetsLaw$Sim" "wear" "[I", Cond.fieldLink RL 56 "StampSheetsLaw$Sim" "strength" "[I", Cond.methodLink RL 59 ⟨"[I", "clone", "()Ljava/lang/Object;"⟩, Cond.sameMethod "[I" "java/lang/Object" "clone" "()Ljava/lang/Object;", Cond.native ⟨"java/lang/Object", "clone", "()Ljava/lang/Object;"⟩, Cond.instanceMethod ⟨"java/lang/Object", "clone", "()Ljava/lang/Object;"⟩, Cond.selects "[I" ⟨"[I", "clone", "()Ljava/lang/Object;"⟩ ⟨"java/lang/Object", "clone", "()Ljava/lang/Object;"⟩, Cond.classLink RL 60 "[I", Cond.fieldLink RL 64 "StampSheetsLaw$Sim" "broken" "[Z", Cond.fieldLink RL 71 "StampSheetsLaw$Sim" "plate" "[[Z", Cond.fieldLink RL 83 "StampSheetsLaw$Sim" "torn" "[[[Z", Cond.methodLink RL 15 yL_below, Cond.static yL_below]
def wsL_build_r3 : List Cond := [Cond.code yL_below cL_below 2 (some .int), Cond.constant RL 7 (2147483647), Cond.methodLink RL 28 yX4_setFeed, Cond.instanceMethod yX4_setFeed, Cond.selects RX4 yX4_setFeed yX4_setFeed, Cond.initialized RX4, Cond.code yX4_setFeed cX4_setFeed 4 (some .int), Cond.classLink RX4 38 "java/lang/IllegalArgumentException", Cond.initialized "java/lang/IllegalArgumentException", Cond.fieldLink RX4 12 "StampSheets" "machine" "LStampSheets$Machine;", Cond.methodLink RX4 34 yX4_isWithin, Cond.static yX4_isWithin, Cond.code yX4_isWithin cX4_isWithin 3 (some .boolean), Cond.methodLink RL 36 yX4_align, Cond.instanceMethod yX4_align, Cond.selects RX4 yX4_align yX4_align, Cond.code yX4_align cX4_align 2 (some .int), Cond.methodLink RL 49 yX4_roll, Cond.instanceMethod yX4_roll, Cond.selects RX4 yX4_roll yX4_roll, Cond.code yX4_roll cX4_roll 4 (some .int), Cond.methodLink RL 68 yX4_fit, Cond.instanceMethod yX4_fit, Cond.selects RX4 yX4_fit yX4_fit]
def wsL_build_r4 : List Cond := [Cond.code yX4_fit cX4_fit 5 (some .int), Cond.methodLink RX4 66 yX4_checkPin, Cond.static yX4_checkPin, Cond.code yX4_checkPin cX4_checkPin 1 none, Cond.classLink RX4 150 "java/lang/IndexOutOfBoundsException", Cond.initialized "java/lang/IndexOutOfBoundsException", Cond.methodLink RL 75 yX4_turn, Cond.instanceMethod yX4_turn, Cond.selects RX4 yX4_turn yX4_turn, Cond.code yX4_turn cX4_turn 4 (some .boolean), Cond.fieldLink RX4 23 "StampSheets" "plateInverted" "[Z", Cond.methodLink RX4 84 yX4_checkPlace, Cond.static yX4_checkPlace, Cond.code yX4_checkPlace cX4_checkPlace 2 none, Cond.methodLink RL 79 yX4_run, Cond.instanceMethod yX4_run, Cond.selects RX4 yX4_run yX4_run, Cond.code yX4_run cX4_run 1 (some .int), Cond.classLink RX4 91 "java/lang/IllegalStateException", Cond.initialized "java/lang/IllegalStateException", Cond.fieldLink RX4 88 "StampSheets" "sheetCount" "I", Cond.fieldLink RX4 29 "StampSheets" "sheetStore" "[LStampSheets$Sheet;", Cond.methodLink RX4 96 yX0_perforate, Cond.instanceMethod yX0_perforate]
def wsL_build_r5 : List Cond := [Cond.selects RX0 yX0_perforate yX0_perforate, Cond.initialized RX0, Cond.code yX0_perforate cX0_perforate 4 none, Cond.fieldLink RX0 32 "StampSheets$Machine" "error" "I", Cond.fieldLink RX0 9 "StampSheets$Machine" "feed" "I", Cond.fieldLink RX0 35 "StampSheets$Machine" "rowsLeft" "I", Cond.fieldLink RX0 38 "StampSheets$Machine" "rowsRun" "I", Cond.fieldLink RX0 29 "StampSheets$Machine" "drift" "I", Cond.methodLink RX0 48 Lib.Math.min.name, Cond.static Lib.Math.min.name, Cond.initialized "java/lang/Math", Cond.code Lib.Math.min.name Lib.Math.min.code 2 (some .int), Cond.methodLink RX0 54 Lib.Math.max.name, Cond.static Lib.Math.max.name, Cond.code Lib.Math.max.name Lib.Math.max.code 2 (some .int), Cond.methodLink RX0 41 yX0_markRow, Cond.instanceMethod yX0_markRow, Cond.selects RX0 yX0_markRow yX0_markRow, Cond.code yX0_markRow cX0_markRow 8 none, Cond.methodLink RX0 61 yX0_holeFaults, Cond.instanceMethod yX0_holeFaults, Cond.selects RX0 yX0_holeFaults yX0_holeFaults, Cond.code yX0_holeFaults cX0_holeFaults 3 (some .int), Cond.fieldLink RX0 20 "StampSheets$Machine" "pins" "[LStampSheets$Pin;"]
def wsL_build_r6 : List Cond := [Cond.methodLink RX0 75 yX1_isWhole, Cond.instanceMethod yX1_isWhole, Cond.selects RX1 yX1_isWhole yX1_isWhole, Cond.initialized RX1, Cond.code yX1_isWhole cX1_isWhole 1 (some .boolean), Cond.fieldLink RX1 15 "StampSheets$Pin" "wear" "I", Cond.fieldLink RX1 9 "StampSheets$Pin" "strength" "I", Cond.methodLink RX0 65 yX0_hasWatermark, Cond.instanceMethod yX0_hasWatermark, Cond.selects RX0 yX0_hasWatermark yX0_hasWatermark, Cond.code yX0_hasWatermark cX0_hasWatermark 2 (some .boolean), Cond.fieldLink RX0 15 "StampSheets$Machine" "step" "I", Cond.methodLink RX0 45 yX0_strikeAll, Cond.instanceMethod yX0_strikeAll, Cond.selects RX0 yX0_strikeAll yX0_strikeAll, Cond.code yX0_strikeAll cX0_strikeAll 2 none, Cond.methodLink RX0 79 yX1_strike, Cond.instanceMethod yX1_strike, Cond.selects RX1 yX1_strike yX1_strike, Cond.code yX1_strike cX1_strike 1 none, Cond.methodLink RX1 18 yX1_isWhole, Cond.methodLink RL 82 yX5_run, Cond.instanceMethod yX5_run, Cond.selects RX5 yX5_run yX5_run]
def wsL_build_r7 : List Cond := [Cond.code yX5_run cX5_run 5 (some .int), Cond.methodLink RX5 55 yX5_sheet, Cond.instanceMethod yX5_sheet, Cond.selects RX5 yX5_sheet yX5_sheet, Cond.code yX5_sheet cX5_sheet 5 (some (.array (.array .int))), Cond.fieldLink RX5 46 "StampSheetsLaw$Sim" "error" "I", Cond.fieldLink RX5 49 "StampSheetsLaw$Sim" "ran" "I", Cond.fieldLink RX5 52 "StampSheetsLaw$Sim" "left" "I", Cond.fieldLink RX5 43 "StampSheetsLaw$Sim" "drift" "I", Cond.methodLink RL 87 yX5_worth, Cond.static yX5_worth, Cond.code yX5_worth cX5_worth 2 (some .int), Cond.methodLink RL 91 yX4_tear, Cond.instanceMethod yX4_tear, Cond.selects RX4 yX4_tear yX4_tear, Cond.code yX4_tear cX4_tear 7 (some .int), Cond.methodLink RX4 100 yX4_checkSheet, Cond.instanceMethod yX4_checkSheet, Cond.selects RX4 yX4_checkSheet yX4_checkSheet, Cond.code yX4_checkSheet cX4_checkSheet 2 none, Cond.methodLink RX4 112 yX2_worthOf, Cond.instanceMethod yX2_worthOf, Cond.selects RX2 yX2_worthOf yX2_worthOf, Cond.initialized RX2]
def wsL_build_r8 : List Cond := [Cond.code yX2_worthOf cX2_worthOf 4 (some .int), Cond.fieldLink RX2 9 "StampSheets$Sheet" "faultSets" "[I", Cond.fieldLink RX2 15 "StampSheets$Sheet" "tornOff" "[Z"]
def wsL_build : List Cond := .code yL_build cL_build 4 (some (.object "StampSheetsLaw$Sim")) :: ((wsL_build_r1 ++ (wsL_build_r2 ++ (wsL_build_r3 ++ (wsL_build_r4 ++ (wsL_build_r5 ++ (wsL_build_r6 ++ (wsL_build_r7 ++ wsL_build_r8))))))) ++ wsX50 ++ wsX40 ++ wsX00 ++ wsX10 ++ wsX20 ++ (vx_atS RX4 42 "java/lang/IllegalArgumentException" ["java/lang/RuntimeException", "java/lang/Exception"]).filter goodWord ++ (vx_atS RX4 154 "java/lang/IndexOutOfBoundsException" ["java/lang/RuntimeException", "java/lang/Exception"]).filter goodWord ++ (vx_atS RX4 95 "java/lang/IllegalStateException" ["java/lang/RuntimeException", "java/lang/Exception"]).filter goodWord)
def wsL_law0_r1 : List Cond := [Cond.classLink RL 29 RX4, Cond.instantiable RX4 5, Cond.initialized RX4, Cond.arrayClass .int, Cond.methodLink RL 125 Lib.Math.max.name, Cond.static Lib.Math.max.name, Cond.initialized "java/lang/Math", Cond.code Lib.Math.max.name Lib.Math.max.code 2 (some .int), Cond.methodLink RL 104 yX4_init, Cond.instanceMethod yX4_init, Cond.code yX4_init cX4_init 2 none, Cond.methodLink RX4 3 objectInit, Cond.instanceMethod objectInit, Cond.code objectInit ⟨#[0xb1]⟩ 1 none, Cond.classLink RX4 9 RX0, Cond.instantiable RX0 7, Cond.initialized RX0, Cond.fieldLink RX4 12 "StampSheets" "machine" "LStampSheets$Machine;", Cond.classLink RX4 16 RX3, Cond.instantiable RX3 4, Cond.initialized RX3, Cond.fieldLink RX4 19 "StampSheets" "trial" "LStampSheets$Trial;", Cond.arrayClass .boolean, Cond.fieldLink RX4 23 "StampSheets" "plateInverted" "[Z"]
def wsL_law0_r2 : List Cond := [Cond.classLink RX4 27 RX2, Cond.fieldLink RX4 29 "StampSheets" "sheetStore" "[LStampSheets$Sheet;", Cond.instantiable RX2 2, Cond.initialized RX2, Cond.methodLink RX4 11 yX0_init, Cond.instanceMethod yX0_init, Cond.code yX0_init cX0_init 2 none, Cond.methodLink RX0 3 objectInit, Cond.fieldLink RX0 9 "StampSheets$Machine" "feed" "I", Cond.fieldLink RX0 15 "StampSheets$Machine" "step" "I", Cond.classLink RX0 18 RX1, Cond.fieldLink RX0 20 "StampSheets$Machine" "pins" "[LStampSheets$Pin;", Cond.instantiable RX1 2, Cond.initialized RX1, Cond.instanceMethod yX1_init, Cond.code yX1_init cX1_init 1 none, Cond.methodLink RX1 3 objectInit, Cond.fieldLink RX1 9 "StampSheets$Pin" "strength" "I", Cond.methodLink RX4 18 yX3_init, Cond.instanceMethod yX3_init, Cond.code yX3_init cX3_init 1 none, Cond.methodLink RX3 1 objectInit, Cond.classLink RX3 7 RX0, Cond.fieldLink RX3 10 "StampSheets$Trial" "machine" "LStampSheets$Machine;"]
def wsL_law0_r3 : List Cond := [Cond.classLink RX3 16 RX2, Cond.fieldLink RX3 19 "StampSheets$Trial" "sheet" "LStampSheets$Sheet;", Cond.methodLink RX3 9 yX0_init, Cond.methodLink RX3 18 yX2_init, Cond.instanceMethod yX2_init, Cond.code yX2_init cX2_init 1 none, Cond.methodLink RX2 3 objectInit, Cond.fieldLink RX2 9 "StampSheets$Sheet" "faultSets" "[I", Cond.fieldLink RX2 15 "StampSheets$Sheet" "tornOff" "[Z", Cond.methodLink RX4 33 yX2_init, Cond.methodLink RL 105 yL_build, Cond.static yL_build, Cond.initialized RL, Cond.code yL_build cL_build 4 (some (.object "StampSheetsLaw$Sim")), Cond.classLink RL 10 RX5, Cond.instantiable RX5 12, Cond.initialized RX5, Cond.instanceMethod yX5_init, Cond.code yX5_init cX5_init 1 none, Cond.methodLink RX5 1 objectInit, Cond.fieldLink RX5 7 "StampSheetsLaw$Sim" "feed" "I", Cond.fieldLink RX5 13 "StampSheetsLaw$Sim" "step" "I", Cond.fieldLink RX5 16 "StampSheetsLaw$Sim" "strength" "[I", Cond.fieldLink RX5 20 "StampSheetsLaw$Sim" "wear" "[I"]
def wsL_law0_r4 : List Cond := [Cond.fieldLink RX5 23 "StampSheetsLaw$Sim" "broken" "[Z", Cond.classLink RX5 27 "[[Z", Cond.fieldLink RX5 29 "StampSheetsLaw$Sim" "plate" "[[Z", Cond.classLink RX5 32 "[[I", Cond.fieldLink RX5 34 "StampSheetsLaw$Sim" "sheets" "[[[I", Cond.fieldLink RX5 38 "StampSheetsLaw$Sim" "torn" "[[[Z", Cond.methodLink RL 96 yL_cell, Cond.static yL_cell, Cond.code yL_cell cL_cell 2 (some .int), Cond.constant RL 8 (790386105), Cond.methodLink RL 100 yL_act, Cond.static yL_act, Cond.code yL_act cL_act 16 (some .boolean), Cond.fieldLink RL 9 "StampSheetsLaw$Sim" "sheets" "[[[I", Cond.fieldLink RL 21 "StampSheetsLaw$Sim" "feed" "I", Cond.fieldLink RL 25 "StampSheetsLaw$Sim" "drift" "I", Cond.fieldLink RL 33 "StampSheetsLaw$Sim" "error" "I", Cond.fieldLink RL 40 "StampSheetsLaw$Sim" "left" "I", Cond.fieldLink RL 43 "StampSheetsLaw$Sim" "step" "I", Cond.fieldLink RL 46 "StampSheetsLaw$Sim" "ran" "I", Cond.fieldLink RL 52 "StampSheetsLaw$Sim" "wear" "[I", Cond.fieldLink RL 56 "StampSheetsLaw$Sim" "strength" "[I", Cond.methodLink RL 59 ⟨"[I", "clone", "()Ljava/lang/Object;"⟩, Cond.sameMethod "[I" "java/lang/Object" "clone" "()Ljava/lang/Object;"]
def wsL_law0_r5 : List Cond := [Cond.native ⟨"java/lang/Object", "clone", "()Ljava/lang/Object;"⟩, Cond.instanceMethod ⟨"java/lang/Object", "clone", "()Ljava/lang/Object;"⟩, Cond.selects "[I" ⟨"[I", "clone", "()Ljava/lang/Object;"⟩ ⟨"java/lang/Object", "clone", "()Ljava/lang/Object;"⟩, Cond.classLink RL 60 "[I", Cond.fieldLink RL 64 "StampSheetsLaw$Sim" "broken" "[Z", Cond.fieldLink RL 71 "StampSheetsLaw$Sim" "plate" "[[Z", Cond.fieldLink RL 83 "StampSheetsLaw$Sim" "torn" "[[[Z", Cond.methodLink RL 15 yL_below, Cond.static yL_below, Cond.code yL_below cL_below 2 (some .int), Cond.constant RL 7 (2147483647), Cond.methodLink RL 28 yX4_setFeed, Cond.instanceMethod yX4_setFeed, Cond.selects RX4 yX4_setFeed yX4_setFeed, Cond.code yX4_setFeed cX4_setFeed 4 (some .int), Cond.classLink RX4 38 "java/lang/IllegalArgumentException", Cond.initialized "java/lang/IllegalArgumentException", Cond.methodLink RX4 34 yX4_isWithin, Cond.static yX4_isWithin, Cond.code yX4_isWithin cX4_isWithin 3 (some .boolean), Cond.methodLink RL 36 yX4_align, Cond.instanceMethod yX4_align, Cond.selects RX4 yX4_align yX4_align, Cond.code yX4_align cX4_align 2 (some .int)]
def wsL_law0_r6 : List Cond := [Cond.methodLink RL 49 yX4_roll, Cond.instanceMethod yX4_roll, Cond.selects RX4 yX4_roll yX4_roll, Cond.code yX4_roll cX4_roll 4 (some .int), Cond.methodLink RL 68 yX4_fit, Cond.instanceMethod yX4_fit, Cond.selects RX4 yX4_fit yX4_fit, Cond.code yX4_fit cX4_fit 5 (some .int), Cond.methodLink RX4 66 yX4_checkPin, Cond.static yX4_checkPin, Cond.code yX4_checkPin cX4_checkPin 1 none, Cond.classLink RX4 150 "java/lang/IndexOutOfBoundsException", Cond.initialized "java/lang/IndexOutOfBoundsException", Cond.methodLink RL 75 yX4_turn, Cond.instanceMethod yX4_turn, Cond.selects RX4 yX4_turn yX4_turn, Cond.code yX4_turn cX4_turn 4 (some .boolean), Cond.methodLink RX4 84 yX4_checkPlace, Cond.static yX4_checkPlace, Cond.code yX4_checkPlace cX4_checkPlace 2 none, Cond.methodLink RL 79 yX4_run, Cond.instanceMethod yX4_run, Cond.selects RX4 yX4_run yX4_run, Cond.code yX4_run cX4_run 1 (some .int)]
def wsL_law0_r7 : List Cond := [Cond.classLink RX4 91 "java/lang/IllegalStateException", Cond.initialized "java/lang/IllegalStateException", Cond.fieldLink RX4 88 "StampSheets" "sheetCount" "I", Cond.methodLink RX4 96 yX0_perforate, Cond.instanceMethod yX0_perforate, Cond.selects RX0 yX0_perforate yX0_perforate, Cond.code yX0_perforate cX0_perforate 4 none, Cond.fieldLink RX0 32 "StampSheets$Machine" "error" "I", Cond.fieldLink RX0 35 "StampSheets$Machine" "rowsLeft" "I", Cond.fieldLink RX0 38 "StampSheets$Machine" "rowsRun" "I", Cond.fieldLink RX0 29 "StampSheets$Machine" "drift" "I", Cond.methodLink RX0 48 Lib.Math.min.name, Cond.static Lib.Math.min.name, Cond.code Lib.Math.min.name Lib.Math.min.code 2 (some .int), Cond.methodLink RX0 54 Lib.Math.max.name, Cond.methodLink RX0 41 yX0_markRow, Cond.instanceMethod yX0_markRow, Cond.selects RX0 yX0_markRow yX0_markRow, Cond.code yX0_markRow cX0_markRow 8 none, Cond.methodLink RX0 61 yX0_holeFaults, Cond.instanceMethod yX0_holeFaults, Cond.selects RX0 yX0_holeFaults yX0_holeFaults, Cond.code yX0_holeFaults cX0_holeFaults 3 (some .int), Cond.methodLink RX0 75 yX1_isWhole]
def wsL_law0_r8 : List Cond := [Cond.instanceMethod yX1_isWhole, Cond.selects RX1 yX1_isWhole yX1_isWhole, Cond.code yX1_isWhole cX1_isWhole 1 (some .boolean), Cond.fieldLink RX1 15 "StampSheets$Pin" "wear" "I", Cond.methodLink RX0 65 yX0_hasWatermark, Cond.instanceMethod yX0_hasWatermark, Cond.selects RX0 yX0_hasWatermark yX0_hasWatermark, Cond.code yX0_hasWatermark cX0_hasWatermark 2 (some .boolean), Cond.methodLink RX0 45 yX0_strikeAll, Cond.instanceMethod yX0_strikeAll, Cond.selects RX0 yX0_strikeAll yX0_strikeAll, Cond.code yX0_strikeAll cX0_strikeAll 2 none, Cond.methodLink RX0 79 yX1_strike, Cond.instanceMethod yX1_strike, Cond.selects RX1 yX1_strike yX1_strike, Cond.code yX1_strike cX1_strike 1 none, Cond.methodLink RX1 18 yX1_isWhole, Cond.methodLink RL 82 yX5_run, Cond.instanceMethod yX5_run, Cond.selects RX5 yX5_run yX5_run, Cond.code yX5_run cX5_run 5 (some .int), Cond.methodLink RX5 55 yX5_sheet, Cond.instanceMethod yX5_sheet, Cond.selects RX5 yX5_sheet yX5_sheet]
def wsL_law0_r9 : List Cond := [Cond.code yX5_sheet cX5_sheet 5 (some (.array (.array .int))), Cond.fieldLink RX5 46 "StampSheetsLaw$Sim" "error" "I", Cond.fieldLink RX5 49 "StampSheetsLaw$Sim" "ran" "I", Cond.fieldLink RX5 52 "StampSheetsLaw$Sim" "left" "I", Cond.fieldLink RX5 43 "StampSheetsLaw$Sim" "drift" "I", Cond.methodLink RL 87 yX5_worth, Cond.static yX5_worth, Cond.code yX5_worth cX5_worth 2 (some .int), Cond.methodLink RL 91 yX4_tear, Cond.instanceMethod yX4_tear, Cond.selects RX4 yX4_tear yX4_tear, Cond.code yX4_tear cX4_tear 7 (some .int), Cond.methodLink RX4 100 yX4_checkSheet, Cond.instanceMethod yX4_checkSheet, Cond.selects RX4 yX4_checkSheet yX4_checkSheet, Cond.code yX4_checkSheet cX4_checkSheet 2 none, Cond.methodLink RX4 112 yX2_worthOf, Cond.instanceMethod yX2_worthOf, Cond.selects RX2 yX2_worthOf yX2_worthOf, Cond.code yX2_worthOf cX2_worthOf 4 (some .int), Cond.methodLink RL 109 yX4_count, Cond.instanceMethod yX4_count, Cond.selects RX4 yX4_count yX4_count, Cond.code yX4_count cX4_count 2 (some .int)]
def wsL_law0_r10 : List Cond := [Cond.methodLink RX4 116 yX4_checkWhat, Cond.static yX4_checkWhat, Cond.code yX4_checkWhat cX4_checkWhat 2 none, Cond.methodLink RX4 123 yX4_countAnswer, Cond.instanceMethod yX4_countAnswer, Cond.selects RX4 yX4_countAnswer yX4_countAnswer, Cond.code yX4_countAnswer cX4_countAnswer 2 (some .int), Cond.methodLink RX4 163 yX0_brokenPins, Cond.instanceMethod yX0_brokenPins, Cond.selects RX0 yX0_brokenPins yX0_brokenPins, Cond.code yX0_brokenPins cX0_brokenPins 3 (some .int), Cond.methodLink RX4 167 yX4_invertedPlaces, Cond.instanceMethod yX4_invertedPlaces, Cond.selects RX4 yX4_invertedPlaces yX4_invertedPlaces, Cond.code yX4_invertedPlaces cX4_invertedPlaces 3 (some .int), Cond.methodLink RX4 170 yX4_worthOfSheets, Cond.instanceMethod yX4_worthOfSheets, Cond.selects RX4 yX4_worthOfSheets yX4_worthOfSheets, Cond.code yX4_worthOfSheets cX4_worthOfSheets 3 (some .int), Cond.methodLink RX4 173 yX2_worth, Cond.instanceMethod yX2_worth, Cond.selects RX2 yX2_worth yX2_worth, Cond.code yX2_worth cX2_worth 3 (some .int), Cond.methodLink RX2 39 yX2_worthOf]
def wsL_law0_r11 : List Cond := [Cond.methodLink RL 113 yX4_faults, Cond.instanceMethod yX4_faults, Cond.selects RX4 yX4_faults yX4_faults, Cond.code yX4_faults cX4_faults 4 (some .int), Cond.methodLink RL 116 yX4_pin, Cond.instanceMethod yX4_pin, Cond.selects RX4 yX4_pin yX4_pin, Cond.code yX4_pin cX4_pin 3 (some .int), Cond.methodLink RX4 122 yX1_answer, Cond.instanceMethod yX1_answer, Cond.selects RX1 yX1_answer yX1_answer, Cond.code yX1_answer cX1_answer 2 (some .int), Cond.methodLink RL 119 yX4_foresee, Cond.instanceMethod yX4_foresee, Cond.selects RX4 yX4_foresee yX4_foresee, Cond.code yX4_foresee cX4_foresee 3 (some .int), Cond.methodLink RX4 126 yX4_checkSheetsToRun, Cond.static yX4_checkSheetsToRun, Cond.code yX4_checkSheetsToRun cX4_checkSheetsToRun 1 none, Cond.methodLink RX4 129 yX3_perforateFrom, Cond.instanceMethod yX3_perforateFrom, Cond.selects RX3 yX3_perforateFrom yX3_perforateFrom, Cond.code yX3_perforateFrom cX3_perforateFrom 6 none, Cond.fieldLink RX3 31 "StampSheets$Trial" "faultless" "I"]
def wsL_law0_r12 : List Cond := [Cond.fieldLink RX3 34 "StampSheets$Trial" "worth" "I", Cond.methodLink RX3 23 yX0_becomeLike, Cond.instanceMethod yX0_becomeLike, Cond.selects RX0 yX0_becomeLike yX0_becomeLike, Cond.code yX0_becomeLike cX0_becomeLike 3 none, Cond.methodLink RX0 25 yX1_becomeLike, Cond.instanceMethod yX1_becomeLike, Cond.selects RX1 yX1_becomeLike yX1_becomeLike, Cond.code yX1_becomeLike cX1_becomeLike 2 none, Cond.methodLink RX3 37 yX0_perforate, Cond.methodLink RX3 41 yX2_leftWith, Cond.instanceMethod yX2_leftWith, Cond.selects RX2 yX2_leftWith yX2_leftWith, Cond.code yX2_leftWith cX2_leftWith 4 (some .int), Cond.methodLink RX2 42 yX2_isLeftWith, Cond.instanceMethod yX2_isLeftWith, Cond.selects RX2 yX2_isLeftWith yX2_isLeftWith, Cond.code yX2_isLeftWith cX2_isLeftWith 3 (some .boolean), Cond.methodLink RX3 45 yX2_worth, Cond.methodLink RX4 133 yX3_answer, Cond.instanceMethod yX3_answer, Cond.selects RX3 yX3_answer yX3_answer, Cond.code yX3_answer cX3_answer 2 (some .int), Cond.methodLink RX3 48 yX0_brokenPins]
def wsL_law0_r13 : List Cond := [Cond.methodLink RL 122 yX4_sheet, Cond.instanceMethod yX4_sheet, Cond.selects RX4 yX4_sheet yX4_sheet, Cond.code yX4_sheet cX4_sheet 3 (some .int), Cond.methodLink RX4 119 yX2_answer, Cond.instanceMethod yX2_answer, Cond.selects RX2 yX2_answer yX2_answer, Cond.code yX2_answer cX2_answer 2 (some .int), Cond.methodLink RX2 19 yX2_left, Cond.instanceMethod yX2_left, Cond.selects RX2 yX2_left yX2_left, Cond.code yX2_left cX2_left 3 (some .int), Cond.methodLink RX2 23 yX2_leftWith, Cond.methodLink RX2 27 yX2_worth, Cond.methodLink RX2 30 yX2_invertedPairs, Cond.instanceMethod yX2_invertedPairs, Cond.selects RX2 yX2_invertedPairs yX2_invertedPairs, Cond.code yX2_invertedPairs cX2_invertedPairs 4 (some .int), Cond.methodLink RX2 46 yX2_isInvertedPair, Cond.instanceMethod yX2_isInvertedPair, Cond.selects RX2 yX2_isInvertedPair yX2_isInvertedPair, Cond.code yX2_isInvertedPair cX2_isInvertedPair 3 (some .boolean), Cond.methodLink RX2 33 yX2_rowsOff, Cond.instanceMethod yX2_rowsOff]
def wsL_law0_r14 : List Cond := [Cond.selects RX2 yX2_rowsOff yX2_rowsOff, Cond.code yX2_rowsOff cX2_rowsOff 3 (some .int), Cond.methodLink RX2 36 yX2_greatestBlock, Cond.instanceMethod yX2_greatestBlock, Cond.selects RX2 yX2_greatestBlock yX2_greatestBlock, Cond.code yX2_greatestBlock cX2_greatestBlock 5 (some .int), Cond.methodLink RX2 56 Lib.Math.max.name, Cond.methodLink RX2 50 yX2_goodColumns, Cond.instanceMethod yX2_goodColumns, Cond.selects RX2 yX2_goodColumns yX2_goodColumns, Cond.code yX2_goodColumns cX2_goodColumns 4 (some .int), Cond.methodLink RX2 53 yX2_longestRun, Cond.static yX2_longestRun, Cond.code yX2_longestRun cX2_longestRun 4 (some .int), Cond.methodLink RL 130 yX4_share, Cond.instanceMethod yX4_share, Cond.selects RX4 yX4_share yX4_share, Cond.code yX4_share cX4_share 2 (some .double), Cond.methodLink RX4 139 yX4_stampsWith, Cond.instanceMethod yX4_stampsWith, Cond.selects RX4 yX4_stampsWith yX4_stampsWith, Cond.code yX4_stampsWith cX4_stampsWith 4 (some .int), Cond.methodLink RX4 176 yX2_leftWith, Cond.methodLink RL 134 yX4_like]
def wsL_law0_r15 : List Cond := [Cond.instanceMethod yX4_like, Cond.selects RX4 yX4_like yX4_like, Cond.code yX4_like cX4_like 2 (some .int), Cond.methodLink RL 137 yX5_isSame, Cond.instanceMethod yX5_isSame, Cond.selects RX5 yX5_isSame yX5_isSame, Cond.code yX5_isSame cX5_isSame 13 (some .boolean), Cond.methodLink RX5 69 yX4_sheet, Cond.methodLink RX5 73 yX5_told, Cond.instanceMethod yX5_told, Cond.selects RX5 yX5_told yX5_told, Cond.code yX5_told cX5_told 10 (some .int), Cond.methodLink RX5 63 Lib.Math.max.name, Cond.methodLink RX5 59 yX5_worth, Cond.methodLink RX5 76 yX4_faults, Cond.methodLink RX5 80 yX4_pin, Cond.methodLink RX5 83 yX5_broken, Cond.instanceMethod yX5_broken, Cond.selects RX5 yX5_broken yX5_broken, Cond.code yX5_broken cX5_broken 6 (some .int), Cond.methodLink RX5 86 yX4_count, Cond.methodLink RX5 90 yX4_share]
def wsL_law0 : List Cond := (wsL_law0_r1 ++ (wsL_law0_r2 ++ (wsL_law0_r3 ++ (wsL_law0_r4 ++ (wsL_law0_r5 ++ (wsL_law0_r6 ++ (wsL_law0_r7 ++ (wsL_law0_r8 ++ (wsL_law0_r9 ++ (wsL_law0_r10 ++ (wsL_law0_r11 ++ (wsL_law0_r12 ++ (wsL_law0_r13 ++ (wsL_law0_r14 ++ wsL_law0_r15)))))))))))))) ++ wsX40 ++ wsX00 ++ wsX30 ++ wsX20 ++ wsX10 ++ wsX50 ++ ([] : List Cond)
def wsL_law : List Cond := wsL_law0 ++ (vx_atS RX4 42 "java/lang/IllegalArgumentException" ["java/lang/RuntimeException", "java/lang/Exception"]).filter goodWord ++ (vx_atS RX4 154 "java/lang/IndexOutOfBoundsException" ["java/lang/RuntimeException", "java/lang/Exception"]).filter goodWord ++ (vx_atS RX4 95 "java/lang/IllegalStateException" ["java/lang/RuntimeException", "java/lang/Exception"]).filter goodWord
set_option maxRecDepth 20000 in
set_option maxRecDepth 20000 in
theorem wsL_law0_r1_in : ∀ w ∈ wsL_law0_r1, w ∈ lw_tbl := fun w h => (goodIn_p wsL_law0_r1 [259, 35, 38] (by decide +kernel) (by decide +kernel) w h).1
set_option maxRecDepth 20000 in
theorem wsL_law0_r2_in : ∀ w ∈ wsL_law0_r2, w ∈ lw_tbl := fun w h => (goodIn_p wsL_law0_r2 [43, 50, 96] (by decide +kernel) (by decide +kernel) w h).1
set_option maxRecDepth 20000 in
theorem wsL_law0_r3_in : ∀ w ∈ wsL_law0_r3, w ∈ lw_tbl := fun w h => (goodIn_p wsL_law0_r3 [104, 520, 525] (by decide +kernel) (by decide +kernel) w h).1
set_option maxRecDepth 20000 in
theorem wsL_law0_r4_in : ∀ w ∈ wsL_law0_r4, w ∈ lw_tbl := fun w h => (goodIn_p wsL_law0_r4 [476, 480] (by decide +kernel) (by decide +kernel) w h).1
set_option maxRecDepth 20000 in
theorem wsL_law0_r5_in : ∀ w ∈ wsL_law0_r5, w ∈ lw_tbl := fun w h => (goodIn_p wsL_law0_r5 [472, 484, 232, 489] (by decide +kernel) (by decide +kernel) w h).1
set_option maxRecDepth 20000 in
theorem wsL_law0_r6_in : ∀ w ∈ wsL_law0_r6, w ∈ lw_tbl := fun w h => (goodIn_p wsL_law0_r6 [493, 505, 351, 510, 287, 153] (by decide +kernel) (by decide +kernel) w h).1
set_option maxRecDepth 20000 in
theorem wsL_law0_r7_in : ∀ w ∈ wsL_law0_r7, w ∈ lw_tbl := fun w h => (goodIn_p wsL_law0_r7 [225, 256, 229, 236] (by decide +kernel) (by decide +kernel) w h).1
set_option maxRecDepth 20000 in
theorem wsL_law0_r8_in : ∀ w ∈ wsL_law0_r8, w ∈ lw_tbl := fun w h => (goodIn_p wsL_law0_r8 [240, 244, 248, 252, 438] (by decide +kernel) (by decide +kernel) w h).1
set_option maxRecDepth 20000 in
theorem wsL_law0_r9_in : ∀ w ∈ wsL_law0_r9, w ∈ lw_tbl := fun w h => (goodIn_p wsL_law0_r9 [446, 460, 515, 267, 320, 360] (by decide +kernel) (by decide +kernel) w h).1
set_option maxRecDepth 20000 in
theorem wsL_law0_r10_in : ∀ w ∈ wsL_law0_r10, w ∈ lw_tbl := fun w h => (goodIn_p wsL_law0_r10 [295, 364, 368, 372, 376, 316] (by decide +kernel) (by decide +kernel) w h).1
set_option maxRecDepth 20000 in
theorem wsL_law0_r11_in : ∀ w ∈ wsL_law0_r11, w ∈ lw_tbl := fun w h => (goodIn_p wsL_law0_r11 [263, 348, 356, 381, 384, 404] (by decide +kernel) (by decide +kernel) w h).1
set_option maxRecDepth 20000 in
theorem wsL_law0_r12_in : ∀ w ∈ wsL_law0_r12, w ∈ lw_tbl := fun w h => (goodIn_p wsL_law0_r12 [408, 412, 308, 312, 419] (by decide +kernel) (by decide +kernel) w h).1
set_option maxRecDepth 20000 in
theorem wsL_law0_r13_in : ∀ w ∈ wsL_law0_r13, w ∈ lw_tbl := fun w h => (goodIn_p wsL_law0_r13 [292, 300, 304, 324, 328] (by decide +kernel) (by decide +kernel) w h).1
set_option maxRecDepth 20000 in
theorem wsL_law0_r14_in : ∀ w ∈ wsL_law0_r14, w ∈ lw_tbl := fun w h => (goodIn_p wsL_law0_r14 [332, 336, 340, 343, 434, 429] (by decide +kernel) (by decide +kernel) w h).1
set_option maxRecDepth 20000 in
theorem wsL_law0_r15_in : ∀ w ∈ wsL_law0_r15, w ∈ lw_tbl := fun w h => (goodIn_p wsL_law0_r15 [424, 452, 457, 467] (by decide +kernel) (by decide +kernel) w h).1
set_option maxRecDepth 20000 in
theorem wsL_law0_wsX40_in : ∀ w ∈ wsX40, w ∈ lw_tbl := by decide +kernel
set_option maxRecDepth 20000 in
theorem wsL_law0_wsX00_in : ∀ w ∈ wsX00, w ∈ lw_tbl := by decide +kernel
set_option maxRecDepth 20000 in
theorem wsL_law0_wsX30_in : ∀ w ∈ wsX30, w ∈ lw_tbl := by decide +kernel
set_option maxRecDepth 20000 in
theorem wsL_law0_wsX20_in : ∀ w ∈ wsX20, w ∈ lw_tbl := by decide +kernel
set_option maxRecDepth 20000 in
theorem wsL_law0_wsX10_in : ∀ w ∈ wsX10, w ∈ lw_tbl := by decide +kernel
set_option maxRecDepth 20000 in
theorem wsL_law0_wsX50_in : ∀ w ∈ wsX50, w ∈ lw_tbl := by decide +kernel
theorem wsL_law_in0 : ∀ w ∈ wsL_law0, w ∈ lw_tbl := fun w h => (fun h => (List.mem_append.mp h).elim (fun h => (List.mem_append.mp h).elim (fun h => (List.mem_append.mp h).elim (fun h => (List.mem_append.mp h).elim (fun h => (List.mem_append.mp h).elim (fun h => (List.mem_append.mp h).elim (fun h => (List.mem_append.mp h).elim (fun h => (List.mem_append.mp h).elim (fun h => wsL_law0_r1_in w h) (fun h => (List.mem_append.mp h).elim (fun h => wsL_law0_r2_in w h) (fun h => (List.mem_append.mp h).elim (fun h => wsL_law0_r3_in w h) (fun h => (List.mem_append.mp h).elim (fun h => wsL_law0_r4_in w h) (fun h => (List.mem_append.mp h).elim (fun h => wsL_law0_r5_in w h) (fun h => (List.mem_append.mp h).elim (fun h => wsL_law0_r6_in w h) (fun h => (List.mem_append.mp h).elim (fun h => wsL_law0_r7_in w h) (fun h => (List.mem_append.mp h).elim (fun h => wsL_law0_r8_in w h) (fun h => (List.mem_append.mp h).elim (fun h => wsL_law0_r9_in w h) (fun h => (List.mem_append.mp h).elim (fun h => wsL_law0_r10_in w h) (fun h => (List.mem_append.mp h).elim (fun h => wsL_law0_r11_in w h) (fun h => (List.mem_append.mp h).elim (fun h => wsL_law0_r12_in w h) (fun h => (List.mem_append.mp h).elim (fun h => wsL_law0_r13_in w h) (fun h => (List.mem_append.mp h).elim (fun h => wsL_law0_r14_in w h) (fun h => wsL_law0_r15_in w h))))))))))))))) (fun h => wsL_law0_wsX40_in w h)) (fun h => wsL_law0_wsX00_in w h)) (fun h => wsL_law0_wsX30_in w h)) (fun h => wsL_law0_wsX20_in w h)) (fun h => wsL_law0_wsX10_in w h)) (fun h => wsL_law0_wsX50_in w h)) (fun h => absurd h List.not_mem_nil)) h
theorem wsL_law_x0 : ∀ w ∈ (vx_atS RX4 42 "java/lang/IllegalArgumentException" ["java/lang/RuntimeException", "java/lang/Exception"]).filter goodWord, w ∈ lw_tbl := by decide +kernel
theorem wsL_law_x1 : ∀ w ∈ (vx_atS RX4 154 "java/lang/IndexOutOfBoundsException" ["java/lang/RuntimeException", "java/lang/Exception"]).filter goodWord, w ∈ lw_tbl := by decide +kernel
theorem wsL_law_x2 : ∀ w ∈ (vx_atS RX4 95 "java/lang/IllegalStateException" ["java/lang/RuntimeException", "java/lang/Exception"]).filter goodWord, w ∈ lw_tbl := by decide +kernel
theorem wsL_law_in : ∀ w ∈ wsL_law, w ∈ lw_tbl := fun w h => (List.mem_append.mp h).elim (fun h => (List.mem_append.mp h).elim (fun h => (List.mem_append.mp h).elim (fun h => wsL_law_in0 w h) (fun h => wsL_law_x0 w h)) (fun h => wsL_law_x1 w h)) (fun h => wsL_law_x2 w h)
theorem inlX0 : ∀ w ∈ wsX00, w ∈ wsL_law := fun _ h => List.mem_append_left _ (List.mem_append_left _ (List.mem_append_left _ (List.mem_append_left _ (List.mem_append_left _ (List.mem_append_left _ (List.mem_append_left _ (List.mem_append_left _ (List.mem_append_right _ h))))))))
theorem inX0 : ∀ w ∈ wsX00, w ∈ lw_tbl := fun w h => wsL_law_in w (inlX0 w h)
theorem inlX1 : ∀ w ∈ wsX10, w ∈ wsL_law := fun _ h => List.mem_append_left _ (List.mem_append_left _ (List.mem_append_left _ (List.mem_append_left _ (List.mem_append_left _ (List.mem_append_right _ h)))))
theorem inX1 : ∀ w ∈ wsX10, w ∈ lw_tbl := fun w h => wsL_law_in w (inlX1 w h)
theorem inlX2 : ∀ w ∈ wsX20, w ∈ wsL_law := fun _ h => List.mem_append_left _ (List.mem_append_left _ (List.mem_append_left _ (List.mem_append_left _ (List.mem_append_left _ (List.mem_append_left _ (List.mem_append_right _ h))))))
theorem inX2 : ∀ w ∈ wsX20, w ∈ lw_tbl := fun w h => wsL_law_in w (inlX2 w h)
theorem inlX3 : ∀ w ∈ wsX30, w ∈ wsL_law := fun _ h => List.mem_append_left _ (List.mem_append_left _ (List.mem_append_left _ (List.mem_append_left _ (List.mem_append_left _ (List.mem_append_left _ (List.mem_append_left _ (List.mem_append_right _ h)))))))
theorem inX3 : ∀ w ∈ wsX30, w ∈ lw_tbl := fun w h => wsL_law_in w (inlX3 w h)
theorem inlX4 : ∀ w ∈ wsX40, w ∈ wsL_law := fun _ h => List.mem_append_left _ (List.mem_append_left _ (List.mem_append_left _ (List.mem_append_left _ (List.mem_append_left _ (List.mem_append_left _ (List.mem_append_left _ (List.mem_append_left _ (List.mem_append_left _ (List.mem_append_right _ h)))))))))
theorem inX4 : ∀ w ∈ wsX40, w ∈ lw_tbl := fun w h => wsL_law_in w (inlX4 w h)
theorem inlX5 : ∀ w ∈ wsX50, w ∈ wsL_law := fun _ h => List.mem_append_left _ (List.mem_append_left _ (List.mem_append_left _ (List.mem_append_left _ (List.mem_append_right _ h))))
theorem inX5 : ∀ w ∈ wsX50, w ∈ lw_tbl := fun w h => wsL_law_in w (inlX5 w h)
theorem inX6 : ∀ w ∈ wsX60, w ∈ lw_tbl := by decide +kernel
theorem inJx8e188 : ∀ w ∈ wsJx8e1880, w ∈ lw_tbl := by decide +kernel
theorem inJ9 : ∀ w ∈ wsJ90, w ∈ lw_tbl := by decide +kernel
theorem inJ0 : ∀ w ∈ wsJ00, w ∈ lw_tbl := by decide +kernel
set_option maxRecDepth 20000 in
theorem ggX0_init_X1_init : GoodIn wsX0_init wsX1_init := goodIn_r _ [11, 12, 2, 3, 13, 21, 22] (by decide +kernel) (by decide +kernel)
set_option maxRecDepth 20000 in
theorem gX0_init_X1_init_n24 : GoodIn wsX0_init (wsX1_init) := ggX0_init_X1_init
theorem dX0_init_0 : decode cX0_init 0 = .ok (.aload_n 0, 1) := by decide +kernel
theorem dX0_init_1 : decode cX0_init 1 = .ok (.invokespecial 3, 3) := by decide +kernel
theorem dX0_init_4 : decode cX0_init 4 = .ok (.aload_n 0, 1) := by decide +kernel
theorem dX0_init_5 : decode cX0_init 5 = .ok (.bipush 20, 2) := by decide +kernel
theorem dX0_init_7 : decode cX0_init 7 = .ok (.putfield 9, 3) := by decide +kernel
theorem dX0_init_10 : decode cX0_init 10 = .ok (.aload_n 0, 1) := by decide +kernel
theorem dX0_init_11 : decode cX0_init 11 = .ok (.iconst 1, 1) := by decide +kernel
theorem dX0_init_12 : decode cX0_init 12 = .ok (.putfield 15, 3) := by decide +kernel
theorem dX0_init_15 : decode cX0_init 15 = .ok (.aload_n 0, 1) := by decide +kernel
theorem dX0_init_16 : decode cX0_init 16 = .ok (.bipush 7, 2) := by decide +kernel
theorem dX0_init_18 : decode cX0_init 18 = .ok (.anewarray 18, 3) := by decide +kernel
theorem dX0_init_21 : decode cX0_init 21 = .ok (.putfield 20, 3) := by decide +kernel
theorem dX0_init_24 : decode cX0_init 24 = .ok (.iconst 0, 1) := by decide +kernel
theorem dX0_init_25 : decode cX0_init 25 = .ok (.istore_n 1, 1) := by decide +kernel
theorem dX0_init_26 : decode cX0_init 26 = .ok (.iload_n 1, 1) := by decide +kernel
theorem dX0_init_27 : decode cX0_init 27 = .ok (.bipush 7, 2) := by decide +kernel
theorem dX0_init_29 : decode cX0_init 29 = .ok (.if_icmp .ge 22, 3) := by decide +kernel
theorem dX0_init_32 : decode cX0_init 32 = .ok (.aload_n 0, 1) := by decide +kernel
theorem dX0_init_33 : decode cX0_init 33 = .ok (.getfield 20, 3) := by decide +kernel
theorem dX0_init_36 : decode cX0_init 36 = .ok (.iload_n 1, 1) := by decide +kernel
theorem dX0_init_37 : decode cX0_init 37 = .ok (.new 18, 3) := by decide +kernel
theorem dX0_init_40 : decode cX0_init 40 = .ok (.dup, 1) := by decide +kernel
theorem dX0_init_41 : decode cX0_init 41 = .ok (.invokespecial 24, 3) := by decide +kernel
theorem dX0_init_44 : decode cX0_init 44 = .ok (.aastore, 1) := by decide +kernel
theorem dX0_init_45 : decode cX0_init 45 = .ok (.iinc 1 1, 3) := by decide +kernel
theorem dX0_init_48 : decode cX0_init 48 = .ok (.goto (-22), 3) := by decide +kernel
theorem dX0_init_51 : decode cX0_init 51 = .ok (.return_, 1) := by decide +kernel
set_option maxRecDepth 20000 in
theorem ggX0_becomeLike_X1_becomeLike : GoodIn wsX0_becomeLike wsX1_becomeLike := goodIn_r _ [12, 13, 14, 22, 23] (by decide +kernel) (by decide +kernel)
set_option maxRecDepth 20000 in
theorem gX0_becomeLike_X1_becomeLike : GoodIn wsX0_becomeLike (wsV RX0 25 RX1 yX1_becomeLike wsX1_becomeLike) := goodIn_app (goodIn_of _ (by decide +kernel)) ggX0_becomeLike_X1_becomeLike
theorem dX0_becomeLike_0 : decode cX0_becomeLike 0 = .ok (.iconst 0, 1) := by decide +kernel
theorem dX0_becomeLike_1 : decode cX0_becomeLike 1 = .ok (.istore_n 2, 1) := by decide +kernel
theorem dX0_becomeLike_2 : decode cX0_becomeLike 2 = .ok (.iload_n 2, 1) := by decide +kernel
theorem dX0_becomeLike_3 : decode cX0_becomeLike 3 = .ok (.bipush 7, 2) := by decide +kernel
theorem dX0_becomeLike_5 : decode cX0_becomeLike 5 = .ok (.if_icmp .ge 24, 3) := by decide +kernel
theorem dX0_becomeLike_8 : decode cX0_becomeLike 8 = .ok (.aload_n 0, 1) := by decide +kernel
theorem dX0_becomeLike_9 : decode cX0_becomeLike 9 = .ok (.getfield 20, 3) := by decide +kernel
theorem dX0_becomeLike_12 : decode cX0_becomeLike 12 = .ok (.iload_n 2, 1) := by decide +kernel
theorem dX0_becomeLike_13 : decode cX0_becomeLike 13 = .ok (.aaload, 1) := by decide +kernel
theorem dX0_becomeLike_14 : decode cX0_becomeLike 14 = .ok (.aload_n 1, 1) := by decide +kernel
theorem dX0_becomeLike_15 : decode cX0_becomeLike 15 = .ok (.getfield 20, 3) := by decide +kernel
theorem dX0_becomeLike_18 : decode cX0_becomeLike 18 = .ok (.iload_n 2, 1) := by decide +kernel
theorem dX0_becomeLike_19 : decode cX0_becomeLike 19 = .ok (.aaload, 1) := by decide +kernel
theorem dX0_becomeLike_20 : decode cX0_becomeLike 20 = .ok (.invokevirtual 25, 3) := by decide +kernel
theorem dX0_becomeLike_23 : decode cX0_becomeLike 23 = .ok (.iinc 2 1, 3) := by decide +kernel
theorem dX0_becomeLike_26 : decode cX0_becomeLike 26 = .ok (.goto (-24), 3) := by decide +kernel
theorem dX0_becomeLike_29 : decode cX0_becomeLike 29 = .ok (.aload_n 0, 1) := by decide +kernel
theorem dX0_becomeLike_30 : decode cX0_becomeLike 30 = .ok (.aload_n 1, 1) := by decide +kernel
theorem dX0_becomeLike_31 : decode cX0_becomeLike 31 = .ok (.getfield 9, 3) := by decide +kernel
theorem dX0_becomeLike_34 : decode cX0_becomeLike 34 = .ok (.putfield 9, 3) := by decide +kernel
theorem dX0_becomeLike_37 : decode cX0_becomeLike 37 = .ok (.aload_n 0, 1) := by decide +kernel
theorem dX0_becomeLike_38 : decode cX0_becomeLike 38 = .ok (.aload_n 1, 1) := by decide +kernel
theorem dX0_becomeLike_39 : decode cX0_becomeLike 39 = .ok (.getfield 29, 3) := by decide +kernel
theorem dX0_becomeLike_42 : decode cX0_becomeLike 42 = .ok (.putfield 29, 3) := by decide +kernel
theorem dX0_becomeLike_45 : decode cX0_becomeLike 45 = .ok (.aload_n 0, 1) := by decide +kernel
theorem dX0_becomeLike_46 : decode cX0_becomeLike 46 = .ok (.aload_n 1, 1) := by decide +kernel
theorem dX0_becomeLike_47 : decode cX0_becomeLike 47 = .ok (.getfield 32, 3) := by decide +kernel
theorem dX0_becomeLike_50 : decode cX0_becomeLike 50 = .ok (.putfield 32, 3) := by decide +kernel
theorem dX0_becomeLike_53 : decode cX0_becomeLike 53 = .ok (.aload_n 0, 1) := by decide +kernel
theorem dX0_becomeLike_54 : decode cX0_becomeLike 54 = .ok (.aload_n 1, 1) := by decide +kernel
theorem dX0_becomeLike_55 : decode cX0_becomeLike 55 = .ok (.getfield 35, 3) := by decide +kernel
theorem dX0_becomeLike_58 : decode cX0_becomeLike 58 = .ok (.putfield 35, 3) := by decide +kernel
theorem dX0_becomeLike_61 : decode cX0_becomeLike 61 = .ok (.aload_n 0, 1) := by decide +kernel
theorem dX0_becomeLike_62 : decode cX0_becomeLike 62 = .ok (.aload_n 1, 1) := by decide +kernel
theorem dX0_becomeLike_63 : decode cX0_becomeLike 63 = .ok (.getfield 38, 3) := by decide +kernel
theorem dX0_becomeLike_66 : decode cX0_becomeLike 66 = .ok (.putfield 38, 3) := by decide +kernel
theorem dX0_becomeLike_69 : decode cX0_becomeLike 69 = .ok (.aload_n 0, 1) := by decide +kernel
theorem dX0_becomeLike_70 : decode cX0_becomeLike 70 = .ok (.aload_n 1, 1) := by decide +kernel
theorem dX0_becomeLike_71 : decode cX0_becomeLike 71 = .ok (.getfield 15, 3) := by decide +kernel
theorem dX0_becomeLike_74 : decode cX0_becomeLike 74 = .ok (.putfield 15, 3) := by decide +kernel
theorem dX0_becomeLike_77 : decode cX0_becomeLike 77 = .ok (.return_, 1) := by decide +kernel
set_option maxRecDepth 20000 in
theorem ggX0_perforate_X0_markRow : GoodIn wsX0_perforate wsX0_markRow := goodIn_r _ [17, 1, 18, 19, 20, 21, 22, 23, 16, 24, 25, 26, 27, 28, 29, 30, 31, 32, 33, 34, 35, 36, 37, 4, 47, 48, 49, 50, 51, 52, 53, 54, 55, 56, 57] (by decide +kernel) (by decide +kernel)
set_option maxRecDepth 20000 in
theorem gX0_perforate_X0_markRow : GoodIn wsX0_perforate (wsV RX0 41 RX0 yX0_markRow wsX0_markRow) := goodIn_app (goodIn_of _ (by decide +kernel)) ggX0_perforate_X0_markRow
set_option maxRecDepth 20000 in
theorem ggX0_perforate_X0_strikeAll : GoodIn wsX0_perforate wsX0_strikeAll := goodIn_r _ [41, 25, 42, 43, 44, 29, 45, 31, 46, 27, 28, 30, 32, 47, 48, 49, 50, 51, 52, 53, 56, 57] (by decide +kernel) (by decide +kernel)
set_option maxRecDepth 20000 in
theorem gX0_perforate_X0_strikeAll : GoodIn wsX0_perforate (wsV RX0 45 RX0 yX0_strikeAll wsX0_strikeAll) := goodIn_app (goodIn_of _ (by decide +kernel)) ggX0_perforate_X0_strikeAll
theorem dX0_perforate_0 : decode cX0_perforate 0 = .ok (.iconst 0, 1) := by decide +kernel
theorem dX0_perforate_1 : decode cX0_perforate 1 = .ok (.istore_n 3, 1) := by decide +kernel
theorem dX0_perforate_2 : decode cX0_perforate 2 = .ok (.iload_n 3, 1) := by decide +kernel
theorem dX0_perforate_3 : decode cX0_perforate 3 = .ok (.iconst 5, 1) := by decide +kernel
theorem dX0_perforate_4 : decode cX0_perforate 4 = .ok (.if_icmp .ge 56, 3) := by decide +kernel
theorem dX0_perforate_7 : decode cX0_perforate 7 = .ok (.aload_n 0, 1) := by decide +kernel
theorem dX0_perforate_8 : decode cX0_perforate 8 = .ok (.dup, 1) := by decide +kernel
theorem dX0_perforate_9 : decode cX0_perforate 9 = .ok (.getfield 32, 3) := by decide +kernel
theorem dX0_perforate_12 : decode cX0_perforate 12 = .ok (.aload_n 0, 1) := by decide +kernel
theorem dX0_perforate_13 : decode cX0_perforate 13 = .ok (.getfield 9, 3) := by decide +kernel
theorem dX0_perforate_16 : decode cX0_perforate 16 = .ok (.bipush 20, 2) := by decide +kernel
theorem dX0_perforate_18 : decode cX0_perforate 18 = .ok (.isub, 1) := by decide +kernel
theorem dX0_perforate_19 : decode cX0_perforate 19 = .ok (.iadd, 1) := by decide +kernel
theorem dX0_perforate_20 : decode cX0_perforate 20 = .ok (.putfield 32, 3) := by decide +kernel
theorem dX0_perforate_23 : decode cX0_perforate 23 = .ok (.aload_n 0, 1) := by decide +kernel
theorem dX0_perforate_24 : decode cX0_perforate 24 = .ok (.iload_n 3, 1) := by decide +kernel
theorem dX0_perforate_25 : decode cX0_perforate 25 = .ok (.aload_n 1, 1) := by decide +kernel
theorem dX0_perforate_26 : decode cX0_perforate 26 = .ok (.aload_n 2, 1) := by decide +kernel
theorem dX0_perforate_27 : decode cX0_perforate 27 = .ok (.invokevirtual 41, 3) := by decide +kernel
theorem dX0_perforate_30 : decode cX0_perforate 30 = .ok (.aload_n 0, 1) := by decide +kernel
theorem dX0_perforate_31 : decode cX0_perforate 31 = .ok (.invokevirtual 45, 3) := by decide +kernel
theorem dX0_perforate_34 : decode cX0_perforate 34 = .ok (.aload_n 0, 1) := by decide +kernel
theorem dX0_perforate_35 : decode cX0_perforate 35 = .ok (.dup, 1) := by decide +kernel
theorem dX0_perforate_36 : decode cX0_perforate 36 = .ok (.getfield 35, 3) := by decide +kernel
theorem dX0_perforate_39 : decode cX0_perforate 39 = .ok (.iconst 1, 1) := by decide +kernel
theorem dX0_perforate_40 : decode cX0_perforate 40 = .ok (.isub, 1) := by decide +kernel
theorem dX0_perforate_41 : decode cX0_perforate 41 = .ok (.putfield 35, 3) := by decide +kernel
theorem dX0_perforate_44 : decode cX0_perforate 44 = .ok (.aload_n 0, 1) := by decide +kernel
theorem dX0_perforate_45 : decode cX0_perforate 45 = .ok (.dup, 1) := by decide +kernel
theorem dX0_perforate_46 : decode cX0_perforate 46 = .ok (.getfield 38, 3) := by decide +kernel
theorem dX0_perforate_49 : decode cX0_perforate 49 = .ok (.iconst 1, 1) := by decide +kernel
theorem dX0_perforate_50 : decode cX0_perforate 50 = .ok (.iadd, 1) := by decide +kernel
theorem dX0_perforate_51 : decode cX0_perforate 51 = .ok (.putfield 38, 3) := by decide +kernel
theorem dX0_perforate_54 : decode cX0_perforate 54 = .ok (.iinc 3 1, 3) := by decide +kernel
theorem dX0_perforate_57 : decode cX0_perforate 57 = .ok (.goto (-55), 3) := by decide +kernel
theorem dX0_perforate_60 : decode cX0_perforate 60 = .ok (.aload_n 0, 1) := by decide +kernel
theorem dX0_perforate_61 : decode cX0_perforate 61 = .ok (.bipush 10, 2) := by decide +kernel
theorem dX0_perforate_63 : decode cX0_perforate 63 = .ok (.bipush 30, 2) := by decide +kernel
theorem dX0_perforate_65 : decode cX0_perforate 65 = .ok (.aload_n 0, 1) := by decide +kernel
theorem dX0_perforate_66 : decode cX0_perforate 66 = .ok (.getfield 9, 3) := by decide +kernel
theorem dX0_perforate_69 : decode cX0_perforate 69 = .ok (.aload_n 0, 1) := by decide +kernel
theorem dX0_perforate_70 : decode cX0_perforate 70 = .ok (.getfield 29, 3) := by decide +kernel
theorem dX0_perforate_73 : decode cX0_perforate 73 = .ok (.iadd, 1) := by decide +kernel
theorem dX0_perforate_74 : decode cX0_perforate 74 = .ok (.invokestatic 48, 3) := by decide +kernel
theorem dX0_perforate_77 : decode cX0_perforate 77 = .ok (.invokestatic 54, 3) := by decide +kernel
theorem dX0_perforate_80 : decode cX0_perforate 80 = .ok (.putfield 9, 3) := by decide +kernel
theorem dX0_perforate_83 : decode cX0_perforate 83 = .ok (.return_, 1) := by decide +kernel
set_option maxRecDepth 20000 in
theorem ggX0_markRow_X4_isWithin : GoodIn wsX0_markRow wsX4_isWithin := goodIn_r _ [4] (by decide +kernel) (by decide +kernel)
set_option maxRecDepth 20000 in
theorem gX0_markRow_X4_isWithin_n57 : GoodIn wsX0_markRow (wsX4_isWithin) := ggX0_markRow_X4_isWithin
set_option maxRecDepth 20000 in
theorem ggX0_markRow_X0_holeFaults : GoodIn wsX0_markRow wsX0_holeFaults := goodIn_r _ [9, 10, 11, 12, 13, 14, 15, 16, 17, 24, 25, 26, 27, 28, 29, 30, 33, 34] (by decide +kernel) (by decide +kernel)
set_option maxRecDepth 20000 in
theorem gX0_markRow_X0_holeFaults : GoodIn wsX0_markRow (wsV RX0 61 RX0 yX0_holeFaults wsX0_holeFaults) := goodIn_app (goodIn_of _ (by decide +kernel)) ggX0_markRow_X0_holeFaults
set_option maxRecDepth 20000 in
theorem ggX0_markRow_X0_hasWatermark : GoodIn wsX0_markRow wsX0_hasWatermark := goodIn_r _ [21, 22, 23, 24, 25, 26, 27, 28, 29, 30] (by decide +kernel) (by decide +kernel)
set_option maxRecDepth 20000 in
theorem gX0_markRow_X0_hasWatermark : GoodIn wsX0_markRow (wsV RX0 65 RX0 yX0_hasWatermark wsX0_hasWatermark) := goodIn_app (goodIn_of _ (by decide +kernel)) ggX0_markRow_X0_hasWatermark
theorem dX0_markRow_0 : decode cX0_markRow 0 = .ok (.aload_n 0, 1) := by decide +kernel
theorem dX0_markRow_1 : decode cX0_markRow 1 = .ok (.getfield 32, 3) := by decide +kernel
theorem dX0_markRow_4 : decode cX0_markRow 4 = .ok (.bipush (-6), 2) := by decide +kernel
theorem dX0_markRow_6 : decode cX0_markRow 6 = .ok (.bipush 6, 2) := by decide +kernel
theorem dX0_markRow_8 : decode cX0_markRow 8 = .ok (.invokestatic 57, 3) := by decide +kernel
theorem dX0_markRow_11 : decode cX0_markRow 11 = .ok (.ifCond .eq 7, 3) := by decide +kernel
theorem dX0_markRow_14 : decode cX0_markRow 14 = .ok (.iconst 0, 1) := by decide +kernel
theorem dX0_markRow_15 : decode cX0_markRow 15 = .ok (.goto 4, 3) := by decide +kernel
theorem dX0_markRow_18 : decode cX0_markRow 18 = .ok (.iconst 1, 1) := by decide +kernel
theorem dX0_markRow_19 : decode cX0_markRow 19 = .ok (.istore 4, 2) := by decide +kernel
theorem dX0_markRow_21 : decode cX0_markRow 21 = .ok (.iconst 0, 1) := by decide +kernel
theorem dX0_markRow_22 : decode cX0_markRow 22 = .ok (.istore 5, 2) := by decide +kernel
theorem dX0_markRow_24 : decode cX0_markRow 24 = .ok (.iload 5, 2) := by decide +kernel
theorem dX0_markRow_26 : decode cX0_markRow 26 = .ok (.bipush 6, 2) := by decide +kernel
theorem dX0_markRow_28 : decode cX0_markRow 28 = .ok (.if_icmp .ge 68, 3) := by decide +kernel
theorem dX0_markRow_31 : decode cX0_markRow 31 = .ok (.bipush 6, 2) := by decide +kernel
theorem dX0_markRow_33 : decode cX0_markRow 33 = .ok (.iload_n 1, 1) := by decide +kernel
theorem dX0_markRow_34 : decode cX0_markRow 34 = .ok (.imul, 1) := by decide +kernel
theorem dX0_markRow_35 : decode cX0_markRow 35 = .ok (.iload 5, 2) := by decide +kernel
theorem dX0_markRow_37 : decode cX0_markRow 37 = .ok (.iadd, 1) := by decide +kernel
theorem dX0_markRow_38 : decode cX0_markRow 38 = .ok (.istore 6, 2) := by decide +kernel
theorem dX0_markRow_40 : decode cX0_markRow 40 = .ok (.iload 4, 2) := by decide +kernel
theorem dX0_markRow_42 : decode cX0_markRow 42 = .ok (.aload_n 0, 1) := by decide +kernel
theorem dX0_markRow_43 : decode cX0_markRow 43 = .ok (.iload 5, 2) := by decide +kernel
theorem dX0_markRow_45 : decode cX0_markRow 45 = .ok (.invokevirtual 61, 3) := by decide +kernel
theorem dX0_markRow_48 : decode cX0_markRow 48 = .ok (.ior, 1) := by decide +kernel
theorem dX0_markRow_49 : decode cX0_markRow 49 = .ok (.istore 7, 2) := by decide +kernel
theorem dX0_markRow_51 : decode cX0_markRow 51 = .ok (.aload_n 2, 1) := by decide +kernel
theorem dX0_markRow_52 : decode cX0_markRow 52 = .ok (.iload 6, 2) := by decide +kernel
theorem dX0_markRow_54 : decode cX0_markRow 54 = .ok (.baload, 1) := by decide +kernel
theorem dX0_markRow_55 : decode cX0_markRow 55 = .ok (.ifCond .eq 10, 3) := by decide +kernel
theorem dX0_markRow_58 : decode cX0_markRow 58 = .ok (.iload 7, 2) := by decide +kernel
theorem dX0_markRow_60 : decode cX0_markRow 60 = .ok (.bipush 8, 2) := by decide +kernel
theorem dX0_markRow_62 : decode cX0_markRow 62 = .ok (.ior, 1) := by decide +kernel
theorem dX0_markRow_63 : decode cX0_markRow 63 = .ok (.istore 7, 2) := by decide +kernel
theorem dX0_markRow_65 : decode cX0_markRow 65 = .ok (.aload_n 0, 1) := by decide +kernel
theorem dX0_markRow_66 : decode cX0_markRow 66 = .ok (.iload 5, 2) := by decide +kernel
theorem dX0_markRow_68 : decode cX0_markRow 68 = .ok (.invokevirtual 65, 3) := by decide +kernel
theorem dX0_markRow_71 : decode cX0_markRow 71 = .ok (.ifCond .ne 10, 3) := by decide +kernel
theorem dX0_markRow_74 : decode cX0_markRow 74 = .ok (.iload 7, 2) := by decide +kernel
theorem dX0_markRow_76 : decode cX0_markRow 76 = .ok (.bipush 16, 2) := by decide +kernel
theorem dX0_markRow_78 : decode cX0_markRow 78 = .ok (.ior, 1) := by decide +kernel
theorem dX0_markRow_79 : decode cX0_markRow 79 = .ok (.istore 7, 2) := by decide +kernel
theorem dX0_markRow_81 : decode cX0_markRow 81 = .ok (.aload_n 3, 1) := by decide +kernel
theorem dX0_markRow_82 : decode cX0_markRow 82 = .ok (.getfield 69, 3) := by decide +kernel
theorem dX0_markRow_85 : decode cX0_markRow 85 = .ok (.iload 6, 2) := by decide +kernel
theorem dX0_markRow_87 : decode cX0_markRow 87 = .ok (.iload 7, 2) := by decide +kernel
theorem dX0_markRow_89 : decode cX0_markRow 89 = .ok (.iastore, 1) := by decide +kernel
theorem dX0_markRow_90 : decode cX0_markRow 90 = .ok (.iinc 5 1, 3) := by decide +kernel
theorem dX0_markRow_93 : decode cX0_markRow 93 = .ok (.goto (-69), 3) := by decide +kernel
theorem dX0_markRow_96 : decode cX0_markRow 96 = .ok (.return_, 1) := by decide +kernel
set_option maxRecDepth 20000 in
theorem ggX0_holeFaults_X1_isWhole : GoodIn wsX0_holeFaults wsX1_isWhole := goodIn_r _ [6, 7, 8, 16, 17] (by decide +kernel) (by decide +kernel)
set_option maxRecDepth 20000 in
theorem gX0_holeFaults_X1_isWhole : GoodIn wsX0_holeFaults (wsV RX0 75 RX1 yX1_isWhole wsX1_isWhole) := goodIn_app (goodIn_of _ (by decide +kernel)) ggX0_holeFaults_X1_isWhole
theorem dX0_holeFaults_0 : decode cX0_holeFaults 0 = .ok (.iconst 0, 1) := by decide +kernel
theorem dX0_holeFaults_1 : decode cX0_holeFaults 1 = .ok (.istore_n 2, 1) := by decide +kernel
theorem dX0_holeFaults_2 : decode cX0_holeFaults 2 = .ok (.aload_n 0, 1) := by decide +kernel
theorem dX0_holeFaults_3 : decode cX0_holeFaults 3 = .ok (.getfield 20, 3) := by decide +kernel
theorem dX0_holeFaults_6 : decode cX0_holeFaults 6 = .ok (.iload_n 1, 1) := by decide +kernel
theorem dX0_holeFaults_7 : decode cX0_holeFaults 7 = .ok (.aaload, 1) := by decide +kernel
theorem dX0_holeFaults_8 : decode cX0_holeFaults 8 = .ok (.invokevirtual 75, 3) := by decide +kernel
theorem dX0_holeFaults_11 : decode cX0_holeFaults 11 = .ok (.ifCond .ne 7, 3) := by decide +kernel
theorem dX0_holeFaults_14 : decode cX0_holeFaults 14 = .ok (.iload_n 2, 1) := by decide +kernel
theorem dX0_holeFaults_15 : decode cX0_holeFaults 15 = .ok (.iconst 2, 1) := by decide +kernel
theorem dX0_holeFaults_16 : decode cX0_holeFaults 16 = .ok (.ior, 1) := by decide +kernel
theorem dX0_holeFaults_17 : decode cX0_holeFaults 17 = .ok (.istore_n 2, 1) := by decide +kernel
theorem dX0_holeFaults_18 : decode cX0_holeFaults 18 = .ok (.aload_n 0, 1) := by decide +kernel
theorem dX0_holeFaults_19 : decode cX0_holeFaults 19 = .ok (.getfield 20, 3) := by decide +kernel
theorem dX0_holeFaults_22 : decode cX0_holeFaults 22 = .ok (.iload_n 1, 1) := by decide +kernel
theorem dX0_holeFaults_23 : decode cX0_holeFaults 23 = .ok (.iconst 1, 1) := by decide +kernel
theorem dX0_holeFaults_24 : decode cX0_holeFaults 24 = .ok (.iadd, 1) := by decide +kernel
theorem dX0_holeFaults_25 : decode cX0_holeFaults 25 = .ok (.aaload, 1) := by decide +kernel
theorem dX0_holeFaults_26 : decode cX0_holeFaults 26 = .ok (.invokevirtual 75, 3) := by decide +kernel
theorem dX0_holeFaults_29 : decode cX0_holeFaults 29 = .ok (.ifCond .ne 7, 3) := by decide +kernel
theorem dX0_holeFaults_32 : decode cX0_holeFaults 32 = .ok (.iload_n 2, 1) := by decide +kernel
theorem dX0_holeFaults_33 : decode cX0_holeFaults 33 = .ok (.iconst 4, 1) := by decide +kernel
theorem dX0_holeFaults_34 : decode cX0_holeFaults 34 = .ok (.ior, 1) := by decide +kernel
theorem dX0_holeFaults_35 : decode cX0_holeFaults 35 = .ok (.istore_n 2, 1) := by decide +kernel
theorem dX0_holeFaults_36 : decode cX0_holeFaults 36 = .ok (.iload_n 2, 1) := by decide +kernel
theorem dX0_holeFaults_37 : decode cX0_holeFaults 37 = .ok (.ireturn, 1) := by decide +kernel
theorem dX0_hasWatermark_0 : decode cX0_hasWatermark 0 = .ok (.aload_n 0, 1) := by decide +kernel
theorem dX0_hasWatermark_1 : decode cX0_hasWatermark 1 = .ok (.getfield 15, 3) := by decide +kernel
theorem dX0_hasWatermark_4 : decode cX0_hasWatermark 4 = .ok (.ifCond .le 21, 3) := by decide +kernel
theorem dX0_hasWatermark_7 : decode cX0_hasWatermark 7 = .ok (.aload_n 0, 1) := by decide +kernel
theorem dX0_hasWatermark_8 : decode cX0_hasWatermark 8 = .ok (.getfield 38, 3) := by decide +kernel
theorem dX0_hasWatermark_11 : decode cX0_hasWatermark 11 = .ok (.iload_n 1, 1) := by decide +kernel
theorem dX0_hasWatermark_12 : decode cX0_hasWatermark 12 = .ok (.iadd, 1) := by decide +kernel
theorem dX0_hasWatermark_13 : decode cX0_hasWatermark 13 = .ok (.aload_n 0, 1) := by decide +kernel
theorem dX0_hasWatermark_14 : decode cX0_hasWatermark 14 = .ok (.getfield 15, 3) := by decide +kernel
theorem dX0_hasWatermark_17 : decode cX0_hasWatermark 17 = .ok (.irem, 1) := by decide +kernel
theorem dX0_hasWatermark_18 : decode cX0_hasWatermark 18 = .ok (.ifCond .ne 7, 3) := by decide +kernel
theorem dX0_hasWatermark_21 : decode cX0_hasWatermark 21 = .ok (.iconst 1, 1) := by decide +kernel
theorem dX0_hasWatermark_22 : decode cX0_hasWatermark 22 = .ok (.goto 4, 3) := by decide +kernel
theorem dX0_hasWatermark_25 : decode cX0_hasWatermark 25 = .ok (.iconst 0, 1) := by decide +kernel
theorem dX0_hasWatermark_26 : decode cX0_hasWatermark 26 = .ok (.ireturn, 1) := by decide +kernel
set_option maxRecDepth 20000 in
theorem ggX0_strikeAll_X1_strike : GoodIn wsX0_strikeAll wsX1_strike := goodIn_r _ [6, 7, 8, 9, 10, 5, 11, 12, 20, 21] (by decide +kernel) (by decide +kernel)
set_option maxRecDepth 20000 in
theorem gX0_strikeAll_X1_strike : GoodIn wsX0_strikeAll (wsV RX0 79 RX1 yX1_strike wsX1_strike) := goodIn_app (goodIn_of _ (by decide +kernel)) ggX0_strikeAll_X1_strike
theorem dX0_strikeAll_0 : decode cX0_strikeAll 0 = .ok (.iconst 0, 1) := by decide +kernel
theorem dX0_strikeAll_1 : decode cX0_strikeAll 1 = .ok (.istore_n 1, 1) := by decide +kernel
theorem dX0_strikeAll_2 : decode cX0_strikeAll 2 = .ok (.iload_n 1, 1) := by decide +kernel
theorem dX0_strikeAll_3 : decode cX0_strikeAll 3 = .ok (.bipush 7, 2) := by decide +kernel
theorem dX0_strikeAll_5 : decode cX0_strikeAll 5 = .ok (.if_icmp .ge 18, 3) := by decide +kernel
theorem dX0_strikeAll_8 : decode cX0_strikeAll 8 = .ok (.aload_n 0, 1) := by decide +kernel
theorem dX0_strikeAll_9 : decode cX0_strikeAll 9 = .ok (.getfield 20, 3) := by decide +kernel
theorem dX0_strikeAll_12 : decode cX0_strikeAll 12 = .ok (.iload_n 1, 1) := by decide +kernel
theorem dX0_strikeAll_13 : decode cX0_strikeAll 13 = .ok (.aaload, 1) := by decide +kernel
theorem dX0_strikeAll_14 : decode cX0_strikeAll 14 = .ok (.invokevirtual 79, 3) := by decide +kernel
theorem dX0_strikeAll_17 : decode cX0_strikeAll 17 = .ok (.iinc 1 1, 3) := by decide +kernel
theorem dX0_strikeAll_20 : decode cX0_strikeAll 20 = .ok (.goto (-18), 3) := by decide +kernel
theorem dX0_strikeAll_23 : decode cX0_strikeAll 23 = .ok (.return_, 1) := by decide +kernel
set_option maxRecDepth 20000 in
theorem ggX0_brokenPins_X1_isWhole : GoodIn wsX0_brokenPins wsX1_isWhole := goodIn_r _ [6, 7, 8, 16, 17] (by decide +kernel) (by decide +kernel)
set_option maxRecDepth 20000 in
theorem gX0_brokenPins_X1_isWhole : GoodIn wsX0_brokenPins (wsV RX0 75 RX1 yX1_isWhole wsX1_isWhole) := goodIn_app (goodIn_of _ (by decide +kernel)) ggX0_brokenPins_X1_isWhole
theorem dX0_brokenPins_0 : decode cX0_brokenPins 0 = .ok (.iconst 0, 1) := by decide +kernel
theorem dX0_brokenPins_1 : decode cX0_brokenPins 1 = .ok (.istore_n 1, 1) := by decide +kernel
theorem dX0_brokenPins_2 : decode cX0_brokenPins 2 = .ok (.iconst 0, 1) := by decide +kernel
theorem dX0_brokenPins_3 : decode cX0_brokenPins 3 = .ok (.istore_n 2, 1) := by decide +kernel
theorem dX0_brokenPins_4 : decode cX0_brokenPins 4 = .ok (.iload_n 2, 1) := by decide +kernel
theorem dX0_brokenPins_5 : decode cX0_brokenPins 5 = .ok (.bipush 7, 2) := by decide +kernel
theorem dX0_brokenPins_7 : decode cX0_brokenPins 7 = .ok (.if_icmp .ge 24, 3) := by decide +kernel
theorem dX0_brokenPins_10 : decode cX0_brokenPins 10 = .ok (.aload_n 0, 1) := by decide +kernel
theorem dX0_brokenPins_11 : decode cX0_brokenPins 11 = .ok (.getfield 20, 3) := by decide +kernel
theorem dX0_brokenPins_14 : decode cX0_brokenPins 14 = .ok (.iload_n 2, 1) := by decide +kernel
theorem dX0_brokenPins_15 : decode cX0_brokenPins 15 = .ok (.aaload, 1) := by decide +kernel
theorem dX0_brokenPins_16 : decode cX0_brokenPins 16 = .ok (.invokevirtual 75, 3) := by decide +kernel
theorem dX0_brokenPins_19 : decode cX0_brokenPins 19 = .ok (.ifCond .ne 6, 3) := by decide +kernel
theorem dX0_brokenPins_22 : decode cX0_brokenPins 22 = .ok (.iinc 1 1, 3) := by decide +kernel
theorem dX0_brokenPins_25 : decode cX0_brokenPins 25 = .ok (.iinc 2 1, 3) := by decide +kernel
theorem dX0_brokenPins_28 : decode cX0_brokenPins 28 = .ok (.goto (-24), 3) := by decide +kernel
theorem dX0_brokenPins_31 : decode cX0_brokenPins 31 = .ok (.iload_n 1, 1) := by decide +kernel
theorem dX0_brokenPins_32 : decode cX0_brokenPins 32 = .ok (.ireturn, 1) := by decide +kernel
theorem dX1_init_0 : decode cX1_init 0 = .ok (.aload_n 0, 1) := by decide +kernel
theorem dX1_init_1 : decode cX1_init 1 = .ok (.invokespecial 3, 3) := by decide +kernel
theorem dX1_init_4 : decode cX1_init 4 = .ok (.aload_n 0, 1) := by decide +kernel
theorem dX1_init_5 : decode cX1_init 5 = .ok (.sipush 200, 3) := by decide +kernel
theorem dX1_init_8 : decode cX1_init 8 = .ok (.putfield 9, 3) := by decide +kernel
theorem dX1_init_11 : decode cX1_init 11 = .ok (.return_, 1) := by decide +kernel
theorem dX1_isWhole_0 : decode cX1_isWhole 0 = .ok (.aload_n 0, 1) := by decide +kernel
theorem dX1_isWhole_1 : decode cX1_isWhole 1 = .ok (.getfield 15, 3) := by decide +kernel
theorem dX1_isWhole_4 : decode cX1_isWhole 4 = .ok (.aload_n 0, 1) := by decide +kernel
theorem dX1_isWhole_5 : decode cX1_isWhole 5 = .ok (.getfield 9, 3) := by decide +kernel
theorem dX1_isWhole_8 : decode cX1_isWhole 8 = .ok (.if_icmp .gt 7, 3) := by decide +kernel
theorem dX1_isWhole_11 : decode cX1_isWhole 11 = .ok (.iconst 1, 1) := by decide +kernel
theorem dX1_isWhole_12 : decode cX1_isWhole 12 = .ok (.goto 4, 3) := by decide +kernel
theorem dX1_isWhole_15 : decode cX1_isWhole 15 = .ok (.iconst 0, 1) := by decide +kernel
theorem dX1_isWhole_16 : decode cX1_isWhole 16 = .ok (.ireturn, 1) := by decide +kernel
set_option maxRecDepth 20000 in
theorem ggX1_strike_X1_isWhole : GoodIn wsX1_strike wsX1_isWhole := goodIn_r _ [6, 1, 7, 8, 9] (by decide +kernel) (by decide +kernel)
set_option maxRecDepth 20000 in
theorem gX1_strike_X1_isWhole : GoodIn wsX1_strike (wsV RX1 18 RX1 yX1_isWhole wsX1_isWhole) := goodIn_app (goodIn_of _ (by decide +kernel)) ggX1_strike_X1_isWhole
theorem dX1_strike_0 : decode cX1_strike 0 = .ok (.aload_n 0, 1) := by decide +kernel
theorem dX1_strike_1 : decode cX1_strike 1 = .ok (.invokevirtual 18, 3) := by decide +kernel
theorem dX1_strike_4 : decode cX1_strike 4 = .ok (.ifCond .eq 13, 3) := by decide +kernel
theorem dX1_strike_7 : decode cX1_strike 7 = .ok (.aload_n 0, 1) := by decide +kernel
theorem dX1_strike_8 : decode cX1_strike 8 = .ok (.dup, 1) := by decide +kernel
theorem dX1_strike_9 : decode cX1_strike 9 = .ok (.getfield 15, 3) := by decide +kernel
theorem dX1_strike_12 : decode cX1_strike 12 = .ok (.iconst 1, 1) := by decide +kernel
theorem dX1_strike_13 : decode cX1_strike 13 = .ok (.iadd, 1) := by decide +kernel
theorem dX1_strike_14 : decode cX1_strike 14 = .ok (.putfield 15, 3) := by decide +kernel
theorem dX1_strike_17 : decode cX1_strike 17 = .ok (.return_, 1) := by decide +kernel
theorem dX1_becomeLike_0 : decode cX1_becomeLike 0 = .ok (.aload_n 0, 1) := by decide +kernel
theorem dX1_becomeLike_1 : decode cX1_becomeLike 1 = .ok (.aload_n 1, 1) := by decide +kernel
theorem dX1_becomeLike_2 : decode cX1_becomeLike 2 = .ok (.getfield 9, 3) := by decide +kernel
theorem dX1_becomeLike_5 : decode cX1_becomeLike 5 = .ok (.putfield 9, 3) := by decide +kernel
theorem dX1_becomeLike_8 : decode cX1_becomeLike 8 = .ok (.aload_n 0, 1) := by decide +kernel
theorem dX1_becomeLike_9 : decode cX1_becomeLike 9 = .ok (.aload_n 1, 1) := by decide +kernel
theorem dX1_becomeLike_10 : decode cX1_becomeLike 10 = .ok (.getfield 15, 3) := by decide +kernel
theorem dX1_becomeLike_13 : decode cX1_becomeLike 13 = .ok (.putfield 15, 3) := by decide +kernel
theorem dX1_becomeLike_16 : decode cX1_becomeLike 16 = .ok (.return_, 1) := by decide +kernel
set_option maxRecDepth 20000 in
theorem ggX1_answer_X1_isWhole : GoodIn wsX1_answer wsX1_isWhole := goodIn_r _ [7, 2, 1, 8, 9] (by decide +kernel) (by decide +kernel)
set_option maxRecDepth 20000 in
theorem gX1_answer_X1_isWhole : GoodIn wsX1_answer (wsV RX1 18 RX1 yX1_isWhole wsX1_isWhole) := goodIn_app (goodIn_of _ (by decide +kernel)) ggX1_answer_X1_isWhole
theorem dX1_answer_0 : decode cX1_answer 0 = .ok (.iload_n 1, 1) := by decide +kernel
theorem dX1_answer_1 : decode cX1_answer 1 = .ok (.tableswitch 50 0 2 #[27, 32, 37], 27) := by decide +kernel
theorem dX1_answer_28 : decode cX1_answer 28 = .ok (.aload_n 0, 1) := by decide +kernel
theorem dX1_answer_29 : decode cX1_answer 29 = .ok (.getfield 9, 3) := by decide +kernel
theorem dX1_answer_32 : decode cX1_answer 32 = .ok (.ireturn, 1) := by decide +kernel
theorem dX1_answer_33 : decode cX1_answer 33 = .ok (.aload_n 0, 1) := by decide +kernel
theorem dX1_answer_34 : decode cX1_answer 34 = .ok (.getfield 15, 3) := by decide +kernel
theorem dX1_answer_37 : decode cX1_answer 37 = .ok (.ireturn, 1) := by decide +kernel
theorem dX1_answer_38 : decode cX1_answer 38 = .ok (.aload_n 0, 1) := by decide +kernel
theorem dX1_answer_39 : decode cX1_answer 39 = .ok (.invokevirtual 18, 3) := by decide +kernel
theorem dX1_answer_42 : decode cX1_answer 42 = .ok (.ifCond .eq 7, 3) := by decide +kernel
theorem dX1_answer_45 : decode cX1_answer 45 = .ok (.iconst 1, 1) := by decide +kernel
theorem dX1_answer_46 : decode cX1_answer 46 = .ok (.goto 4, 3) := by decide +kernel
theorem dX1_answer_49 : decode cX1_answer 49 = .ok (.iconst 0, 1) := by decide +kernel
theorem dX1_answer_50 : decode cX1_answer 50 = .ok (.ireturn, 1) := by decide +kernel
theorem dX1_answer_51 : decode cX1_answer 51 = .ok (.aload_n 0, 1) := by decide +kernel
theorem dX1_answer_52 : decode cX1_answer 52 = .ok (.invokevirtual 18, 3) := by decide +kernel
theorem dX1_answer_55 : decode cX1_answer 55 = .ok (.ifCond .eq 17, 3) := by decide +kernel
theorem dX1_answer_58 : decode cX1_answer 58 = .ok (.aload_n 0, 1) := by decide +kernel
theorem dX1_answer_59 : decode cX1_answer 59 = .ok (.getfield 9, 3) := by decide +kernel
theorem dX1_answer_62 : decode cX1_answer 62 = .ok (.aload_n 0, 1) := by decide +kernel
theorem dX1_answer_63 : decode cX1_answer 63 = .ok (.getfield 15, 3) := by decide +kernel
theorem dX1_answer_66 : decode cX1_answer 66 = .ok (.isub, 1) := by decide +kernel
theorem dX1_answer_67 : decode cX1_answer 67 = .ok (.iconst 1, 1) := by decide +kernel
theorem dX1_answer_68 : decode cX1_answer 68 = .ok (.iadd, 1) := by decide +kernel
theorem dX1_answer_69 : decode cX1_answer 69 = .ok (.goto 4, 3) := by decide +kernel
theorem dX1_answer_72 : decode cX1_answer 72 = .ok (.iconst 0, 1) := by decide +kernel
theorem dX1_answer_73 : decode cX1_answer 73 = .ok (.ireturn, 1) := by decide +kernel
theorem dX2_init_0 : decode cX2_init 0 = .ok (.aload_n 0, 1) := by decide +kernel
theorem dX2_init_1 : decode cX2_init 1 = .ok (.invokespecial 3, 3) := by decide +kernel
theorem dX2_init_4 : decode cX2_init 4 = .ok (.aload_n 0, 1) := by decide +kernel
theorem dX2_init_5 : decode cX2_init 5 = .ok (.bipush 30, 2) := by decide +kernel
theorem dX2_init_7 : decode cX2_init 7 = .ok (.newarray .int, 2) := by decide +kernel
theorem dX2_init_9 : decode cX2_init 9 = .ok (.putfield 9, 3) := by decide +kernel
theorem dX2_init_12 : decode cX2_init 12 = .ok (.aload_n 0, 1) := by decide +kernel
theorem dX2_init_13 : decode cX2_init 13 = .ok (.bipush 30, 2) := by decide +kernel
theorem dX2_init_15 : decode cX2_init 15 = .ok (.newarray .boolean, 2) := by decide +kernel
theorem dX2_init_17 : decode cX2_init 17 = .ok (.putfield 15, 3) := by decide +kernel
theorem dX2_init_20 : decode cX2_init 20 = .ok (.return_, 1) := by decide +kernel
set_option maxRecDepth 20000 in
theorem ggX2_answer_X2_left : GoodIn wsX2_answer wsX2_left := goodIn_r _ [5, 6, 51, 52] (by decide +kernel) (by decide +kernel)
set_option maxRecDepth 20000 in
theorem gX2_answer_X2_left : GoodIn wsX2_answer (wsV RX2 19 RX2 yX2_left wsX2_left) := goodIn_app (goodIn_of _ (by decide +kernel)) ggX2_answer_X2_left
set_option maxRecDepth 20000 in
theorem ggX2_answer_X2_leftWith : GoodIn wsX2_answer wsX2_leftWith := goodIn_r _ [10, 11, 12, 13, 4, 14, 6, 15, 51, 52] (by decide +kernel) (by decide +kernel)
set_option maxRecDepth 20000 in
theorem gX2_answer_X2_leftWith : GoodIn wsX2_answer (wsV RX2 23 RX2 yX2_leftWith wsX2_leftWith) := goodIn_app (goodIn_of _ (by decide +kernel)) ggX2_answer_X2_leftWith
set_option maxRecDepth 20000 in
theorem ggX2_answer_X2_worth : GoodIn wsX2_answer wsX2_worth := goodIn_r _ [19, 20, 21, 22, 4, 23, 15, 6, 51, 52] (by decide +kernel) (by decide +kernel)
set_option maxRecDepth 20000 in
theorem gX2_answer_X2_worth : GoodIn wsX2_answer (wsV RX2 27 RX2 yX2_worth wsX2_worth) := goodIn_app (goodIn_of _ (by decide +kernel)) ggX2_answer_X2_worth
set_option maxRecDepth 20000 in
theorem ggX2_answer_X2_invertedPairs : GoodIn wsX2_answer wsX2_invertedPairs := goodIn_r _ [27, 28, 29, 30, 4, 31, 6, 15, 51, 52] (by decide +kernel) (by decide +kernel)
set_option maxRecDepth 20000 in
theorem gX2_answer_X2_invertedPairs : GoodIn wsX2_answer (wsV RX2 30 RX2 yX2_invertedPairs wsX2_invertedPairs) := goodIn_app (goodIn_of _ (by decide +kernel)) ggX2_answer_X2_invertedPairs
set_option maxRecDepth 20000 in
theorem ggX2_answer_X2_rowsOff : GoodIn wsX2_answer wsX2_rowsOff := goodIn_r _ [35, 15, 51, 52] (by decide +kernel) (by decide +kernel)
set_option maxRecDepth 20000 in
theorem gX2_answer_X2_rowsOff : GoodIn wsX2_answer (wsV RX2 33 RX2 yX2_rowsOff wsX2_rowsOff) := goodIn_app (goodIn_of _ (by decide +kernel)) ggX2_answer_X2_rowsOff
set_option maxRecDepth 20000 in
theorem ggX2_answer_X2_greatestBlock : GoodIn wsX2_answer wsX2_greatestBlock := goodIn_r _ [39, 40, 41, 42, 43, 44, 45, 46, 4, 47, 11, 12, 13, 14, 6, 15, 48, 49, 50, 51, 52] (by decide +kernel) (by decide +kernel)
set_option maxRecDepth 20000 in
theorem gX2_answer_X2_greatestBlock : GoodIn wsX2_answer (wsV RX2 36 RX2 yX2_greatestBlock wsX2_greatestBlock) := goodIn_app (goodIn_of _ (by decide +kernel)) ggX2_answer_X2_greatestBlock
theorem dX2_answer_0 : decode cX2_answer 0 = .ok (.iload_n 1, 1) := by decide +kernel
theorem dX2_answer_1 : decode cX2_answer 1 = .ok (.tableswitch 61 0 4 #[35, 40, 46, 51, 56], 35) := by decide +kernel
theorem dX2_answer_36 : decode cX2_answer 36 = .ok (.aload_n 0, 1) := by decide +kernel
theorem dX2_answer_37 : decode cX2_answer 37 = .ok (.invokevirtual 19, 3) := by decide +kernel
theorem dX2_answer_40 : decode cX2_answer 40 = .ok (.ireturn, 1) := by decide +kernel
theorem dX2_answer_41 : decode cX2_answer 41 = .ok (.aload_n 0, 1) := by decide +kernel
theorem dX2_answer_42 : decode cX2_answer 42 = .ok (.iconst 0, 1) := by decide +kernel
theorem dX2_answer_43 : decode cX2_answer 43 = .ok (.invokevirtual 23, 3) := by decide +kernel
theorem dX2_answer_46 : decode cX2_answer 46 = .ok (.ireturn, 1) := by decide +kernel
theorem dX2_answer_47 : decode cX2_answer 47 = .ok (.aload_n 0, 1) := by decide +kernel
theorem dX2_answer_48 : decode cX2_answer 48 = .ok (.invokevirtual 27, 3) := by decide +kernel
theorem dX2_answer_51 : decode cX2_answer 51 = .ok (.ireturn, 1) := by decide +kernel
theorem dX2_answer_52 : decode cX2_answer 52 = .ok (.aload_n 0, 1) := by decide +kernel
theorem dX2_answer_53 : decode cX2_answer 53 = .ok (.invokevirtual 30, 3) := by decide +kernel
theorem dX2_answer_56 : decode cX2_answer 56 = .ok (.ireturn, 1) := by decide +kernel
theorem dX2_answer_57 : decode cX2_answer 57 = .ok (.aload_n 0, 1) := by decide +kernel
theorem dX2_answer_58 : decode cX2_answer 58 = .ok (.invokevirtual 33, 3) := by decide +kernel
theorem dX2_answer_61 : decode cX2_answer 61 = .ok (.ireturn, 1) := by decide +kernel
theorem dX2_answer_62 : decode cX2_answer 62 = .ok (.aload_n 0, 1) := by decide +kernel
theorem dX2_answer_63 : decode cX2_answer 63 = .ok (.invokevirtual 36, 3) := by decide +kernel
theorem dX2_answer_66 : decode cX2_answer 66 = .ok (.ireturn, 1) := by decide +kernel
theorem dX2_worthOf_0 : decode cX2_worthOf 0 = .ok (.aload_n 0, 1) := by decide +kernel
theorem dX2_worthOf_1 : decode cX2_worthOf 1 = .ok (.getfield 9, 3) := by decide +kernel
theorem dX2_worthOf_4 : decode cX2_worthOf 4 = .ok (.iload_n 1, 1) := by decide +kernel
theorem dX2_worthOf_5 : decode cX2_worthOf 5 = .ok (.iaload, 1) := by decide +kernel
theorem dX2_worthOf_6 : decode cX2_worthOf 6 = .ok (.istore_n 2, 1) := by decide +kernel
theorem dX2_worthOf_7 : decode cX2_worthOf 7 = .ok (.aload_n 0, 1) := by decide +kernel
theorem dX2_worthOf_8 : decode cX2_worthOf 8 = .ok (.getfield 15, 3) := by decide +kernel
theorem dX2_worthOf_11 : decode cX2_worthOf 11 = .ok (.iload_n 1, 1) := by decide +kernel
theorem dX2_worthOf_12 : decode cX2_worthOf 12 = .ok (.baload, 1) := by decide +kernel
theorem dX2_worthOf_13 : decode cX2_worthOf 13 = .ok (.ifCond .ne 10, 3) := by decide +kernel
theorem dX2_worthOf_16 : decode cX2_worthOf 16 = .ok (.iload_n 2, 1) := by decide +kernel
theorem dX2_worthOf_17 : decode cX2_worthOf 17 = .ok (.bipush 7, 2) := by decide +kernel
theorem dX2_worthOf_19 : decode cX2_worthOf 19 = .ok (.iand, 1) := by decide +kernel
theorem dX2_worthOf_20 : decode cX2_worthOf 20 = .ok (.ifCond .eq 5, 3) := by decide +kernel
theorem dX2_worthOf_23 : decode cX2_worthOf 23 = .ok (.iconst 0, 1) := by decide +kernel
theorem dX2_worthOf_24 : decode cX2_worthOf 24 = .ok (.ireturn, 1) := by decide +kernel
theorem dX2_worthOf_25 : decode cX2_worthOf 25 = .ok (.iconst 1, 1) := by decide +kernel
theorem dX2_worthOf_26 : decode cX2_worthOf 26 = .ok (.istore_n 3, 1) := by decide +kernel
theorem dX2_worthOf_27 : decode cX2_worthOf 27 = .ok (.iload_n 2, 1) := by decide +kernel
theorem dX2_worthOf_28 : decode cX2_worthOf 28 = .ok (.bipush 8, 2) := by decide +kernel
theorem dX2_worthOf_30 : decode cX2_worthOf 30 = .ok (.iand, 1) := by decide +kernel
theorem dX2_worthOf_31 : decode cX2_worthOf 31 = .ok (.ifCond .eq 6, 3) := by decide +kernel
theorem dX2_worthOf_34 : decode cX2_worthOf 34 = .ok (.iinc 3 20, 3) := by decide +kernel
theorem dX2_worthOf_37 : decode cX2_worthOf 37 = .ok (.iload_n 2, 1) := by decide +kernel
theorem dX2_worthOf_38 : decode cX2_worthOf 38 = .ok (.bipush 16, 2) := by decide +kernel
theorem dX2_worthOf_40 : decode cX2_worthOf 40 = .ok (.iand, 1) := by decide +kernel
theorem dX2_worthOf_41 : decode cX2_worthOf 41 = .ok (.ifCond .eq 6, 3) := by decide +kernel
theorem dX2_worthOf_44 : decode cX2_worthOf 44 = .ok (.iinc 3 4, 3) := by decide +kernel
theorem dX2_worthOf_47 : decode cX2_worthOf 47 = .ok (.iload_n 3, 1) := by decide +kernel
theorem dX2_worthOf_48 : decode cX2_worthOf 48 = .ok (.ireturn, 1) := by decide +kernel
set_option maxRecDepth 20000 in
theorem ggX2_worth_X2_worthOf : GoodIn wsX2_worth wsX2_worthOf := goodIn_r _ [5, 6, 7, 8, 9] (by decide +kernel) (by decide +kernel)
set_option maxRecDepth 20000 in
theorem gX2_worth_X2_worthOf : GoodIn wsX2_worth (wsV RX2 39 RX2 yX2_worthOf wsX2_worthOf) := goodIn_app (goodIn_of _ (by decide +kernel)) ggX2_worth_X2_worthOf
theorem dX2_worth_0 : decode cX2_worth 0 = .ok (.iconst 0, 1) := by decide +kernel
theorem dX2_worth_1 : decode cX2_worth 1 = .ok (.istore_n 1, 1) := by decide +kernel
theorem dX2_worth_2 : decode cX2_worth 2 = .ok (.iconst 0, 1) := by decide +kernel
theorem dX2_worth_3 : decode cX2_worth 3 = .ok (.istore_n 2, 1) := by decide +kernel
theorem dX2_worth_4 : decode cX2_worth 4 = .ok (.iload_n 2, 1) := by decide +kernel
theorem dX2_worth_5 : decode cX2_worth 5 = .ok (.bipush 30, 2) := by decide +kernel
theorem dX2_worth_7 : decode cX2_worth 7 = .ok (.if_icmp .ge 17, 3) := by decide +kernel
theorem dX2_worth_10 : decode cX2_worth 10 = .ok (.iload_n 1, 1) := by decide +kernel
theorem dX2_worth_11 : decode cX2_worth 11 = .ok (.aload_n 0, 1) := by decide +kernel
theorem dX2_worth_12 : decode cX2_worth 12 = .ok (.iload_n 2, 1) := by decide +kernel
theorem dX2_worth_13 : decode cX2_worth 13 = .ok (.invokevirtual 39, 3) := by decide +kernel
theorem dX2_worth_16 : decode cX2_worth 16 = .ok (.iadd, 1) := by decide +kernel
theorem dX2_worth_17 : decode cX2_worth 17 = .ok (.istore_n 1, 1) := by decide +kernel
theorem dX2_worth_18 : decode cX2_worth 18 = .ok (.iinc 2 1, 3) := by decide +kernel
theorem dX2_worth_21 : decode cX2_worth 21 = .ok (.goto (-17), 3) := by decide +kernel
theorem dX2_worth_24 : decode cX2_worth 24 = .ok (.iload_n 1, 1) := by decide +kernel
theorem dX2_worth_25 : decode cX2_worth 25 = .ok (.ireturn, 1) := by decide +kernel
theorem dX2_left_0 : decode cX2_left 0 = .ok (.iconst 0, 1) := by decide +kernel
theorem dX2_left_1 : decode cX2_left 1 = .ok (.istore_n 1, 1) := by decide +kernel
theorem dX2_left_2 : decode cX2_left 2 = .ok (.iconst 0, 1) := by decide +kernel
theorem dX2_left_3 : decode cX2_left 3 = .ok (.istore_n 2, 1) := by decide +kernel
theorem dX2_left_4 : decode cX2_left 4 = .ok (.iload_n 2, 1) := by decide +kernel
theorem dX2_left_5 : decode cX2_left 5 = .ok (.bipush 30, 2) := by decide +kernel
theorem dX2_left_7 : decode cX2_left 7 = .ok (.if_icmp .ge 21, 3) := by decide +kernel
theorem dX2_left_10 : decode cX2_left 10 = .ok (.aload_n 0, 1) := by decide +kernel
theorem dX2_left_11 : decode cX2_left 11 = .ok (.getfield 15, 3) := by decide +kernel
theorem dX2_left_14 : decode cX2_left 14 = .ok (.iload_n 2, 1) := by decide +kernel
theorem dX2_left_15 : decode cX2_left 15 = .ok (.baload, 1) := by decide +kernel
theorem dX2_left_16 : decode cX2_left 16 = .ok (.ifCond .ne 6, 3) := by decide +kernel
theorem dX2_left_19 : decode cX2_left 19 = .ok (.iinc 1 1, 3) := by decide +kernel
theorem dX2_left_22 : decode cX2_left 22 = .ok (.iinc 2 1, 3) := by decide +kernel
theorem dX2_left_25 : decode cX2_left 25 = .ok (.goto (-21), 3) := by decide +kernel
theorem dX2_left_28 : decode cX2_left 28 = .ok (.iload_n 1, 1) := by decide +kernel
theorem dX2_left_29 : decode cX2_left 29 = .ok (.ireturn, 1) := by decide +kernel
theorem dX2_isLeftWith_0 : decode cX2_isLeftWith 0 = .ok (.aload_n 0, 1) := by decide +kernel
theorem dX2_isLeftWith_1 : decode cX2_isLeftWith 1 = .ok (.getfield 15, 3) := by decide +kernel
theorem dX2_isLeftWith_4 : decode cX2_isLeftWith 4 = .ok (.iload_n 1, 1) := by decide +kernel
theorem dX2_isLeftWith_5 : decode cX2_isLeftWith 5 = .ok (.baload, 1) := by decide +kernel
theorem dX2_isLeftWith_6 : decode cX2_isLeftWith 6 = .ok (.ifCond .ne 17, 3) := by decide +kernel
theorem dX2_isLeftWith_9 : decode cX2_isLeftWith 9 = .ok (.aload_n 0, 1) := by decide +kernel
theorem dX2_isLeftWith_10 : decode cX2_isLeftWith 10 = .ok (.getfield 9, 3) := by decide +kernel
theorem dX2_isLeftWith_13 : decode cX2_isLeftWith 13 = .ok (.iload_n 1, 1) := by decide +kernel
theorem dX2_isLeftWith_14 : decode cX2_isLeftWith 14 = .ok (.iaload, 1) := by decide +kernel
theorem dX2_isLeftWith_15 : decode cX2_isLeftWith 15 = .ok (.iload_n 2, 1) := by decide +kernel
theorem dX2_isLeftWith_16 : decode cX2_isLeftWith 16 = .ok (.if_icmp .ne 7, 3) := by decide +kernel
theorem dX2_isLeftWith_19 : decode cX2_isLeftWith 19 = .ok (.iconst 1, 1) := by decide +kernel
theorem dX2_isLeftWith_20 : decode cX2_isLeftWith 20 = .ok (.goto 4, 3) := by decide +kernel
theorem dX2_isLeftWith_23 : decode cX2_isLeftWith 23 = .ok (.iconst 0, 1) := by decide +kernel
theorem dX2_isLeftWith_24 : decode cX2_isLeftWith 24 = .ok (.ireturn, 1) := by decide +kernel
set_option maxRecDepth 20000 in
theorem ggX2_leftWith_X2_isLeftWith : GoodIn wsX2_leftWith wsX2_isLeftWith := goodIn_r _ [5, 6, 7, 8, 9] (by decide +kernel) (by decide +kernel)
set_option maxRecDepth 20000 in
theorem gX2_leftWith_X2_isLeftWith : GoodIn wsX2_leftWith (wsV RX2 42 RX2 yX2_isLeftWith wsX2_isLeftWith) := goodIn_app (goodIn_of _ (by decide +kernel)) ggX2_leftWith_X2_isLeftWith
theorem dX2_leftWith_0 : decode cX2_leftWith 0 = .ok (.iconst 0, 1) := by decide +kernel
theorem dX2_leftWith_1 : decode cX2_leftWith 1 = .ok (.istore_n 2, 1) := by decide +kernel
theorem dX2_leftWith_2 : decode cX2_leftWith 2 = .ok (.iconst 0, 1) := by decide +kernel
theorem dX2_leftWith_3 : decode cX2_leftWith 3 = .ok (.istore_n 3, 1) := by decide +kernel
theorem dX2_leftWith_4 : decode cX2_leftWith 4 = .ok (.iload_n 3, 1) := by decide +kernel
theorem dX2_leftWith_5 : decode cX2_leftWith 5 = .ok (.bipush 30, 2) := by decide +kernel
theorem dX2_leftWith_7 : decode cX2_leftWith 7 = .ok (.if_icmp .ge 21, 3) := by decide +kernel
theorem dX2_leftWith_10 : decode cX2_leftWith 10 = .ok (.aload_n 0, 1) := by decide +kernel
theorem dX2_leftWith_11 : decode cX2_leftWith 11 = .ok (.iload_n 3, 1) := by decide +kernel
theorem dX2_leftWith_12 : decode cX2_leftWith 12 = .ok (.iload_n 1, 1) := by decide +kernel
theorem dX2_leftWith_13 : decode cX2_leftWith 13 = .ok (.invokevirtual 42, 3) := by decide +kernel
theorem dX2_leftWith_16 : decode cX2_leftWith 16 = .ok (.ifCond .eq 6, 3) := by decide +kernel
theorem dX2_leftWith_19 : decode cX2_leftWith 19 = .ok (.iinc 2 1, 3) := by decide +kernel
theorem dX2_leftWith_22 : decode cX2_leftWith 22 = .ok (.iinc 3 1, 3) := by decide +kernel
theorem dX2_leftWith_25 : decode cX2_leftWith 25 = .ok (.goto (-21), 3) := by decide +kernel
theorem dX2_leftWith_28 : decode cX2_leftWith 28 = .ok (.iload_n 2, 1) := by decide +kernel
theorem dX2_leftWith_29 : decode cX2_leftWith 29 = .ok (.ireturn, 1) := by decide +kernel
set_option maxRecDepth 20000 in
theorem ggX2_invertedPairs_X2_isInvertedPair : GoodIn wsX2_invertedPairs wsX2_isInvertedPair := goodIn_r _ [5, 6, 7, 8, 9] (by decide +kernel) (by decide +kernel)
set_option maxRecDepth 20000 in
theorem gX2_invertedPairs_X2_isInvertedPair : GoodIn wsX2_invertedPairs (wsV RX2 46 RX2 yX2_isInvertedPair wsX2_isInvertedPair) := goodIn_app (goodIn_of _ (by decide +kernel)) ggX2_invertedPairs_X2_isInvertedPair
theorem dX2_invertedPairs_0 : decode cX2_invertedPairs 0 = .ok (.iconst 0, 1) := by decide +kernel
theorem dX2_invertedPairs_1 : decode cX2_invertedPairs 1 = .ok (.istore_n 1, 1) := by decide +kernel
theorem dX2_invertedPairs_2 : decode cX2_invertedPairs 2 = .ok (.iconst 0, 1) := by decide +kernel
theorem dX2_invertedPairs_3 : decode cX2_invertedPairs 3 = .ok (.istore_n 2, 1) := by decide +kernel
theorem dX2_invertedPairs_4 : decode cX2_invertedPairs 4 = .ok (.iload_n 2, 1) := by decide +kernel
theorem dX2_invertedPairs_5 : decode cX2_invertedPairs 5 = .ok (.iconst 5, 1) := by decide +kernel
theorem dX2_invertedPairs_6 : decode cX2_invertedPairs 6 = .ok (.if_icmp .ge 38, 3) := by decide +kernel
theorem dX2_invertedPairs_9 : decode cX2_invertedPairs 9 = .ok (.iconst 0, 1) := by decide +kernel
theorem dX2_invertedPairs_10 : decode cX2_invertedPairs 10 = .ok (.istore_n 3, 1) := by decide +kernel
theorem dX2_invertedPairs_11 : decode cX2_invertedPairs 11 = .ok (.iload_n 3, 1) := by decide +kernel
theorem dX2_invertedPairs_12 : decode cX2_invertedPairs 12 = .ok (.iconst 5, 1) := by decide +kernel
theorem dX2_invertedPairs_13 : decode cX2_invertedPairs 13 = .ok (.if_icmp .ge 25, 3) := by decide +kernel
theorem dX2_invertedPairs_16 : decode cX2_invertedPairs 16 = .ok (.aload_n 0, 1) := by decide +kernel
theorem dX2_invertedPairs_17 : decode cX2_invertedPairs 17 = .ok (.bipush 6, 2) := by decide +kernel
theorem dX2_invertedPairs_19 : decode cX2_invertedPairs 19 = .ok (.iload_n 2, 1) := by decide +kernel
theorem dX2_invertedPairs_20 : decode cX2_invertedPairs 20 = .ok (.imul, 1) := by decide +kernel
theorem dX2_invertedPairs_21 : decode cX2_invertedPairs 21 = .ok (.iload_n 3, 1) := by decide +kernel
theorem dX2_invertedPairs_22 : decode cX2_invertedPairs 22 = .ok (.iadd, 1) := by decide +kernel
theorem dX2_invertedPairs_23 : decode cX2_invertedPairs 23 = .ok (.invokevirtual 46, 3) := by decide +kernel
theorem dX2_invertedPairs_26 : decode cX2_invertedPairs 26 = .ok (.ifCond .eq 6, 3) := by decide +kernel
theorem dX2_invertedPairs_29 : decode cX2_invertedPairs 29 = .ok (.iinc 1 1, 3) := by decide +kernel
theorem dX2_invertedPairs_32 : decode cX2_invertedPairs 32 = .ok (.iinc 3 1, 3) := by decide +kernel
theorem dX2_invertedPairs_35 : decode cX2_invertedPairs 35 = .ok (.goto (-24), 3) := by decide +kernel
theorem dX2_invertedPairs_38 : decode cX2_invertedPairs 38 = .ok (.iinc 2 1, 3) := by decide +kernel
theorem dX2_invertedPairs_41 : decode cX2_invertedPairs 41 = .ok (.goto (-37), 3) := by decide +kernel
theorem dX2_invertedPairs_44 : decode cX2_invertedPairs 44 = .ok (.iload_n 1, 1) := by decide +kernel
theorem dX2_invertedPairs_45 : decode cX2_invertedPairs 45 = .ok (.ireturn, 1) := by decide +kernel
theorem dX2_isInvertedPair_0 : decode cX2_isInvertedPair 0 = .ok (.iload_n 1, 1) := by decide +kernel
theorem dX2_isInvertedPair_1 : decode cX2_isInvertedPair 1 = .ok (.iconst 1, 1) := by decide +kernel
theorem dX2_isInvertedPair_2 : decode cX2_isInvertedPair 2 = .ok (.iadd, 1) := by decide +kernel
theorem dX2_isInvertedPair_3 : decode cX2_isInvertedPair 3 = .ok (.istore_n 2, 1) := by decide +kernel
theorem dX2_isInvertedPair_4 : decode cX2_isInvertedPair 4 = .ok (.aload_n 0, 1) := by decide +kernel
theorem dX2_isInvertedPair_5 : decode cX2_isInvertedPair 5 = .ok (.getfield 15, 3) := by decide +kernel
theorem dX2_isInvertedPair_8 : decode cX2_isInvertedPair 8 = .ok (.iload_n 1, 1) := by decide +kernel
theorem dX2_isInvertedPair_9 : decode cX2_isInvertedPair 9 = .ok (.baload, 1) := by decide +kernel
theorem dX2_isInvertedPair_10 : decode cX2_isInvertedPair 10 = .ok (.ifCond .ne 35, 3) := by decide +kernel
theorem dX2_isInvertedPair_13 : decode cX2_isInvertedPair 13 = .ok (.aload_n 0, 1) := by decide +kernel
theorem dX2_isInvertedPair_14 : decode cX2_isInvertedPair 14 = .ok (.getfield 15, 3) := by decide +kernel
theorem dX2_isInvertedPair_17 : decode cX2_isInvertedPair 17 = .ok (.iload_n 2, 1) := by decide +kernel
theorem dX2_isInvertedPair_18 : decode cX2_isInvertedPair 18 = .ok (.baload, 1) := by decide +kernel
theorem dX2_isInvertedPair_19 : decode cX2_isInvertedPair 19 = .ok (.ifCond .ne 26, 3) := by decide +kernel
theorem dX2_isInvertedPair_22 : decode cX2_isInvertedPair 22 = .ok (.aload_n 0, 1) := by decide +kernel
theorem dX2_isInvertedPair_23 : decode cX2_isInvertedPair 23 = .ok (.getfield 9, 3) := by decide +kernel
theorem dX2_isInvertedPair_26 : decode cX2_isInvertedPair 26 = .ok (.iload_n 1, 1) := by decide +kernel
theorem dX2_isInvertedPair_27 : decode cX2_isInvertedPair 27 = .ok (.iaload, 1) := by decide +kernel
theorem dX2_isInvertedPair_28 : decode cX2_isInvertedPair 28 = .ok (.aload_n 0, 1) := by decide +kernel
theorem dX2_isInvertedPair_29 : decode cX2_isInvertedPair 29 = .ok (.getfield 9, 3) := by decide +kernel
theorem dX2_isInvertedPair_32 : decode cX2_isInvertedPair 32 = .ok (.iload_n 2, 1) := by decide +kernel
theorem dX2_isInvertedPair_33 : decode cX2_isInvertedPair 33 = .ok (.iaload, 1) := by decide +kernel
theorem dX2_isInvertedPair_34 : decode cX2_isInvertedPair 34 = .ok (.ixor, 1) := by decide +kernel
theorem dX2_isInvertedPair_35 : decode cX2_isInvertedPair 35 = .ok (.bipush 8, 2) := by decide +kernel
theorem dX2_isInvertedPair_37 : decode cX2_isInvertedPair 37 = .ok (.iand, 1) := by decide +kernel
theorem dX2_isInvertedPair_38 : decode cX2_isInvertedPair 38 = .ok (.ifCond .eq 7, 3) := by decide +kernel
theorem dX2_isInvertedPair_41 : decode cX2_isInvertedPair 41 = .ok (.iconst 1, 1) := by decide +kernel
theorem dX2_isInvertedPair_42 : decode cX2_isInvertedPair 42 = .ok (.goto 4, 3) := by decide +kernel
theorem dX2_isInvertedPair_45 : decode cX2_isInvertedPair 45 = .ok (.iconst 0, 1) := by decide +kernel
theorem dX2_isInvertedPair_46 : decode cX2_isInvertedPair 46 = .ok (.ireturn, 1) := by decide +kernel
theorem dX2_rowsOff_0 : decode cX2_rowsOff 0 = .ok (.iconst 0, 1) := by decide +kernel
theorem dX2_rowsOff_1 : decode cX2_rowsOff 1 = .ok (.istore_n 1, 1) := by decide +kernel
theorem dX2_rowsOff_2 : decode cX2_rowsOff 2 = .ok (.iconst 0, 1) := by decide +kernel
theorem dX2_rowsOff_3 : decode cX2_rowsOff 3 = .ok (.istore_n 2, 1) := by decide +kernel
theorem dX2_rowsOff_4 : decode cX2_rowsOff 4 = .ok (.iload_n 2, 1) := by decide +kernel
theorem dX2_rowsOff_5 : decode cX2_rowsOff 5 = .ok (.iconst 5, 1) := by decide +kernel
theorem dX2_rowsOff_6 : decode cX2_rowsOff 6 = .ok (.if_icmp .ge 26, 3) := by decide +kernel
theorem dX2_rowsOff_9 : decode cX2_rowsOff 9 = .ok (.aload_n 0, 1) := by decide +kernel
theorem dX2_rowsOff_10 : decode cX2_rowsOff 10 = .ok (.getfield 9, 3) := by decide +kernel
theorem dX2_rowsOff_13 : decode cX2_rowsOff 13 = .ok (.bipush 6, 2) := by decide +kernel
theorem dX2_rowsOff_15 : decode cX2_rowsOff 15 = .ok (.iload_n 2, 1) := by decide +kernel
theorem dX2_rowsOff_16 : decode cX2_rowsOff 16 = .ok (.imul, 1) := by decide +kernel
theorem dX2_rowsOff_17 : decode cX2_rowsOff 17 = .ok (.iaload, 1) := by decide +kernel
theorem dX2_rowsOff_18 : decode cX2_rowsOff 18 = .ok (.iconst 1, 1) := by decide +kernel
theorem dX2_rowsOff_19 : decode cX2_rowsOff 19 = .ok (.iand, 1) := by decide +kernel
theorem dX2_rowsOff_20 : decode cX2_rowsOff 20 = .ok (.ifCond .eq 6, 3) := by decide +kernel
theorem dX2_rowsOff_23 : decode cX2_rowsOff 23 = .ok (.iinc 1 1, 3) := by decide +kernel
theorem dX2_rowsOff_26 : decode cX2_rowsOff 26 = .ok (.iinc 2 1, 3) := by decide +kernel
theorem dX2_rowsOff_29 : decode cX2_rowsOff 29 = .ok (.goto (-25), 3) := by decide +kernel
theorem dX2_rowsOff_32 : decode cX2_rowsOff 32 = .ok (.iload_n 1, 1) := by decide +kernel
theorem dX2_rowsOff_33 : decode cX2_rowsOff 33 = .ok (.ireturn, 1) := by decide +kernel
set_option maxRecDepth 20000 in
theorem ggX2_greatestBlock_X2_goodColumns : GoodIn wsX2_greatestBlock wsX2_goodColumns := goodIn_r _ [9, 10, 11, 12, 8, 13, 14, 15, 19, 20] (by decide +kernel) (by decide +kernel)
set_option maxRecDepth 20000 in
theorem gX2_greatestBlock_X2_goodColumns : GoodIn wsX2_greatestBlock (wsV RX2 50 RX2 yX2_goodColumns wsX2_goodColumns) := goodIn_app (goodIn_of _ (by decide +kernel)) ggX2_greatestBlock_X2_goodColumns
set_option maxRecDepth 20000 in
theorem ggX2_greatestBlock_X2_longestRun : GoodIn wsX2_greatestBlock wsX2_longestRun := goodIn_r _ [18, 1, 2, 3, 4] (by decide +kernel) (by decide +kernel)
set_option maxRecDepth 20000 in
theorem gX2_greatestBlock_X2_longestRun : GoodIn wsX2_greatestBlock (va_wsS RX2 53 yX2_longestRun wsX2_longestRun) := goodIn_app (goodIn_of _ (by decide +kernel)) ggX2_greatestBlock_X2_longestRun
end
section
theorem dX2_greatestBlock_0 : decode cX2_greatestBlock 0 = .ok (.iconst 0, 1) := by decide +kernel
theorem dX2_greatestBlock_1 : decode cX2_greatestBlock 1 = .ok (.istore_n 1, 1) := by decide +kernel
theorem dX2_greatestBlock_2 : decode cX2_greatestBlock 2 = .ok (.iconst 0, 1) := by decide +kernel
theorem dX2_greatestBlock_3 : decode cX2_greatestBlock 3 = .ok (.istore_n 2, 1) := by decide +kernel
theorem dX2_greatestBlock_4 : decode cX2_greatestBlock 4 = .ok (.iload_n 2, 1) := by decide +kernel
theorem dX2_greatestBlock_5 : decode cX2_greatestBlock 5 = .ok (.iconst 5, 1) := by decide +kernel
theorem dX2_greatestBlock_6 : decode cX2_greatestBlock 6 = .ok (.if_icmp .ge 55, 3) := by decide +kernel
theorem dX2_greatestBlock_9 : decode cX2_greatestBlock 9 = .ok (.aload_n 0, 1) := by decide +kernel
theorem dX2_greatestBlock_10 : decode cX2_greatestBlock 10 = .ok (.iload_n 2, 1) := by decide +kernel
theorem dX2_greatestBlock_11 : decode cX2_greatestBlock 11 = .ok (.invokevirtual 50, 3) := by decide +kernel
theorem dX2_greatestBlock_14 : decode cX2_greatestBlock 14 = .ok (.istore_n 3, 1) := by decide +kernel
theorem dX2_greatestBlock_15 : decode cX2_greatestBlock 15 = .ok (.iload_n 2, 1) := by decide +kernel
theorem dX2_greatestBlock_16 : decode cX2_greatestBlock 16 = .ok (.istore 4, 2) := by decide +kernel
theorem dX2_greatestBlock_18 : decode cX2_greatestBlock 18 = .ok (.iload 4, 2) := by decide +kernel
theorem dX2_greatestBlock_20 : decode cX2_greatestBlock 20 = .ok (.iconst 5, 1) := by decide +kernel
theorem dX2_greatestBlock_21 : decode cX2_greatestBlock 21 = .ok (.if_icmp .ge 34, 3) := by decide +kernel
theorem dX2_greatestBlock_24 : decode cX2_greatestBlock 24 = .ok (.iload_n 3, 1) := by decide +kernel
theorem dX2_greatestBlock_25 : decode cX2_greatestBlock 25 = .ok (.aload_n 0, 1) := by decide +kernel
theorem dX2_greatestBlock_26 : decode cX2_greatestBlock 26 = .ok (.iload 4, 2) := by decide +kernel
theorem dX2_greatestBlock_28 : decode cX2_greatestBlock 28 = .ok (.invokevirtual 50, 3) := by decide +kernel
theorem dX2_greatestBlock_31 : decode cX2_greatestBlock 31 = .ok (.iand, 1) := by decide +kernel
theorem dX2_greatestBlock_32 : decode cX2_greatestBlock 32 = .ok (.istore_n 3, 1) := by decide +kernel
theorem dX2_greatestBlock_33 : decode cX2_greatestBlock 33 = .ok (.iload_n 1, 1) := by decide +kernel
theorem dX2_greatestBlock_34 : decode cX2_greatestBlock 34 = .ok (.iload 4, 2) := by decide +kernel
theorem dX2_greatestBlock_36 : decode cX2_greatestBlock 36 = .ok (.iload_n 2, 1) := by decide +kernel
theorem dX2_greatestBlock_37 : decode cX2_greatestBlock 37 = .ok (.isub, 1) := by decide +kernel
theorem dX2_greatestBlock_38 : decode cX2_greatestBlock 38 = .ok (.iconst 1, 1) := by decide +kernel
theorem dX2_greatestBlock_39 : decode cX2_greatestBlock 39 = .ok (.iadd, 1) := by decide +kernel
theorem dX2_greatestBlock_40 : decode cX2_greatestBlock 40 = .ok (.iload_n 3, 1) := by decide +kernel
theorem dX2_greatestBlock_41 : decode cX2_greatestBlock 41 = .ok (.invokestatic 53, 3) := by decide +kernel
theorem dX2_greatestBlock_44 : decode cX2_greatestBlock 44 = .ok (.imul, 1) := by decide +kernel
theorem dX2_greatestBlock_45 : decode cX2_greatestBlock 45 = .ok (.invokestatic 56, 3) := by decide +kernel
theorem dX2_greatestBlock_48 : decode cX2_greatestBlock 48 = .ok (.istore_n 1, 1) := by decide +kernel
theorem dX2_greatestBlock_49 : decode cX2_greatestBlock 49 = .ok (.iinc 4 1, 3) := by decide +kernel
theorem dX2_greatestBlock_52 : decode cX2_greatestBlock 52 = .ok (.goto (-34), 3) := by decide +kernel
theorem dX2_greatestBlock_55 : decode cX2_greatestBlock 55 = .ok (.iinc 2 1, 3) := by decide +kernel
theorem dX2_greatestBlock_58 : decode cX2_greatestBlock 58 = .ok (.goto (-54), 3) := by decide +kernel
theorem dX2_greatestBlock_61 : decode cX2_greatestBlock 61 = .ok (.iload_n 1, 1) := by decide +kernel
theorem dX2_greatestBlock_62 : decode cX2_greatestBlock 62 = .ok (.ireturn, 1) := by decide +kernel
set_option maxRecDepth 20000 in
theorem ggX2_goodColumns_X2_isLeftWith : GoodIn wsX2_goodColumns wsX2_isLeftWith := goodIn_r _ [5, 6, 7, 8, 9] (by decide +kernel) (by decide +kernel)
set_option maxRecDepth 20000 in
theorem gX2_goodColumns_X2_isLeftWith : GoodIn wsX2_goodColumns (wsV RX2 42 RX2 yX2_isLeftWith wsX2_isLeftWith) := goodIn_app (goodIn_of _ (by decide +kernel)) ggX2_goodColumns_X2_isLeftWith
theorem dX2_goodColumns_0 : decode cX2_goodColumns 0 = .ok (.iconst 0, 1) := by decide +kernel
theorem dX2_goodColumns_1 : decode cX2_goodColumns 1 = .ok (.istore_n 2, 1) := by decide +kernel
theorem dX2_goodColumns_2 : decode cX2_goodColumns 2 = .ok (.iconst 0, 1) := by decide +kernel
theorem dX2_goodColumns_3 : decode cX2_goodColumns 3 = .ok (.istore_n 3, 1) := by decide +kernel
theorem dX2_goodColumns_4 : decode cX2_goodColumns 4 = .ok (.iload_n 3, 1) := by decide +kernel
theorem dX2_goodColumns_5 : decode cX2_goodColumns 5 = .ok (.bipush 6, 2) := by decide +kernel
theorem dX2_goodColumns_7 : decode cX2_goodColumns 7 = .ok (.if_icmp .ge 29, 3) := by decide +kernel
theorem dX2_goodColumns_10 : decode cX2_goodColumns 10 = .ok (.aload_n 0, 1) := by decide +kernel
theorem dX2_goodColumns_11 : decode cX2_goodColumns 11 = .ok (.bipush 6, 2) := by decide +kernel
theorem dX2_goodColumns_13 : decode cX2_goodColumns 13 = .ok (.iload_n 1, 1) := by decide +kernel
theorem dX2_goodColumns_14 : decode cX2_goodColumns 14 = .ok (.imul, 1) := by decide +kernel
theorem dX2_goodColumns_15 : decode cX2_goodColumns 15 = .ok (.iload_n 3, 1) := by decide +kernel
theorem dX2_goodColumns_16 : decode cX2_goodColumns 16 = .ok (.iadd, 1) := by decide +kernel
theorem dX2_goodColumns_17 : decode cX2_goodColumns 17 = .ok (.iconst 0, 1) := by decide +kernel
theorem dX2_goodColumns_18 : decode cX2_goodColumns 18 = .ok (.invokevirtual 42, 3) := by decide +kernel
theorem dX2_goodColumns_21 : decode cX2_goodColumns 21 = .ok (.ifCond .eq 9, 3) := by decide +kernel
theorem dX2_goodColumns_24 : decode cX2_goodColumns 24 = .ok (.iload_n 2, 1) := by decide +kernel
theorem dX2_goodColumns_25 : decode cX2_goodColumns 25 = .ok (.iconst 1, 1) := by decide +kernel
theorem dX2_goodColumns_26 : decode cX2_goodColumns 26 = .ok (.iload_n 3, 1) := by decide +kernel
theorem dX2_goodColumns_27 : decode cX2_goodColumns 27 = .ok (.ishl, 1) := by decide +kernel
theorem dX2_goodColumns_28 : decode cX2_goodColumns 28 = .ok (.ior, 1) := by decide +kernel
theorem dX2_goodColumns_29 : decode cX2_goodColumns 29 = .ok (.istore_n 2, 1) := by decide +kernel
theorem dX2_goodColumns_30 : decode cX2_goodColumns 30 = .ok (.iinc 3 1, 3) := by decide +kernel
theorem dX2_goodColumns_33 : decode cX2_goodColumns 33 = .ok (.goto (-29), 3) := by decide +kernel
theorem dX2_goodColumns_36 : decode cX2_goodColumns 36 = .ok (.iload_n 2, 1) := by decide +kernel
theorem dX2_goodColumns_37 : decode cX2_goodColumns 37 = .ok (.ireturn, 1) := by decide +kernel
theorem dX2_longestRun_0 : decode cX2_longestRun 0 = .ok (.iconst 0, 1) := by decide +kernel
theorem dX2_longestRun_1 : decode cX2_longestRun 1 = .ok (.istore_n 1, 1) := by decide +kernel
theorem dX2_longestRun_2 : decode cX2_longestRun 2 = .ok (.iconst 0, 1) := by decide +kernel
theorem dX2_longestRun_3 : decode cX2_longestRun 3 = .ok (.istore_n 2, 1) := by decide +kernel
theorem dX2_longestRun_4 : decode cX2_longestRun 4 = .ok (.iconst 0, 1) := by decide +kernel
theorem dX2_longestRun_5 : decode cX2_longestRun 5 = .ok (.istore_n 3, 1) := by decide +kernel
theorem dX2_longestRun_6 : decode cX2_longestRun 6 = .ok (.iload_n 3, 1) := by decide +kernel
theorem dX2_longestRun_7 : decode cX2_longestRun 7 = .ok (.bipush 6, 2) := by decide +kernel
theorem dX2_longestRun_9 : decode cX2_longestRun 9 = .ok (.if_icmp .ge 31, 3) := by decide +kernel
theorem dX2_longestRun_12 : decode cX2_longestRun 12 = .ok (.iload_n 0, 1) := by decide +kernel
theorem dX2_longestRun_13 : decode cX2_longestRun 13 = .ok (.iconst 1, 1) := by decide +kernel
theorem dX2_longestRun_14 : decode cX2_longestRun 14 = .ok (.iload_n 3, 1) := by decide +kernel
theorem dX2_longestRun_15 : decode cX2_longestRun 15 = .ok (.ishl, 1) := by decide +kernel
theorem dX2_longestRun_16 : decode cX2_longestRun 16 = .ok (.iand, 1) := by decide +kernel
theorem dX2_longestRun_17 : decode cX2_longestRun 17 = .ok (.ifCond .eq 9, 3) := by decide +kernel
theorem dX2_longestRun_20 : decode cX2_longestRun 20 = .ok (.iload_n 2, 1) := by decide +kernel
theorem dX2_longestRun_21 : decode cX2_longestRun 21 = .ok (.iconst 1, 1) := by decide +kernel
theorem dX2_longestRun_22 : decode cX2_longestRun 22 = .ok (.iadd, 1) := by decide +kernel
theorem dX2_longestRun_23 : decode cX2_longestRun 23 = .ok (.goto 4, 3) := by decide +kernel
theorem dX2_longestRun_26 : decode cX2_longestRun 26 = .ok (.iconst 0, 1) := by decide +kernel
theorem dX2_longestRun_27 : decode cX2_longestRun 27 = .ok (.istore_n 2, 1) := by decide +kernel
theorem dX2_longestRun_28 : decode cX2_longestRun 28 = .ok (.iload_n 1, 1) := by decide +kernel
theorem dX2_longestRun_29 : decode cX2_longestRun 29 = .ok (.iload_n 2, 1) := by decide +kernel
theorem dX2_longestRun_30 : decode cX2_longestRun 30 = .ok (.invokestatic 56, 3) := by decide +kernel
theorem dX2_longestRun_33 : decode cX2_longestRun 33 = .ok (.istore_n 1, 1) := by decide +kernel
theorem dX2_longestRun_34 : decode cX2_longestRun 34 = .ok (.iinc 3 1, 3) := by decide +kernel
theorem dX2_longestRun_37 : decode cX2_longestRun 37 = .ok (.goto (-31), 3) := by decide +kernel
theorem dX2_longestRun_40 : decode cX2_longestRun 40 = .ok (.iload_n 1, 1) := by decide +kernel
theorem dX2_longestRun_41 : decode cX2_longestRun 41 = .ok (.ireturn, 1) := by decide +kernel
set_option maxRecDepth 20000 in
theorem ggX3_init_X0_init : GoodIn wsX3_init wsX0_init := goodIn_r _ [14, 15, 2, 3, 16, 17, 18, 19, 20, 21, 22, 23, 24, 25, 34, 35, 36, 37, 38, 39, 40, 47, 48] (by decide +kernel) (by decide +kernel)
set_option maxRecDepth 20000 in
theorem gX3_init_X0_init : GoodIn wsX3_init (wsX0_init) := ggX3_init_X0_init
set_option maxRecDepth 20000 in
theorem ggX3_init_X2_init : GoodIn wsX3_init wsX2_init := goodIn_r _ [28, 29, 2, 3, 30, 31, 32, 33, 45, 46] (by decide +kernel) (by decide +kernel)
set_option maxRecDepth 20000 in
theorem gX3_init_X2_init : GoodIn wsX3_init (wsX2_init) := ggX3_init_X2_init
theorem dX3_init_0 : decode cX3_init 0 = .ok (.aload_n 0, 1) := by decide +kernel
theorem dX3_init_1 : decode cX3_init 1 = .ok (.invokespecial 1, 3) := by decide +kernel
theorem dX3_init_4 : decode cX3_init 4 = .ok (.aload_n 0, 1) := by decide +kernel
theorem dX3_init_5 : decode cX3_init 5 = .ok (.new 7, 3) := by decide +kernel
theorem dX3_init_8 : decode cX3_init 8 = .ok (.dup, 1) := by decide +kernel
theorem dX3_init_9 : decode cX3_init 9 = .ok (.invokespecial 9, 3) := by decide +kernel
theorem dX3_init_12 : decode cX3_init 12 = .ok (.putfield 10, 3) := by decide +kernel
theorem dX3_init_15 : decode cX3_init 15 = .ok (.aload_n 0, 1) := by decide +kernel
theorem dX3_init_16 : decode cX3_init 16 = .ok (.new 16, 3) := by decide +kernel
theorem dX3_init_19 : decode cX3_init 19 = .ok (.dup, 1) := by decide +kernel
theorem dX3_init_20 : decode cX3_init 20 = .ok (.invokespecial 18, 3) := by decide +kernel
theorem dX3_init_23 : decode cX3_init 23 = .ok (.putfield 19, 3) := by decide +kernel
theorem dX3_init_26 : decode cX3_init 26 = .ok (.return_, 1) := by decide +kernel
set_option maxRecDepth 20000 in
theorem ggX3_perforateFrom_X0_becomeLike : GoodIn wsX3_perforateFrom wsX0_becomeLike := goodIn_r _ [9, 10, 11, 12, 13, 14, 15, 16, 17, 18, 19, 20, 21, 22, 23, 86, 87, 88, 89, 90, 91, 92, 93, 94] (by decide +kernel) (by decide +kernel)
set_option maxRecDepth 20000 in
theorem gX3_perforateFrom_X0_becomeLike : GoodIn wsX3_perforateFrom (wsV RX3 23 RX0 yX0_becomeLike wsX0_becomeLike) := goodIn_app (goodIn_of _ (by decide +kernel)) ggX3_perforateFrom_X0_becomeLike
set_option maxRecDepth 20000 in
theorem ggX3_perforateFrom_X0_perforate : GoodIn wsX3_perforateFrom wsX0_perforate := goodIn_r _ [27, 13, 11, 14, 15, 12, 28, 29, 30, 31, 32, 33, 34, 35, 36, 37, 8, 38, 39, 40, 41, 42, 43, 44, 45, 10, 46, 47, 48, 20, 49, 23, 22, 50, 51, 52, 53, 16, 54, 55, 56, 57, 58, 59, 60, 61, 62, 86, 87, 88, 89, 90, 91, 92, 95, 96, 93, 94] (by decide +kernel) (by decide +kernel)
set_option maxRecDepth 20000 in
theorem gX3_perforateFrom_X0_perforate : GoodIn wsX3_perforateFrom (wsV RX3 37 RX0 yX0_perforate wsX0_perforate) := goodIn_app (goodIn_of _ (by decide +kernel)) ggX3_perforateFrom_X0_perforate
set_option maxRecDepth 20000 in
theorem ggX3_perforateFrom_X2_leftWith : GoodIn wsX3_perforateFrom wsX2_leftWith := goodIn_r _ [67, 68, 69, 70, 66, 71, 72, 73, 95, 96] (by decide +kernel) (by decide +kernel)
set_option maxRecDepth 20000 in
theorem gX3_perforateFrom_X2_leftWith : GoodIn wsX3_perforateFrom (wsV RX3 41 RX2 yX2_leftWith wsX2_leftWith) := goodIn_app (goodIn_of _ (by decide +kernel)) ggX3_perforateFrom_X2_leftWith
set_option maxRecDepth 20000 in
theorem ggX3_perforateFrom_X2_worth : GoodIn wsX3_perforateFrom wsX2_worth := goodIn_r _ [77, 78, 79, 80, 66, 81, 73, 72, 95, 96] (by decide +kernel) (by decide +kernel)
set_option maxRecDepth 20000 in
theorem gX3_perforateFrom_X2_worth : GoodIn wsX3_perforateFrom (wsV RX3 45 RX2 yX2_worth wsX2_worth) := goodIn_app (goodIn_of _ (by decide +kernel)) ggX3_perforateFrom_X2_worth
theorem dX3_perforateFrom_0 : decode cX3_perforateFrom 0 = .ok (.aload_n 0, 1) := by decide +kernel
theorem dX3_perforateFrom_1 : decode cX3_perforateFrom 1 = .ok (.getfield 10, 3) := by decide +kernel
theorem dX3_perforateFrom_4 : decode cX3_perforateFrom 4 = .ok (.aload_n 1, 1) := by decide +kernel
theorem dX3_perforateFrom_5 : decode cX3_perforateFrom 5 = .ok (.invokevirtual 23, 3) := by decide +kernel
theorem dX3_perforateFrom_8 : decode cX3_perforateFrom 8 = .ok (.aload_n 0, 1) := by decide +kernel
theorem dX3_perforateFrom_9 : decode cX3_perforateFrom 9 = .ok (.getfield 10, 3) := by decide +kernel
theorem dX3_perforateFrom_12 : decode cX3_perforateFrom 12 = .ok (.iload_n 2, 1) := by decide +kernel
theorem dX3_perforateFrom_13 : decode cX3_perforateFrom 13 = .ok (.putfield 27, 3) := by decide +kernel
theorem dX3_perforateFrom_16 : decode cX3_perforateFrom 16 = .ok (.aload_n 0, 1) := by decide +kernel
theorem dX3_perforateFrom_17 : decode cX3_perforateFrom 17 = .ok (.iconst 0, 1) := by decide +kernel
theorem dX3_perforateFrom_18 : decode cX3_perforateFrom 18 = .ok (.putfield 31, 3) := by decide +kernel
theorem dX3_perforateFrom_21 : decode cX3_perforateFrom 21 = .ok (.aload_n 0, 1) := by decide +kernel
theorem dX3_perforateFrom_22 : decode cX3_perforateFrom 22 = .ok (.iconst 0, 1) := by decide +kernel
theorem dX3_perforateFrom_23 : decode cX3_perforateFrom 23 = .ok (.putfield 34, 3) := by decide +kernel
theorem dX3_perforateFrom_26 : decode cX3_perforateFrom 26 = .ok (.iconst 0, 1) := by decide +kernel
theorem dX3_perforateFrom_27 : decode cX3_perforateFrom 27 = .ok (.istore 5, 2) := by decide +kernel
theorem dX3_perforateFrom_29 : decode cX3_perforateFrom 29 = .ok (.iload 5, 2) := by decide +kernel
theorem dX3_perforateFrom_31 : decode cX3_perforateFrom 31 = .ok (.iload 4, 2) := by decide +kernel
theorem dX3_perforateFrom_33 : decode cX3_perforateFrom 33 = .ok (.if_icmp .ge 54, 3) := by decide +kernel
theorem dX3_perforateFrom_36 : decode cX3_perforateFrom 36 = .ok (.aload_n 0, 1) := by decide +kernel
theorem dX3_perforateFrom_37 : decode cX3_perforateFrom 37 = .ok (.getfield 10, 3) := by decide +kernel
theorem dX3_perforateFrom_40 : decode cX3_perforateFrom 40 = .ok (.aload_n 3, 1) := by decide +kernel
theorem dX3_perforateFrom_41 : decode cX3_perforateFrom 41 = .ok (.aload_n 0, 1) := by decide +kernel
theorem dX3_perforateFrom_42 : decode cX3_perforateFrom 42 = .ok (.getfield 19, 3) := by decide +kernel
theorem dX3_perforateFrom_45 : decode cX3_perforateFrom 45 = .ok (.invokevirtual 37, 3) := by decide +kernel
theorem dX3_perforateFrom_48 : decode cX3_perforateFrom 48 = .ok (.aload_n 0, 1) := by decide +kernel
theorem dX3_perforateFrom_49 : decode cX3_perforateFrom 49 = .ok (.dup, 1) := by decide +kernel
theorem dX3_perforateFrom_50 : decode cX3_perforateFrom 50 = .ok (.getfield 31, 3) := by decide +kernel
theorem dX3_perforateFrom_53 : decode cX3_perforateFrom 53 = .ok (.aload_n 0, 1) := by decide +kernel
theorem dX3_perforateFrom_54 : decode cX3_perforateFrom 54 = .ok (.getfield 19, 3) := by decide +kernel
theorem dX3_perforateFrom_57 : decode cX3_perforateFrom 57 = .ok (.iconst 0, 1) := by decide +kernel
theorem dX3_perforateFrom_58 : decode cX3_perforateFrom 58 = .ok (.invokevirtual 41, 3) := by decide +kernel
theorem dX3_perforateFrom_61 : decode cX3_perforateFrom 61 = .ok (.iadd, 1) := by decide +kernel
theorem dX3_perforateFrom_62 : decode cX3_perforateFrom 62 = .ok (.putfield 31, 3) := by decide +kernel
theorem dX3_perforateFrom_65 : decode cX3_perforateFrom 65 = .ok (.aload_n 0, 1) := by decide +kernel
theorem dX3_perforateFrom_66 : decode cX3_perforateFrom 66 = .ok (.dup, 1) := by decide +kernel
theorem dX3_perforateFrom_67 : decode cX3_perforateFrom 67 = .ok (.getfield 34, 3) := by decide +kernel
theorem dX3_perforateFrom_70 : decode cX3_perforateFrom 70 = .ok (.aload_n 0, 1) := by decide +kernel
theorem dX3_perforateFrom_71 : decode cX3_perforateFrom 71 = .ok (.getfield 19, 3) := by decide +kernel
theorem dX3_perforateFrom_74 : decode cX3_perforateFrom 74 = .ok (.invokevirtual 45, 3) := by decide +kernel
theorem dX3_perforateFrom_77 : decode cX3_perforateFrom 77 = .ok (.iadd, 1) := by decide +kernel
theorem dX3_perforateFrom_78 : decode cX3_perforateFrom 78 = .ok (.putfield 34, 3) := by decide +kernel
theorem dX3_perforateFrom_81 : decode cX3_perforateFrom 81 = .ok (.iinc 5 1, 3) := by decide +kernel
theorem dX3_perforateFrom_84 : decode cX3_perforateFrom 84 = .ok (.goto (-55), 3) := by decide +kernel
theorem dX3_perforateFrom_87 : decode cX3_perforateFrom 87 = .ok (.return_, 1) := by decide +kernel
set_option maxRecDepth 20000 in
theorem ggX3_answer_X0_brokenPins : GoodIn wsX3_answer wsX0_brokenPins := goodIn_r _ [8, 9, 10, 11, 12, 13, 14, 15, 16, 21, 22, 23, 24, 25, 26, 27, 28, 29] (by decide +kernel) (by decide +kernel)
set_option maxRecDepth 20000 in
theorem gX3_answer_X0_brokenPins : GoodIn wsX3_answer (wsV RX3 48 RX0 yX0_brokenPins wsX0_brokenPins) := goodIn_app (goodIn_of _ (by decide +kernel)) ggX3_answer_X0_brokenPins
theorem dX3_answer_0 : decode cX3_answer 0 = .ok (.iload_n 1, 1) := by decide +kernel
theorem dX3_answer_1 : decode cX3_answer 1 = .ok (.tableswitch 45 0 2 #[27, 32, 37], 27) := by decide +kernel
theorem dX3_answer_28 : decode cX3_answer 28 = .ok (.aload_n 0, 1) := by decide +kernel
theorem dX3_answer_29 : decode cX3_answer 29 = .ok (.getfield 31, 3) := by decide +kernel
theorem dX3_answer_32 : decode cX3_answer 32 = .ok (.ireturn, 1) := by decide +kernel
theorem dX3_answer_33 : decode cX3_answer 33 = .ok (.aload_n 0, 1) := by decide +kernel
theorem dX3_answer_34 : decode cX3_answer 34 = .ok (.getfield 34, 3) := by decide +kernel
theorem dX3_answer_37 : decode cX3_answer 37 = .ok (.ireturn, 1) := by decide +kernel
theorem dX3_answer_38 : decode cX3_answer 38 = .ok (.aload_n 0, 1) := by decide +kernel
theorem dX3_answer_39 : decode cX3_answer 39 = .ok (.getfield 10, 3) := by decide +kernel
theorem dX3_answer_42 : decode cX3_answer 42 = .ok (.invokevirtual 48, 3) := by decide +kernel
theorem dX3_answer_45 : decode cX3_answer 45 = .ok (.ireturn, 1) := by decide +kernel
theorem dX3_answer_46 : decode cX3_answer 46 = .ok (.aload_n 0, 1) := by decide +kernel
theorem dX3_answer_47 : decode cX3_answer 47 = .ok (.getfield 10, 3) := by decide +kernel
theorem dX3_answer_50 : decode cX3_answer 50 = .ok (.getfield 51, 3) := by decide +kernel
theorem dX3_answer_53 : decode cX3_answer 53 = .ok (.ireturn, 1) := by decide +kernel
set_option maxRecDepth 20000 in
theorem ggX4_init_X0_init : GoodIn wsX4_init wsX0_init := goodIn_r _ [20, 21, 2, 3, 22, 23, 24, 25, 26, 27, 28, 29, 30, 31, 49, 50, 51, 52, 53, 54, 55, 67, 68] (by decide +kernel) (by decide +kernel)
set_option maxRecDepth 20000 in
theorem gX4_init_X0_init : GoodIn wsX4_init (wsX0_init) := ggX4_init_X0_init
set_option maxRecDepth 20000 in
theorem ggX4_init_X3_init : GoodIn wsX4_init wsX3_init := goodIn_r _ [34, 35, 2, 3, 36, 5, 6, 37, 38, 16, 17, 39, 40, 19, 20, 21, 22, 23, 24, 25, 26, 27, 28, 29, 30, 31, 41, 42, 43, 44, 45, 46, 12, 47, 49, 50, 51, 52, 53, 54, 55, 61, 62, 63, 64, 65, 66, 67, 68] (by decide +kernel) (by decide +kernel)
set_option maxRecDepth 20000 in
theorem gX4_init_X3_init : GoodIn wsX4_init (wsX3_init) := ggX4_init_X3_init
set_option maxRecDepth 20000 in
theorem ggX4_init_X2_init : GoodIn wsX4_init wsX2_init := goodIn_r _ [43, 44, 2, 3, 45, 46, 12, 47, 65, 66] (by decide +kernel) (by decide +kernel)
set_option maxRecDepth 20000 in
theorem gX4_init_X2_init : GoodIn wsX4_init (wsX2_init) := ggX4_init_X2_init
theorem dX4_init_0 : decode cX4_init 0 = .ok (.aload_n 0, 1) := by decide +kernel
theorem dX4_init_1 : decode cX4_init 1 = .ok (.invokespecial 3, 3) := by decide +kernel
theorem dX4_init_4 : decode cX4_init 4 = .ok (.aload_n 0, 1) := by decide +kernel
theorem dX4_init_5 : decode cX4_init 5 = .ok (.new 9, 3) := by decide +kernel
theorem dX4_init_8 : decode cX4_init 8 = .ok (.dup, 1) := by decide +kernel
theorem dX4_init_9 : decode cX4_init 9 = .ok (.invokespecial 11, 3) := by decide +kernel
theorem dX4_init_12 : decode cX4_init 12 = .ok (.putfield 12, 3) := by decide +kernel
theorem dX4_init_15 : decode cX4_init 15 = .ok (.aload_n 0, 1) := by decide +kernel
theorem dX4_init_16 : decode cX4_init 16 = .ok (.new 16, 3) := by decide +kernel
theorem dX4_init_19 : decode cX4_init 19 = .ok (.dup, 1) := by decide +kernel
theorem dX4_init_20 : decode cX4_init 20 = .ok (.invokespecial 18, 3) := by decide +kernel
theorem dX4_init_23 : decode cX4_init 23 = .ok (.putfield 19, 3) := by decide +kernel
theorem dX4_init_26 : decode cX4_init 26 = .ok (.aload_n 0, 1) := by decide +kernel
theorem dX4_init_27 : decode cX4_init 27 = .ok (.bipush 30, 2) := by decide +kernel
theorem dX4_init_29 : decode cX4_init 29 = .ok (.newarray .boolean, 2) := by decide +kernel
theorem dX4_init_31 : decode cX4_init 31 = .ok (.putfield 23, 3) := by decide +kernel
theorem dX4_init_34 : decode cX4_init 34 = .ok (.aload_n 0, 1) := by decide +kernel
theorem dX4_init_35 : decode cX4_init 35 = .ok (.bipush 20, 2) := by decide +kernel
theorem dX4_init_37 : decode cX4_init 37 = .ok (.anewarray 27, 3) := by decide +kernel
theorem dX4_init_40 : decode cX4_init 40 = .ok (.putfield 29, 3) := by decide +kernel
theorem dX4_init_43 : decode cX4_init 43 = .ok (.iconst 0, 1) := by decide +kernel
theorem dX4_init_44 : decode cX4_init 44 = .ok (.istore_n 1, 1) := by decide +kernel
theorem dX4_init_45 : decode cX4_init 45 = .ok (.iload_n 1, 1) := by decide +kernel
theorem dX4_init_46 : decode cX4_init 46 = .ok (.bipush 20, 2) := by decide +kernel
theorem dX4_init_48 : decode cX4_init 48 = .ok (.if_icmp .ge 22, 3) := by decide +kernel
theorem dX4_init_51 : decode cX4_init 51 = .ok (.aload_n 0, 1) := by decide +kernel
theorem dX4_init_52 : decode cX4_init 52 = .ok (.getfield 29, 3) := by decide +kernel
theorem dX4_init_55 : decode cX4_init 55 = .ok (.iload_n 1, 1) := by decide +kernel
theorem dX4_init_56 : decode cX4_init 56 = .ok (.new 27, 3) := by decide +kernel
theorem dX4_init_59 : decode cX4_init 59 = .ok (.dup, 1) := by decide +kernel
theorem dX4_init_60 : decode cX4_init 60 = .ok (.invokespecial 33, 3) := by decide +kernel
theorem dX4_init_63 : decode cX4_init 63 = .ok (.aastore, 1) := by decide +kernel
theorem dX4_init_64 : decode cX4_init 64 = .ok (.iinc 1 1, 3) := by decide +kernel
theorem dX4_init_67 : decode cX4_init 67 = .ok (.goto (-22), 3) := by decide +kernel
theorem dX4_init_70 : decode cX4_init 70 = .ok (.return_, 1) := by decide +kernel
set_option maxRecDepth 20000 in
theorem ggX4_setFeed_X4_isWithin : GoodIn wsX4_setFeed wsX4_isWithin := goodIn_r _ [7] (by decide +kernel) (by decide +kernel)
set_option maxRecDepth 20000 in
theorem gX4_setFeed_X4_isWithin : GoodIn wsX4_setFeed (va_wsS RX4 34 yX4_isWithin wsX4_isWithin) := goodIn_app (goodIn_of _ (by decide +kernel)) ggX4_setFeed_X4_isWithin
theorem dX4_setFeed_0 : decode cX4_setFeed 0 = .ok (.iload_n 1, 1) := by decide +kernel
theorem dX4_setFeed_1 : decode cX4_setFeed 1 = .ok (.bipush 10, 2) := by decide +kernel
theorem dX4_setFeed_3 : decode cX4_setFeed 3 = .ok (.bipush 30, 2) := by decide +kernel
theorem dX4_setFeed_5 : decode cX4_setFeed 5 = .ok (.invokestatic 34, 3) := by decide +kernel
theorem dX4_setFeed_8 : decode cX4_setFeed 8 = .ok (.ifCond .eq 14, 3) := by decide +kernel
theorem dX4_setFeed_11 : decode cX4_setFeed 11 = .ok (.iload_n 2, 1) := by decide +kernel
theorem dX4_setFeed_12 : decode cX4_setFeed 12 = .ok (.bipush (-9), 2) := by decide +kernel
theorem dX4_setFeed_14 : decode cX4_setFeed 14 = .ok (.bipush 9, 2) := by decide +kernel
theorem dX4_setFeed_16 : decode cX4_setFeed 16 = .ok (.invokestatic 34, 3) := by decide +kernel
theorem dX4_setFeed_19 : decode cX4_setFeed 19 = .ok (.ifCond .ne 13, 3) := by decide +kernel
theorem dX4_setFeed_22 : decode cX4_setFeed 22 = .ok (.new 38, 3) := by decide +kernel
theorem dX4_setFeed_25 : decode cX4_setFeed 25 = .ok (.dup, 1) := by decide +kernel
theorem dX4_setFeed_26 : decode cX4_setFeed 26 = .ok (.ldc 40, 2) := by decide +kernel
theorem dX4_setFeed_28 : decode cX4_setFeed 28 = .ok (.invokespecial 42, 3) := by decide +kernel
theorem dX4_setFeed_31 : decode cX4_setFeed 31 = .ok (.athrow, 1) := by decide +kernel
theorem dX4_setFeed_32 : decode cX4_setFeed 32 = .ok (.bipush 100, 2) := by decide +kernel
theorem dX4_setFeed_34 : decode cX4_setFeed 34 = .ok (.aload_n 0, 1) := by decide +kernel
theorem dX4_setFeed_35 : decode cX4_setFeed 35 = .ok (.getfield 12, 3) := by decide +kernel
theorem dX4_setFeed_38 : decode cX4_setFeed 38 = .ok (.getfield 45, 3) := by decide +kernel
theorem dX4_setFeed_41 : decode cX4_setFeed 41 = .ok (.imul, 1) := by decide +kernel
theorem dX4_setFeed_42 : decode cX4_setFeed 42 = .ok (.aload_n 0, 1) := by decide +kernel
theorem dX4_setFeed_43 : decode cX4_setFeed 43 = .ok (.getfield 12, 3) := by decide +kernel
theorem dX4_setFeed_46 : decode cX4_setFeed 46 = .ok (.getfield 49, 3) := by decide +kernel
theorem dX4_setFeed_49 : decode cX4_setFeed 49 = .ok (.iadd, 1) := by decide +kernel
theorem dX4_setFeed_50 : decode cX4_setFeed 50 = .ok (.istore_n 3, 1) := by decide +kernel
theorem dX4_setFeed_51 : decode cX4_setFeed 51 = .ok (.aload_n 0, 1) := by decide +kernel
theorem dX4_setFeed_52 : decode cX4_setFeed 52 = .ok (.getfield 12, 3) := by decide +kernel
theorem dX4_setFeed_55 : decode cX4_setFeed 55 = .ok (.iload_n 1, 1) := by decide +kernel
theorem dX4_setFeed_56 : decode cX4_setFeed 56 = .ok (.putfield 45, 3) := by decide +kernel
theorem dX4_setFeed_59 : decode cX4_setFeed 59 = .ok (.aload_n 0, 1) := by decide +kernel
theorem dX4_setFeed_60 : decode cX4_setFeed 60 = .ok (.getfield 12, 3) := by decide +kernel
theorem dX4_setFeed_63 : decode cX4_setFeed 63 = .ok (.iload_n 2, 1) := by decide +kernel
theorem dX4_setFeed_64 : decode cX4_setFeed 64 = .ok (.putfield 49, 3) := by decide +kernel
theorem dX4_setFeed_67 : decode cX4_setFeed 67 = .ok (.iload_n 3, 1) := by decide +kernel
theorem dX4_setFeed_68 : decode cX4_setFeed 68 = .ok (.ireturn, 1) := by decide +kernel
theorem dX4_align_0 : decode cX4_align 0 = .ok (.aload_n 0, 1) := by decide +kernel
theorem dX4_align_1 : decode cX4_align 1 = .ok (.getfield 12, 3) := by decide +kernel
theorem dX4_align_4 : decode cX4_align 4 = .ok (.getfield 52, 3) := by decide +kernel
theorem dX4_align_7 : decode cX4_align 7 = .ok (.istore_n 1, 1) := by decide +kernel
theorem dX4_align_8 : decode cX4_align 8 = .ok (.aload_n 0, 1) := by decide +kernel
theorem dX4_align_9 : decode cX4_align 9 = .ok (.getfield 12, 3) := by decide +kernel
theorem dX4_align_12 : decode cX4_align 12 = .ok (.iconst 0, 1) := by decide +kernel
theorem dX4_align_13 : decode cX4_align 13 = .ok (.putfield 52, 3) := by decide +kernel
theorem dX4_align_16 : decode cX4_align 16 = .ok (.iload_n 1, 1) := by decide +kernel
theorem dX4_align_17 : decode cX4_align 17 = .ok (.ireturn, 1) := by decide +kernel
set_option maxRecDepth 20000 in
theorem ggX4_roll_X4_isWithin : GoodIn wsX4_roll wsX4_isWithin := goodIn_r _ [7] (by decide +kernel) (by decide +kernel)
set_option maxRecDepth 20000 in
theorem gX4_roll_X4_isWithin : GoodIn wsX4_roll (va_wsS RX4 34 yX4_isWithin wsX4_isWithin) := goodIn_app (goodIn_of _ (by decide +kernel)) ggX4_roll_X4_isWithin
theorem dX4_roll_0 : decode cX4_roll 0 = .ok (.iload_n 1, 1) := by decide +kernel
theorem dX4_roll_1 : decode cX4_roll 1 = .ok (.iconst 1, 1) := by decide +kernel
theorem dX4_roll_2 : decode cX4_roll 2 = .ok (.sipush 400, 3) := by decide +kernel
theorem dX4_roll_5 : decode cX4_roll 5 = .ok (.invokestatic 34, 3) := by decide +kernel
theorem dX4_roll_8 : decode cX4_roll 8 = .ok (.ifCond .eq 13, 3) := by decide +kernel
theorem dX4_roll_11 : decode cX4_roll 11 = .ok (.iload_n 2, 1) := by decide +kernel
theorem dX4_roll_12 : decode cX4_roll 12 = .ok (.iconst 1, 1) := by decide +kernel
theorem dX4_roll_13 : decode cX4_roll 13 = .ok (.bipush 9, 2) := by decide +kernel
theorem dX4_roll_15 : decode cX4_roll 15 = .ok (.invokestatic 34, 3) := by decide +kernel
theorem dX4_roll_18 : decode cX4_roll 18 = .ok (.ifCond .ne 13, 3) := by decide +kernel
theorem dX4_roll_21 : decode cX4_roll 21 = .ok (.new 38, 3) := by decide +kernel
theorem dX4_roll_24 : decode cX4_roll 24 = .ok (.dup, 1) := by decide +kernel
theorem dX4_roll_25 : decode cX4_roll 25 = .ok (.ldc 55, 2) := by decide +kernel
theorem dX4_roll_27 : decode cX4_roll 27 = .ok (.invokespecial 42, 3) := by decide +kernel
theorem dX4_roll_30 : decode cX4_roll 30 = .ok (.athrow, 1) := by decide +kernel
theorem dX4_roll_31 : decode cX4_roll 31 = .ok (.aload_n 0, 1) := by decide +kernel
theorem dX4_roll_32 : decode cX4_roll 32 = .ok (.getfield 12, 3) := by decide +kernel
theorem dX4_roll_35 : decode cX4_roll 35 = .ok (.getfield 57, 3) := by decide +kernel
theorem dX4_roll_38 : decode cX4_roll 38 = .ok (.istore_n 3, 1) := by decide +kernel
theorem dX4_roll_39 : decode cX4_roll 39 = .ok (.aload_n 0, 1) := by decide +kernel
theorem dX4_roll_40 : decode cX4_roll 40 = .ok (.getfield 12, 3) := by decide +kernel
theorem dX4_roll_43 : decode cX4_roll 43 = .ok (.iload_n 1, 1) := by decide +kernel
theorem dX4_roll_44 : decode cX4_roll 44 = .ok (.putfield 57, 3) := by decide +kernel
theorem dX4_roll_47 : decode cX4_roll 47 = .ok (.aload_n 0, 1) := by decide +kernel
theorem dX4_roll_48 : decode cX4_roll 48 = .ok (.getfield 12, 3) := by decide +kernel
theorem dX4_roll_51 : decode cX4_roll 51 = .ok (.iconst 0, 1) := by decide +kernel
theorem dX4_roll_52 : decode cX4_roll 52 = .ok (.putfield 60, 3) := by decide +kernel
theorem dX4_roll_55 : decode cX4_roll 55 = .ok (.aload_n 0, 1) := by decide +kernel
theorem dX4_roll_56 : decode cX4_roll 56 = .ok (.getfield 12, 3) := by decide +kernel
theorem dX4_roll_59 : decode cX4_roll 59 = .ok (.iload_n 2, 1) := by decide +kernel
theorem dX4_roll_60 : decode cX4_roll 60 = .ok (.putfield 63, 3) := by decide +kernel
theorem dX4_roll_63 : decode cX4_roll 63 = .ok (.iload_n 3, 1) := by decide +kernel
theorem dX4_roll_64 : decode cX4_roll 64 = .ok (.ireturn, 1) := by decide +kernel
set_option maxRecDepth 20000 in
theorem ggX4_fit_X4_checkPin : GoodIn wsX4_fit wsX4_checkPin := goodIn_ca (goodIn_r _ [7, 8, 9, 10, 11, 6, 12] (by decide +kernel) (by decide +kernel)) (goodIn_sub (fun _ h => List.mem_cons_of_mem _ (List.mem_append_right _ h)) (by decide +kernel))
set_option maxRecDepth 20000 in
theorem gX4_fit_X4_checkPin : GoodIn wsX4_fit (va_wsS RX4 66 yX4_checkPin wsX4_checkPin) := goodIn_app (goodIn_of _ (by decide +kernel)) ggX4_fit_X4_checkPin
set_option maxRecDepth 20000 in
theorem ggX4_fit_X4_isWithin : GoodIn wsX4_fit wsX4_isWithin := goodIn_r _ [12] (by decide +kernel) (by decide +kernel)
set_option maxRecDepth 20000 in
theorem gX4_fit_X4_isWithin : GoodIn wsX4_fit (va_wsS RX4 34 yX4_isWithin wsX4_isWithin) := goodIn_app (goodIn_of _ (by decide +kernel)) ggX4_fit_X4_isWithin
theorem dX4_fit_0 : decode cX4_fit 0 = .ok (.iload_n 1, 1) := by decide +kernel
theorem dX4_fit_1 : decode cX4_fit 1 = .ok (.invokestatic 66, 3) := by decide +kernel
theorem dX4_fit_4 : decode cX4_fit 4 = .ok (.iload_n 2, 1) := by decide +kernel
theorem dX4_fit_5 : decode cX4_fit 5 = .ok (.iconst 1, 1) := by decide +kernel
theorem dX4_fit_6 : decode cX4_fit 6 = .ok (.sipush 500, 3) := by decide +kernel
theorem dX4_fit_9 : decode cX4_fit 9 = .ok (.invokestatic 34, 3) := by decide +kernel
theorem dX4_fit_12 : decode cX4_fit 12 = .ok (.ifCond .ne 13, 3) := by decide +kernel
theorem dX4_fit_15 : decode cX4_fit 15 = .ok (.new 38, 3) := by decide +kernel
theorem dX4_fit_18 : decode cX4_fit 18 = .ok (.dup, 1) := by decide +kernel
theorem dX4_fit_19 : decode cX4_fit 19 = .ok (.ldc 70, 2) := by decide +kernel
theorem dX4_fit_21 : decode cX4_fit 21 = .ok (.invokespecial 42, 3) := by decide +kernel
theorem dX4_fit_24 : decode cX4_fit 24 = .ok (.athrow, 1) := by decide +kernel
theorem dX4_fit_25 : decode cX4_fit 25 = .ok (.aload_n 0, 1) := by decide +kernel
theorem dX4_fit_26 : decode cX4_fit 26 = .ok (.getfield 12, 3) := by decide +kernel
theorem dX4_fit_29 : decode cX4_fit 29 = .ok (.getfield 72, 3) := by decide +kernel
theorem dX4_fit_32 : decode cX4_fit 32 = .ok (.iload_n 1, 1) := by decide +kernel
theorem dX4_fit_33 : decode cX4_fit 33 = .ok (.aaload, 1) := by decide +kernel
theorem dX4_fit_34 : decode cX4_fit 34 = .ok (.astore_n 3, 1) := by decide +kernel
theorem dX4_fit_35 : decode cX4_fit 35 = .ok (.aload_n 3, 1) := by decide +kernel
theorem dX4_fit_36 : decode cX4_fit 36 = .ok (.getfield 76, 3) := by decide +kernel
theorem dX4_fit_39 : decode cX4_fit 39 = .ok (.istore 4, 2) := by decide +kernel
theorem dX4_fit_41 : decode cX4_fit 41 = .ok (.aload_n 3, 1) := by decide +kernel
theorem dX4_fit_42 : decode cX4_fit 42 = .ok (.iload_n 2, 1) := by decide +kernel
theorem dX4_fit_43 : decode cX4_fit 43 = .ok (.putfield 81, 3) := by decide +kernel
theorem dX4_fit_46 : decode cX4_fit 46 = .ok (.aload_n 3, 1) := by decide +kernel
theorem dX4_fit_47 : decode cX4_fit 47 = .ok (.iconst 0, 1) := by decide +kernel
theorem dX4_fit_48 : decode cX4_fit 48 = .ok (.putfield 76, 3) := by decide +kernel
theorem dX4_fit_51 : decode cX4_fit 51 = .ok (.iload 4, 2) := by decide +kernel
theorem dX4_fit_53 : decode cX4_fit 53 = .ok (.ireturn, 1) := by decide +kernel
set_option maxRecDepth 20000 in
theorem ggX4_turn_X4_checkPlace : GoodIn wsX4_turn wsX4_checkPlace := goodIn_ca (goodIn_r _ [5, 6, 7, 8, 9, 4, 10] (by decide +kernel) (by decide +kernel)) (goodIn_sub (fun _ h => List.mem_cons_of_mem _ (List.mem_append_right _ h)) (by decide +kernel))
set_option maxRecDepth 20000 in
theorem gX4_turn_X4_checkPlace : GoodIn wsX4_turn (va_wsS RX4 84 yX4_checkPlace wsX4_checkPlace) := goodIn_app (goodIn_of _ (by decide +kernel)) ggX4_turn_X4_checkPlace
theorem dX4_turn_0 : decode cX4_turn 0 = .ok (.iload_n 1, 1) := by decide +kernel
theorem dX4_turn_1 : decode cX4_turn 1 = .ok (.iload_n 2, 1) := by decide +kernel
theorem dX4_turn_2 : decode cX4_turn 2 = .ok (.invokestatic 84, 3) := by decide +kernel
theorem dX4_turn_5 : decode cX4_turn 5 = .ok (.bipush 6, 2) := by decide +kernel
theorem dX4_turn_7 : decode cX4_turn 7 = .ok (.iload_n 1, 1) := by decide +kernel
theorem dX4_turn_8 : decode cX4_turn 8 = .ok (.imul, 1) := by decide +kernel
theorem dX4_turn_9 : decode cX4_turn 9 = .ok (.iload_n 2, 1) := by decide +kernel
theorem dX4_turn_10 : decode cX4_turn 10 = .ok (.iadd, 1) := by decide +kernel
theorem dX4_turn_11 : decode cX4_turn 11 = .ok (.istore_n 3, 1) := by decide +kernel
theorem dX4_turn_12 : decode cX4_turn 12 = .ok (.aload_n 0, 1) := by decide +kernel
theorem dX4_turn_13 : decode cX4_turn 13 = .ok (.getfield 23, 3) := by decide +kernel
theorem dX4_turn_16 : decode cX4_turn 16 = .ok (.iload_n 3, 1) := by decide +kernel
theorem dX4_turn_17 : decode cX4_turn 17 = .ok (.aload_n 0, 1) := by decide +kernel
theorem dX4_turn_18 : decode cX4_turn 18 = .ok (.getfield 23, 3) := by decide +kernel
theorem dX4_turn_21 : decode cX4_turn 21 = .ok (.iload_n 3, 1) := by decide +kernel
theorem dX4_turn_22 : decode cX4_turn 22 = .ok (.baload, 1) := by decide +kernel
theorem dX4_turn_23 : decode cX4_turn 23 = .ok (.ifCond .ne 7, 3) := by decide +kernel
theorem dX4_turn_26 : decode cX4_turn 26 = .ok (.iconst 1, 1) := by decide +kernel
theorem dX4_turn_27 : decode cX4_turn 27 = .ok (.goto 4, 3) := by decide +kernel
theorem dX4_turn_30 : decode cX4_turn 30 = .ok (.iconst 0, 1) := by decide +kernel
theorem dX4_turn_31 : decode cX4_turn 31 = .ok (.bastore, 1) := by decide +kernel
theorem dX4_turn_32 : decode cX4_turn 32 = .ok (.aload_n 0, 1) := by decide +kernel
theorem dX4_turn_33 : decode cX4_turn 33 = .ok (.getfield 23, 3) := by decide +kernel
theorem dX4_turn_36 : decode cX4_turn 36 = .ok (.iload_n 3, 1) := by decide +kernel
theorem dX4_turn_37 : decode cX4_turn 37 = .ok (.baload, 1) := by decide +kernel
theorem dX4_turn_38 : decode cX4_turn 38 = .ok (.ireturn, 1) := by decide +kernel
set_option maxRecDepth 20000 in
theorem ggX4_run_X0_perforate : GoodIn wsX4_run wsX0_perforate := goodIn_r _ [11, 12, 13, 14, 15, 16, 17, 18, 19, 20, 21, 22, 23, 24, 25, 26, 10, 27, 28, 29, 30, 31, 32, 33, 34, 35, 36, 37, 38, 39, 40, 41, 42, 43, 44, 45, 46, 47, 48, 49, 50, 51, 52, 53, 54, 55, 56, 62, 63, 64, 65, 66, 67, 68, 69, 70, 71, 72] (by decide +kernel) (by decide +kernel)
set_option maxRecDepth 20000 in
theorem gX4_run_X0_perforate : GoodIn wsX4_run (wsV RX4 96 RX0 yX0_perforate wsX0_perforate) := goodIn_app (goodIn_of _ (by decide +kernel)) ggX4_run_X0_perforate
theorem dX4_run_0 : decode cX4_run 0 = .ok (.aload_n 0, 1) := by decide +kernel
theorem dX4_run_1 : decode cX4_run 1 = .ok (.getfield 88, 3) := by decide +kernel
theorem dX4_run_4 : decode cX4_run 4 = .ok (.bipush 20, 2) := by decide +kernel
theorem dX4_run_6 : decode cX4_run 6 = .ok (.if_icmp .ge 14, 3) := by decide +kernel
theorem dX4_run_9 : decode cX4_run 9 = .ok (.aload_n 0, 1) := by decide +kernel
theorem dX4_run_10 : decode cX4_run 10 = .ok (.getfield 12, 3) := by decide +kernel
theorem dX4_run_13 : decode cX4_run 13 = .ok (.getfield 57, 3) := by decide +kernel
theorem dX4_run_16 : decode cX4_run 16 = .ok (.iconst 5, 1) := by decide +kernel
theorem dX4_run_17 : decode cX4_run 17 = .ok (.if_icmp .ge 13, 3) := by decide +kernel
theorem dX4_run_20 : decode cX4_run 20 = .ok (.new 91, 3) := by decide +kernel
theorem dX4_run_23 : decode cX4_run 23 = .ok (.dup, 1) := by decide +kernel
theorem dX4_run_24 : decode cX4_run 24 = .ok (.ldc 93, 2) := by decide +kernel
theorem dX4_run_26 : decode cX4_run 26 = .ok (.invokespecial 95, 3) := by decide +kernel
theorem dX4_run_29 : decode cX4_run 29 = .ok (.athrow, 1) := by decide +kernel
theorem dX4_run_30 : decode cX4_run 30 = .ok (.aload_n 0, 1) := by decide +kernel
theorem dX4_run_31 : decode cX4_run 31 = .ok (.getfield 12, 3) := by decide +kernel
theorem dX4_run_34 : decode cX4_run 34 = .ok (.aload_n 0, 1) := by decide +kernel
theorem dX4_run_35 : decode cX4_run 35 = .ok (.getfield 23, 3) := by decide +kernel
theorem dX4_run_38 : decode cX4_run 38 = .ok (.aload_n 0, 1) := by decide +kernel
theorem dX4_run_39 : decode cX4_run 39 = .ok (.getfield 29, 3) := by decide +kernel
theorem dX4_run_42 : decode cX4_run 42 = .ok (.aload_n 0, 1) := by decide +kernel
theorem dX4_run_43 : decode cX4_run 43 = .ok (.getfield 88, 3) := by decide +kernel
theorem dX4_run_46 : decode cX4_run 46 = .ok (.aaload, 1) := by decide +kernel
theorem dX4_run_47 : decode cX4_run 47 = .ok (.invokevirtual 96, 3) := by decide +kernel
theorem dX4_run_50 : decode cX4_run 50 = .ok (.aload_n 0, 1) := by decide +kernel
theorem dX4_run_51 : decode cX4_run 51 = .ok (.dup, 1) := by decide +kernel
theorem dX4_run_52 : decode cX4_run 52 = .ok (.getfield 88, 3) := by decide +kernel
theorem dX4_run_55 : decode cX4_run 55 = .ok (.iconst 1, 1) := by decide +kernel
theorem dX4_run_56 : decode cX4_run 56 = .ok (.iadd, 1) := by decide +kernel
theorem dX4_run_57 : decode cX4_run 57 = .ok (.putfield 88, 3) := by decide +kernel
theorem dX4_run_60 : decode cX4_run 60 = .ok (.aload_n 0, 1) := by decide +kernel
theorem dX4_run_61 : decode cX4_run 61 = .ok (.getfield 88, 3) := by decide +kernel
theorem dX4_run_64 : decode cX4_run 64 = .ok (.iconst 1, 1) := by decide +kernel
theorem dX4_run_65 : decode cX4_run 65 = .ok (.isub, 1) := by decide +kernel
theorem dX4_run_66 : decode cX4_run 66 = .ok (.ireturn, 1) := by decide +kernel
set_option maxRecDepth 20000 in
theorem ggX4_faults_X4_checkSheet : GoodIn wsX4_faults wsX4_checkSheet := goodIn_ca (goodIn_r _ [6, 7, 8, 9, 10, 11, 5, 12, 16, 17, 18, 19, 20] (by decide +kernel) (by decide +kernel)) (goodIn_sub (fun _ h => List.mem_cons_of_mem _ (List.mem_append_right _ h)) (by decide +kernel))
set_option maxRecDepth 20000 in
theorem gX4_faults_X4_checkSheet : GoodIn wsX4_faults (wsV RX4 100 RX4 yX4_checkSheet wsX4_checkSheet) := goodIn_app (goodIn_of _ (by decide +kernel)) ggX4_faults_X4_checkSheet
set_option maxRecDepth 20000 in
theorem ggX4_faults_X4_checkPlace : GoodIn wsX4_faults wsX4_checkPlace := goodIn_ca (goodIn_r _ [15, 7, 8, 10, 11, 5, 12] (by decide +kernel) (by decide +kernel)) (goodIn_sub (fun _ h => List.mem_cons_of_mem _ (List.mem_append_right _ h)) (by decide +kernel))
set_option maxRecDepth 20000 in
theorem gX4_faults_X4_checkPlace : GoodIn wsX4_faults (va_wsS RX4 84 yX4_checkPlace wsX4_checkPlace) := goodIn_app (goodIn_of _ (by decide +kernel)) ggX4_faults_X4_checkPlace
theorem dX4_faults_0 : decode cX4_faults 0 = .ok (.aload_n 0, 1) := by decide +kernel
theorem dX4_faults_1 : decode cX4_faults 1 = .ok (.iload_n 1, 1) := by decide +kernel
theorem dX4_faults_2 : decode cX4_faults 2 = .ok (.invokevirtual 100, 3) := by decide +kernel
theorem dX4_faults_5 : decode cX4_faults 5 = .ok (.iload_n 2, 1) := by decide +kernel
theorem dX4_faults_6 : decode cX4_faults 6 = .ok (.iload_n 3, 1) := by decide +kernel
theorem dX4_faults_7 : decode cX4_faults 7 = .ok (.invokestatic 84, 3) := by decide +kernel
theorem dX4_faults_10 : decode cX4_faults 10 = .ok (.aload_n 0, 1) := by decide +kernel
theorem dX4_faults_11 : decode cX4_faults 11 = .ok (.getfield 29, 3) := by decide +kernel
theorem dX4_faults_14 : decode cX4_faults 14 = .ok (.iload_n 1, 1) := by decide +kernel
theorem dX4_faults_15 : decode cX4_faults 15 = .ok (.aaload, 1) := by decide +kernel
theorem dX4_faults_16 : decode cX4_faults 16 = .ok (.getfield 103, 3) := by decide +kernel
theorem dX4_faults_19 : decode cX4_faults 19 = .ok (.bipush 6, 2) := by decide +kernel
theorem dX4_faults_21 : decode cX4_faults 21 = .ok (.iload_n 2, 1) := by decide +kernel
theorem dX4_faults_22 : decode cX4_faults 22 = .ok (.imul, 1) := by decide +kernel
theorem dX4_faults_23 : decode cX4_faults 23 = .ok (.iload_n 3, 1) := by decide +kernel
theorem dX4_faults_24 : decode cX4_faults 24 = .ok (.iadd, 1) := by decide +kernel
theorem dX4_faults_25 : decode cX4_faults 25 = .ok (.iaload, 1) := by decide +kernel
theorem dX4_faults_26 : decode cX4_faults 26 = .ok (.ireturn, 1) := by decide +kernel
set_option maxRecDepth 20000 in
theorem ggX4_tear_X4_checkSheet : GoodIn wsX4_tear wsX4_checkSheet := goodIn_ca (goodIn_r _ [8, 9, 10, 11, 12, 13, 7, 14, 25, 26, 27, 28, 29] (by decide +kernel) (by decide +kernel)) (goodIn_sub (fun _ h => List.mem_cons_of_mem _ (List.mem_append_right _ h)) (by decide +kernel))
set_option maxRecDepth 20000 in
theorem gX4_tear_X4_checkSheet : GoodIn wsX4_tear (wsV RX4 100 RX4 yX4_checkSheet wsX4_checkSheet) := goodIn_app (goodIn_of _ (by decide +kernel)) ggX4_tear_X4_checkSheet
set_option maxRecDepth 20000 in
theorem ggX4_tear_X4_checkPlace : GoodIn wsX4_tear wsX4_checkPlace := goodIn_ca (goodIn_r _ [17, 9, 10, 12, 13, 7, 14] (by decide +kernel) (by decide +kernel)) (goodIn_sub (fun _ h => List.mem_cons_of_mem _ (List.mem_append_right _ h)) (by decide +kernel))
set_option maxRecDepth 20000 in
theorem gX4_tear_X4_checkPlace : GoodIn wsX4_tear (va_wsS RX4 84 yX4_checkPlace wsX4_checkPlace) := goodIn_app (goodIn_of _ (by decide +kernel)) ggX4_tear_X4_checkPlace
set_option maxRecDepth 20000 in
theorem ggX4_tear_X2_worthOf : GoodIn wsX4_tear wsX2_worthOf := goodIn_r _ [22, 23, 24, 30, 31] (by decide +kernel) (by decide +kernel)
set_option maxRecDepth 20000 in
theorem gX4_tear_X2_worthOf : GoodIn wsX4_tear (wsV RX4 112 RX2 yX2_worthOf wsX2_worthOf) := goodIn_app (goodIn_of _ (by decide +kernel)) ggX4_tear_X2_worthOf
theorem dX4_tear_0 : decode cX4_tear 0 = .ok (.aload_n 0, 1) := by decide +kernel
theorem dX4_tear_1 : decode cX4_tear 1 = .ok (.iload_n 1, 1) := by decide +kernel
theorem dX4_tear_2 : decode cX4_tear 2 = .ok (.invokevirtual 100, 3) := by decide +kernel
theorem dX4_tear_5 : decode cX4_tear 5 = .ok (.iload_n 2, 1) := by decide +kernel
theorem dX4_tear_6 : decode cX4_tear 6 = .ok (.iload_n 3, 1) := by decide +kernel
theorem dX4_tear_7 : decode cX4_tear 7 = .ok (.invokestatic 84, 3) := by decide +kernel
theorem dX4_tear_10 : decode cX4_tear 10 = .ok (.aload_n 0, 1) := by decide +kernel
theorem dX4_tear_11 : decode cX4_tear 11 = .ok (.getfield 29, 3) := by decide +kernel
theorem dX4_tear_14 : decode cX4_tear 14 = .ok (.iload_n 1, 1) := by decide +kernel
theorem dX4_tear_15 : decode cX4_tear 15 = .ok (.aaload, 1) := by decide +kernel
theorem dX4_tear_16 : decode cX4_tear 16 = .ok (.astore 4, 2) := by decide +kernel
theorem dX4_tear_18 : decode cX4_tear 18 = .ok (.bipush 6, 2) := by decide +kernel
theorem dX4_tear_20 : decode cX4_tear 20 = .ok (.iload_n 2, 1) := by decide +kernel
theorem dX4_tear_21 : decode cX4_tear 21 = .ok (.imul, 1) := by decide +kernel
theorem dX4_tear_22 : decode cX4_tear 22 = .ok (.iload_n 3, 1) := by decide +kernel
theorem dX4_tear_23 : decode cX4_tear 23 = .ok (.iadd, 1) := by decide +kernel
theorem dX4_tear_24 : decode cX4_tear 24 = .ok (.istore 5, 2) := by decide +kernel
theorem dX4_tear_26 : decode cX4_tear 26 = .ok (.aload 4, 2) := by decide +kernel
theorem dX4_tear_28 : decode cX4_tear 28 = .ok (.getfield 107, 3) := by decide +kernel
theorem dX4_tear_31 : decode cX4_tear 31 = .ok (.iload 5, 2) := by decide +kernel
theorem dX4_tear_33 : decode cX4_tear 33 = .ok (.baload, 1) := by decide +kernel
theorem dX4_tear_34 : decode cX4_tear 34 = .ok (.ifCond .eq 13, 3) := by decide +kernel
theorem dX4_tear_37 : decode cX4_tear 37 = .ok (.new 91, 3) := by decide +kernel
theorem dX4_tear_40 : decode cX4_tear 40 = .ok (.dup, 1) := by decide +kernel
theorem dX4_tear_41 : decode cX4_tear 41 = .ok (.ldc 110, 2) := by decide +kernel
theorem dX4_tear_43 : decode cX4_tear 43 = .ok (.invokespecial 95, 3) := by decide +kernel
theorem dX4_tear_46 : decode cX4_tear 46 = .ok (.athrow, 1) := by decide +kernel
theorem dX4_tear_47 : decode cX4_tear 47 = .ok (.aload 4, 2) := by decide +kernel
theorem dX4_tear_49 : decode cX4_tear 49 = .ok (.iload 5, 2) := by decide +kernel
theorem dX4_tear_51 : decode cX4_tear 51 = .ok (.invokevirtual 112, 3) := by decide +kernel
theorem dX4_tear_54 : decode cX4_tear 54 = .ok (.istore 6, 2) := by decide +kernel
theorem dX4_tear_56 : decode cX4_tear 56 = .ok (.aload 4, 2) := by decide +kernel
theorem dX4_tear_58 : decode cX4_tear 58 = .ok (.getfield 107, 3) := by decide +kernel
theorem dX4_tear_61 : decode cX4_tear 61 = .ok (.iload 5, 2) := by decide +kernel
theorem dX4_tear_63 : decode cX4_tear 63 = .ok (.iconst 1, 1) := by decide +kernel
theorem dX4_tear_64 : decode cX4_tear 64 = .ok (.bastore, 1) := by decide +kernel
theorem dX4_tear_65 : decode cX4_tear 65 = .ok (.iload 6, 2) := by decide +kernel
theorem dX4_tear_67 : decode cX4_tear 67 = .ok (.ireturn, 1) := by decide +kernel
set_option maxRecDepth 20000 in
theorem ggX4_sheet_X4_checkSheet : GoodIn wsX4_sheet wsX4_checkSheet := goodIn_ca (goodIn_r _ [6, 7, 8, 9, 10, 11, 5, 12, 70, 71, 72, 73, 74] (by decide +kernel) (by decide +kernel)) (goodIn_sub (fun _ h => List.mem_cons_of_mem _ (List.mem_append_right _ h)) (by decide +kernel))
set_option maxRecDepth 20000 in
theorem gX4_sheet_X4_checkSheet : GoodIn wsX4_sheet (wsV RX4 100 RX4 yX4_checkSheet wsX4_checkSheet) := goodIn_app (goodIn_of _ (by decide +kernel)) ggX4_sheet_X4_checkSheet
set_option maxRecDepth 20000 in
theorem ggX4_sheet_X4_checkWhat : GoodIn wsX4_sheet wsX4_checkWhat := goodIn_ca (goodIn_r _ [15, 7, 8, 10, 11, 5, 12] (by decide +kernel) (by decide +kernel)) (goodIn_sub (fun _ h => List.mem_cons_of_mem _ (List.mem_append_right _ h)) (by decide +kernel))
set_option maxRecDepth 20000 in
theorem gX4_sheet_X4_checkWhat : GoodIn wsX4_sheet (va_wsS RX4 116 yX4_checkWhat wsX4_checkWhat) := goodIn_app (goodIn_of _ (by decide +kernel)) ggX4_sheet_X4_checkWhat
set_option maxRecDepth 20000 in
theorem ggX4_sheet_X2_answer : GoodIn wsX4_sheet wsX2_answer := goodIn_r _ [20, 21, 22, 23, 19, 24, 25, 26, 27, 28, 29, 30, 31, 32, 33, 34, 35, 36, 37, 38, 39, 40, 41, 42, 43, 44, 45, 46, 47, 48, 49, 50, 51, 52, 53, 54, 55, 56, 57, 58, 59, 60, 61, 62, 63, 64, 65, 66, 67, 68, 69, 75, 76] (by decide +kernel) (by decide +kernel)
set_option maxRecDepth 20000 in
theorem gX4_sheet_X2_answer : GoodIn wsX4_sheet (wsV RX4 119 RX2 yX2_answer wsX2_answer) := goodIn_app (goodIn_of _ (by decide +kernel)) ggX4_sheet_X2_answer
theorem dX4_sheet_0 : decode cX4_sheet 0 = .ok (.aload_n 0, 1) := by decide +kernel
theorem dX4_sheet_1 : decode cX4_sheet 1 = .ok (.iload_n 1, 1) := by decide +kernel
theorem dX4_sheet_2 : decode cX4_sheet 2 = .ok (.invokevirtual 100, 3) := by decide +kernel
theorem dX4_sheet_5 : decode cX4_sheet 5 = .ok (.iload_n 2, 1) := by decide +kernel
theorem dX4_sheet_6 : decode cX4_sheet 6 = .ok (.bipush 6, 2) := by decide +kernel
theorem dX4_sheet_8 : decode cX4_sheet 8 = .ok (.invokestatic 116, 3) := by decide +kernel
theorem dX4_sheet_11 : decode cX4_sheet 11 = .ok (.aload_n 0, 1) := by decide +kernel
theorem dX4_sheet_12 : decode cX4_sheet 12 = .ok (.getfield 29, 3) := by decide +kernel
theorem dX4_sheet_15 : decode cX4_sheet 15 = .ok (.iload_n 1, 1) := by decide +kernel
theorem dX4_sheet_16 : decode cX4_sheet 16 = .ok (.aaload, 1) := by decide +kernel
theorem dX4_sheet_17 : decode cX4_sheet 17 = .ok (.iload_n 2, 1) := by decide +kernel
theorem dX4_sheet_18 : decode cX4_sheet 18 = .ok (.invokevirtual 119, 3) := by decide +kernel
theorem dX4_sheet_21 : decode cX4_sheet 21 = .ok (.ireturn, 1) := by decide +kernel
set_option maxRecDepth 20000 in
theorem ggX4_pin_X4_checkPin : GoodIn wsX4_pin wsX4_checkPin := goodIn_ca (goodIn_r _ [5, 6, 7, 8, 9, 4, 10] (by decide +kernel) (by decide +kernel)) (goodIn_sub (fun _ h => List.mem_cons_of_mem _ (List.mem_append_right _ h)) (by decide +kernel))
set_option maxRecDepth 20000 in
theorem gX4_pin_X4_checkPin : GoodIn wsX4_pin (va_wsS RX4 66 yX4_checkPin wsX4_checkPin) := goodIn_app (goodIn_of _ (by decide +kernel)) ggX4_pin_X4_checkPin
set_option maxRecDepth 20000 in
theorem ggX4_pin_X4_checkWhat : GoodIn wsX4_pin wsX4_checkWhat := goodIn_ca (goodIn_r _ [13, 6, 7, 8, 9, 4, 10] (by decide +kernel) (by decide +kernel)) (goodIn_sub (fun _ h => List.mem_cons_of_mem _ (List.mem_append_right _ h)) (by decide +kernel))
set_option maxRecDepth 20000 in
theorem gX4_pin_X4_checkWhat : GoodIn wsX4_pin (va_wsS RX4 116 yX4_checkWhat wsX4_checkWhat) := goodIn_app (goodIn_of _ (by decide +kernel)) ggX4_pin_X4_checkWhat
set_option maxRecDepth 20000 in
theorem ggX4_pin_X1_answer : GoodIn wsX4_pin wsX1_answer := goodIn_r _ [18, 19, 20, 21, 22, 23, 17, 24, 37, 38] (by decide +kernel) (by decide +kernel)
set_option maxRecDepth 20000 in
theorem gX4_pin_X1_answer : GoodIn wsX4_pin (wsV RX4 122 RX1 yX1_answer wsX1_answer) := goodIn_app (goodIn_of _ (by decide +kernel)) ggX4_pin_X1_answer
theorem dX4_pin_0 : decode cX4_pin 0 = .ok (.iload_n 1, 1) := by decide +kernel
theorem dX4_pin_1 : decode cX4_pin 1 = .ok (.invokestatic 66, 3) := by decide +kernel
theorem dX4_pin_4 : decode cX4_pin 4 = .ok (.iload_n 2, 1) := by decide +kernel
theorem dX4_pin_5 : decode cX4_pin 5 = .ok (.iconst 4, 1) := by decide +kernel
theorem dX4_pin_6 : decode cX4_pin 6 = .ok (.invokestatic 116, 3) := by decide +kernel
theorem dX4_pin_9 : decode cX4_pin 9 = .ok (.aload_n 0, 1) := by decide +kernel
theorem dX4_pin_10 : decode cX4_pin 10 = .ok (.getfield 12, 3) := by decide +kernel
theorem dX4_pin_13 : decode cX4_pin 13 = .ok (.getfield 72, 3) := by decide +kernel
theorem dX4_pin_16 : decode cX4_pin 16 = .ok (.iload_n 1, 1) := by decide +kernel
theorem dX4_pin_17 : decode cX4_pin 17 = .ok (.aaload, 1) := by decide +kernel
theorem dX4_pin_18 : decode cX4_pin 18 = .ok (.iload_n 2, 1) := by decide +kernel
theorem dX4_pin_19 : decode cX4_pin 19 = .ok (.invokevirtual 122, 3) := by decide +kernel
theorem dX4_pin_22 : decode cX4_pin 22 = .ok (.ireturn, 1) := by decide +kernel
set_option maxRecDepth 20000 in
theorem ggX4_count_X4_checkWhat : GoodIn wsX4_count wsX4_checkWhat := goodIn_ca (goodIn_r _ [4, 5, 6, 7, 8, 3, 9] (by decide +kernel) (by decide +kernel)) (goodIn_sub (fun _ h => List.mem_cons_of_mem _ (List.mem_append_right _ h)) (by decide +kernel))
set_option maxRecDepth 20000 in
theorem gX4_count_X4_checkWhat : GoodIn wsX4_count (va_wsS RX4 116 yX4_checkWhat wsX4_checkWhat) := goodIn_app (goodIn_of _ (by decide +kernel)) ggX4_count_X4_checkWhat
set_option maxRecDepth 20000 in
theorem ggX4_count_X4_countAnswer : GoodIn wsX4_count wsX4_countAnswer := goodIn_r _ [13, 14, 15, 16, 17, 18, 19, 20, 21, 22, 23, 24, 25, 26, 27, 28, 29, 30, 31, 3, 32, 33, 34, 35, 36, 37, 38, 39, 40, 41, 42, 43, 44, 45, 46, 47, 48, 49, 50, 51, 52, 53, 54, 55, 56, 57, 58, 59, 60, 61, 62, 63, 64, 65] (by decide +kernel) (by decide +kernel)
set_option maxRecDepth 20000 in
theorem gX4_count_X4_countAnswer : GoodIn wsX4_count (wsV RX4 123 RX4 yX4_countAnswer wsX4_countAnswer) := goodIn_app (goodIn_of _ (by decide +kernel)) ggX4_count_X4_countAnswer
theorem dX4_count_0 : decode cX4_count 0 = .ok (.iload_n 1, 1) := by decide +kernel
theorem dX4_count_1 : decode cX4_count 1 = .ok (.bipush 10, 2) := by decide +kernel
theorem dX4_count_3 : decode cX4_count 3 = .ok (.invokestatic 116, 3) := by decide +kernel
theorem dX4_count_6 : decode cX4_count 6 = .ok (.aload_n 0, 1) := by decide +kernel
theorem dX4_count_7 : decode cX4_count 7 = .ok (.iload_n 1, 1) := by decide +kernel
theorem dX4_count_8 : decode cX4_count 8 = .ok (.invokevirtual 123, 3) := by decide +kernel
theorem dX4_count_11 : decode cX4_count 11 = .ok (.ireturn, 1) := by decide +kernel
set_option maxRecDepth 20000 in
theorem ggX4_foresee_X4_checkSheetsToRun : GoodIn wsX4_foresee wsX4_checkSheetsToRun := goodIn_ca (goodIn_r _ [7, 8, 9, 10, 11, 6, 12] (by decide +kernel) (by decide +kernel)) (goodIn_sub (fun _ h => List.mem_cons_of_mem _ (List.mem_append_left _ (List.mem_append_right _ h))) (by decide +kernel))
set_option maxRecDepth 20000 in
theorem gX4_foresee_X4_checkSheetsToRun : GoodIn wsX4_foresee (va_wsS RX4 126 yX4_checkSheetsToRun wsX4_checkSheetsToRun) := goodIn_app (goodIn_of _ (by decide +kernel)) ggX4_foresee_X4_checkSheetsToRun
set_option maxRecDepth 20000 in
theorem ggX4_foresee_X4_checkWhat : GoodIn wsX4_foresee wsX4_checkWhat := goodIn_ca (goodIn_r _ [15, 16, 17, 10, 11, 6, 12] (by decide +kernel) (by decide +kernel)) (goodIn_sub (fun _ h => List.mem_cons_of_mem _ (List.mem_append_right _ h)) (by decide +kernel))
set_option maxRecDepth 20000 in
theorem gX4_foresee_X4_checkWhat : GoodIn wsX4_foresee (va_wsS RX4 116 yX4_checkWhat wsX4_checkWhat) := goodIn_app (goodIn_of _ (by decide +kernel)) ggX4_foresee_X4_checkWhat
set_option maxRecDepth 20000 in
theorem ggX4_foresee_X3_perforateFrom : GoodIn wsX4_foresee wsX3_perforateFrom := goodIn_r _ [22, 23, 24, 25, 26, 27, 28, 29, 30, 31, 32, 33, 34, 35, 36, 37, 38, 39, 40, 41, 42, 43, 44, 45, 46, 47, 48, 49, 50, 51, 52, 53, 54, 55, 56, 57, 58, 59, 60, 11, 6, 12, 61, 62, 63, 64, 65, 66, 67, 68, 69, 70, 71, 72, 73, 74, 75, 76, 77, 78, 79, 80, 81, 82, 83, 84, 85, 86, 87, 88, 89, 90, 91, 92, 93, 94, 95, 96, 97, 98, 99, 100, 121, 122, 123, 124, 114, 115, 116, 117, 118, 119, 120, 125, 126, 127, 128] (by decide +kernel) (by decide +kernel)
set_option maxRecDepth 20000 in
theorem gX4_foresee_X3_perforateFrom : GoodIn wsX4_foresee (wsV RX4 129 RX3 yX3_perforateFrom wsX3_perforateFrom) := goodIn_app (goodIn_of _ (by decide +kernel)) ggX4_foresee_X3_perforateFrom
set_option maxRecDepth 20000 in
theorem ggX4_foresee_X3_answer : GoodIn wsX4_foresee wsX3_answer := goodIn_r _ [104, 24, 25, 23, 105, 106, 107, 30, 108, 32, 65, 66, 67, 42, 68, 45, 44, 121, 122, 123, 124, 114, 115, 116, 117, 118, 119, 120, 125, 126] (by decide +kernel) (by decide +kernel)
set_option maxRecDepth 20000 in
theorem gX4_foresee_X3_answer : GoodIn wsX4_foresee (wsV RX4 133 RX3 yX3_answer wsX3_answer) := goodIn_app (goodIn_of _ (by decide +kernel)) ggX4_foresee_X3_answer
theorem dX4_foresee_0 : decode cX4_foresee 0 = .ok (.iload_n 1, 1) := by decide +kernel
theorem dX4_foresee_1 : decode cX4_foresee 1 = .ok (.invokestatic 126, 3) := by decide +kernel
theorem dX4_foresee_4 : decode cX4_foresee 4 = .ok (.iload_n 2, 1) := by decide +kernel
theorem dX4_foresee_5 : decode cX4_foresee 5 = .ok (.iconst 4, 1) := by decide +kernel
theorem dX4_foresee_6 : decode cX4_foresee 6 = .ok (.invokestatic 116, 3) := by decide +kernel
theorem dX4_foresee_9 : decode cX4_foresee 9 = .ok (.aload_n 0, 1) := by decide +kernel
theorem dX4_foresee_10 : decode cX4_foresee 10 = .ok (.getfield 19, 3) := by decide +kernel
theorem dX4_foresee_13 : decode cX4_foresee 13 = .ok (.aload_n 0, 1) := by decide +kernel
theorem dX4_foresee_14 : decode cX4_foresee 14 = .ok (.getfield 12, 3) := by decide +kernel
theorem dX4_foresee_17 : decode cX4_foresee 17 = .ok (.aload_n 0, 1) := by decide +kernel
theorem dX4_foresee_18 : decode cX4_foresee 18 = .ok (.getfield 12, 3) := by decide +kernel
theorem dX4_foresee_21 : decode cX4_foresee 21 = .ok (.getfield 45, 3) := by decide +kernel
theorem dX4_foresee_24 : decode cX4_foresee 24 = .ok (.aload_n 0, 1) := by decide +kernel
theorem dX4_foresee_25 : decode cX4_foresee 25 = .ok (.getfield 23, 3) := by decide +kernel
theorem dX4_foresee_28 : decode cX4_foresee 28 = .ok (.iload_n 1, 1) := by decide +kernel
theorem dX4_foresee_29 : decode cX4_foresee 29 = .ok (.invokevirtual 129, 3) := by decide +kernel
theorem dX4_foresee_32 : decode cX4_foresee 32 = .ok (.aload_n 0, 1) := by decide +kernel
theorem dX4_foresee_33 : decode cX4_foresee 33 = .ok (.getfield 19, 3) := by decide +kernel
theorem dX4_foresee_36 : decode cX4_foresee 36 = .ok (.iload_n 2, 1) := by decide +kernel
theorem dX4_foresee_37 : decode cX4_foresee 37 = .ok (.invokevirtual 133, 3) := by decide +kernel
theorem dX4_foresee_40 : decode cX4_foresee 40 = .ok (.ireturn, 1) := by decide +kernel
set_option maxRecDepth 20000 in
theorem ggX4_like_X4_isWithin : GoodIn wsX4_like wsX4_isWithin := goodIn_r _ [6] (by decide +kernel) (by decide +kernel)
set_option maxRecDepth 20000 in
theorem gX4_like_X4_isWithin : GoodIn wsX4_like (va_wsS RX4 34 yX4_isWithin wsX4_isWithin) := goodIn_app (goodIn_of _ (by decide +kernel)) ggX4_like_X4_isWithin
set_option maxRecDepth 20000 in
theorem ggX4_like_X4_stampsWith : GoodIn wsX4_like wsX4_stampsWith := goodIn_r _ [10, 11, 12, 13, 14, 15, 16, 17, 18, 19, 20, 21, 22, 23, 24, 25, 26, 27, 28, 29, 30] (by decide +kernel) (by decide +kernel)
set_option maxRecDepth 20000 in
theorem gX4_like_X4_stampsWith : GoodIn wsX4_like (wsV RX4 139 RX4 yX4_stampsWith wsX4_stampsWith) := goodIn_app (goodIn_of _ (by decide +kernel)) ggX4_like_X4_stampsWith
theorem dX4_like_0 : decode cX4_like 0 = .ok (.iload_n 1, 1) := by decide +kernel
theorem dX4_like_1 : decode cX4_like 1 = .ok (.iconst 0, 1) := by decide +kernel
theorem dX4_like_2 : decode cX4_like 2 = .ok (.bipush 31, 2) := by decide +kernel
theorem dX4_like_4 : decode cX4_like 4 = .ok (.invokestatic 34, 3) := by decide +kernel
theorem dX4_like_7 : decode cX4_like 7 = .ok (.ifCond .ne 13, 3) := by decide +kernel
theorem dX4_like_10 : decode cX4_like 10 = .ok (.new 38, 3) := by decide +kernel
theorem dX4_like_13 : decode cX4_like 13 = .ok (.dup, 1) := by decide +kernel
theorem dX4_like_14 : decode cX4_like 14 = .ok (.ldc 137, 2) := by decide +kernel
theorem dX4_like_16 : decode cX4_like 16 = .ok (.invokespecial 42, 3) := by decide +kernel
theorem dX4_like_19 : decode cX4_like 19 = .ok (.athrow, 1) := by decide +kernel
theorem dX4_like_20 : decode cX4_like 20 = .ok (.aload_n 0, 1) := by decide +kernel
theorem dX4_like_21 : decode cX4_like 21 = .ok (.iload_n 1, 1) := by decide +kernel
theorem dX4_like_22 : decode cX4_like 22 = .ok (.invokevirtual 139, 3) := by decide +kernel
theorem dX4_like_25 : decode cX4_like 25 = .ok (.ireturn, 1) := by decide +kernel
set_option maxRecDepth 20000 in
theorem ggX4_share_X4_stampsWith : GoodIn wsX4_share wsX4_stampsWith := goodIn_r _ [6, 1, 7, 8, 9, 10, 11, 12, 13, 14, 15, 16, 17, 18, 19, 20, 21, 22, 23, 24, 25] (by decide +kernel) (by decide +kernel)
set_option maxRecDepth 20000 in
theorem gX4_share_X4_stampsWith : GoodIn wsX4_share (wsV RX4 139 RX4 yX4_stampsWith wsX4_stampsWith) := goodIn_app (goodIn_of _ (by decide +kernel)) ggX4_share_X4_stampsWith
theorem dX4_share_0 : decode cX4_share 0 = .ok (.bipush 30, 2) := by decide +kernel
theorem dX4_share_2 : decode cX4_share 2 = .ok (.aload_n 0, 1) := by decide +kernel
theorem dX4_share_3 : decode cX4_share 3 = .ok (.getfield 88, 3) := by decide +kernel
theorem dX4_share_6 : decode cX4_share 6 = .ok (.imul, 1) := by decide +kernel
theorem dX4_share_7 : decode cX4_share 7 = .ok (.istore_n 1, 1) := by decide +kernel
theorem dX4_share_8 : decode cX4_share 8 = .ok (.iload_n 1, 1) := by decide +kernel
theorem dX4_share_9 : decode cX4_share 9 = .ok (.ifCond .ne 5, 3) := by decide +kernel
theorem dX4_share_12 : decode cX4_share 12 = .ok (.dconst 0, 1) := by decide +kernel
theorem dX4_share_13 : decode cX4_share 13 = .ok (.dreturn, 1) := by decide +kernel
theorem dX4_share_14 : decode cX4_share 14 = .ok (.aload_n 0, 1) := by decide +kernel
theorem dX4_share_15 : decode cX4_share 15 = .ok (.iconst 0, 1) := by decide +kernel
theorem dX4_share_16 : decode cX4_share 16 = .ok (.invokevirtual 139, 3) := by decide +kernel
theorem dX4_share_19 : decode cX4_share 19 = .ok (.i2d, 1) := by decide +kernel
theorem dX4_share_20 : decode cX4_share 20 = .ok (.iload_n 1, 1) := by decide +kernel
theorem dX4_share_21 : decode cX4_share 21 = .ok (.i2d, 1) := by decide +kernel
theorem dX4_share_22 : decode cX4_share 22 = .ok (.ddiv, 1) := by decide +kernel
theorem dX4_share_23 : decode cX4_share 23 = .ok (.dreturn, 1) := by decide +kernel
theorem dX4_isWithin_0 : decode cX4_isWithin 0 = .ok (.iload_n 0, 1) := by decide +kernel
theorem dX4_isWithin_1 : decode cX4_isWithin 1 = .ok (.iload_n 1, 1) := by decide +kernel
theorem dX4_isWithin_2 : decode cX4_isWithin 2 = .ok (.if_icmp .lt 12, 3) := by decide +kernel
theorem dX4_isWithin_5 : decode cX4_isWithin 5 = .ok (.iload_n 0, 1) := by decide +kernel
theorem dX4_isWithin_6 : decode cX4_isWithin 6 = .ok (.iload_n 2, 1) := by decide +kernel
theorem dX4_isWithin_7 : decode cX4_isWithin 7 = .ok (.if_icmp .gt 7, 3) := by decide +kernel
theorem dX4_isWithin_10 : decode cX4_isWithin 10 = .ok (.iconst 1, 1) := by decide +kernel
theorem dX4_isWithin_11 : decode cX4_isWithin 11 = .ok (.goto 4, 3) := by decide +kernel
theorem dX4_isWithin_14 : decode cX4_isWithin 14 = .ok (.iconst 0, 1) := by decide +kernel
theorem dX4_isWithin_15 : decode cX4_isWithin 15 = .ok (.ireturn, 1) := by decide +kernel
set_option maxRecDepth 20000 in
theorem ggX4_checkPin_X4_isWithin : GoodIn wsX4_checkPin wsX4_isWithin := goodIn_r _ [6] (by decide +kernel) (by decide +kernel)
set_option maxRecDepth 20000 in
theorem gX4_checkPin_X4_isWithin : GoodIn wsX4_checkPin (va_wsS RX4 34 yX4_isWithin wsX4_isWithin) := goodIn_app (goodIn_of _ (by decide +kernel)) ggX4_checkPin_X4_isWithin
theorem dX4_checkPin_0 : decode cX4_checkPin 0 = .ok (.iload_n 0, 1) := by decide +kernel
theorem dX4_checkPin_1 : decode cX4_checkPin 1 = .ok (.iconst 0, 1) := by decide +kernel
theorem dX4_checkPin_2 : decode cX4_checkPin 2 = .ok (.bipush 6, 2) := by decide +kernel
theorem dX4_checkPin_4 : decode cX4_checkPin 4 = .ok (.invokestatic 34, 3) := by decide +kernel
theorem dX4_checkPin_7 : decode cX4_checkPin 7 = .ok (.ifCond .ne 13, 3) := by decide +kernel
theorem dX4_checkPin_10 : decode cX4_checkPin 10 = .ok (.new 150, 3) := by decide +kernel
theorem dX4_checkPin_13 : decode cX4_checkPin 13 = .ok (.dup, 1) := by decide +kernel
theorem dX4_checkPin_14 : decode cX4_checkPin 14 = .ok (.ldc 152, 2) := by decide +kernel
theorem dX4_checkPin_16 : decode cX4_checkPin 16 = .ok (.invokespecial 154, 3) := by decide +kernel
theorem dX4_checkPin_19 : decode cX4_checkPin 19 = .ok (.athrow, 1) := by decide +kernel
theorem dX4_checkPin_20 : decode cX4_checkPin 20 = .ok (.return_, 1) := by decide +kernel
set_option maxRecDepth 20000 in
theorem ggX4_checkPlace_X4_isWithin : GoodIn wsX4_checkPlace wsX4_isWithin := goodIn_r _ [6] (by decide +kernel) (by decide +kernel)
set_option maxRecDepth 20000 in
theorem gX4_checkPlace_X4_isWithin : GoodIn wsX4_checkPlace (va_wsS RX4 34 yX4_isWithin wsX4_isWithin) := goodIn_app (goodIn_of _ (by decide +kernel)) ggX4_checkPlace_X4_isWithin
theorem dX4_checkPlace_0 : decode cX4_checkPlace 0 = .ok (.iload_n 0, 1) := by decide +kernel
theorem dX4_checkPlace_1 : decode cX4_checkPlace 1 = .ok (.iconst 0, 1) := by decide +kernel
theorem dX4_checkPlace_2 : decode cX4_checkPlace 2 = .ok (.iconst 4, 1) := by decide +kernel
theorem dX4_checkPlace_3 : decode cX4_checkPlace 3 = .ok (.invokestatic 34, 3) := by decide +kernel
theorem dX4_checkPlace_6 : decode cX4_checkPlace 6 = .ok (.ifCond .eq 12, 3) := by decide +kernel
theorem dX4_checkPlace_9 : decode cX4_checkPlace 9 = .ok (.iload_n 1, 1) := by decide +kernel
theorem dX4_checkPlace_10 : decode cX4_checkPlace 10 = .ok (.iconst 0, 1) := by decide +kernel
theorem dX4_checkPlace_11 : decode cX4_checkPlace 11 = .ok (.iconst 5, 1) := by decide +kernel
theorem dX4_checkPlace_12 : decode cX4_checkPlace 12 = .ok (.invokestatic 34, 3) := by decide +kernel
theorem dX4_checkPlace_15 : decode cX4_checkPlace 15 = .ok (.ifCond .ne 13, 3) := by decide +kernel
theorem dX4_checkPlace_18 : decode cX4_checkPlace 18 = .ok (.new 150, 3) := by decide +kernel
theorem dX4_checkPlace_21 : decode cX4_checkPlace 21 = .ok (.dup, 1) := by decide +kernel
theorem dX4_checkPlace_22 : decode cX4_checkPlace 22 = .ok (.ldc 155, 2) := by decide +kernel
theorem dX4_checkPlace_24 : decode cX4_checkPlace 24 = .ok (.invokespecial 154, 3) := by decide +kernel
theorem dX4_checkPlace_27 : decode cX4_checkPlace 27 = .ok (.athrow, 1) := by decide +kernel
theorem dX4_checkPlace_28 : decode cX4_checkPlace 28 = .ok (.return_, 1) := by decide +kernel
set_option maxRecDepth 20000 in
theorem ggX4_checkSheet_X4_isWithin : GoodIn wsX4_checkSheet wsX4_isWithin := goodIn_r _ [7] (by decide +kernel) (by decide +kernel)
set_option maxRecDepth 20000 in
theorem gX4_checkSheet_X4_isWithin : GoodIn wsX4_checkSheet (va_wsS RX4 34 yX4_isWithin wsX4_isWithin) := goodIn_app (goodIn_of _ (by decide +kernel)) ggX4_checkSheet_X4_isWithin
theorem dX4_checkSheet_0 : decode cX4_checkSheet 0 = .ok (.iload_n 1, 1) := by decide +kernel
theorem dX4_checkSheet_1 : decode cX4_checkSheet 1 = .ok (.iconst 0, 1) := by decide +kernel
theorem dX4_checkSheet_2 : decode cX4_checkSheet 2 = .ok (.aload_n 0, 1) := by decide +kernel
theorem dX4_checkSheet_3 : decode cX4_checkSheet 3 = .ok (.getfield 88, 3) := by decide +kernel
theorem dX4_checkSheet_6 : decode cX4_checkSheet 6 = .ok (.iconst 1, 1) := by decide +kernel
theorem dX4_checkSheet_7 : decode cX4_checkSheet 7 = .ok (.isub, 1) := by decide +kernel
theorem dX4_checkSheet_8 : decode cX4_checkSheet 8 = .ok (.invokestatic 34, 3) := by decide +kernel
theorem dX4_checkSheet_11 : decode cX4_checkSheet 11 = .ok (.ifCond .ne 13, 3) := by decide +kernel
theorem dX4_checkSheet_14 : decode cX4_checkSheet 14 = .ok (.new 150, 3) := by decide +kernel
theorem dX4_checkSheet_17 : decode cX4_checkSheet 17 = .ok (.dup, 1) := by decide +kernel
theorem dX4_checkSheet_18 : decode cX4_checkSheet 18 = .ok (.ldc 157, 2) := by decide +kernel
theorem dX4_checkSheet_20 : decode cX4_checkSheet 20 = .ok (.invokespecial 154, 3) := by decide +kernel
theorem dX4_checkSheet_23 : decode cX4_checkSheet 23 = .ok (.athrow, 1) := by decide +kernel
theorem dX4_checkSheet_24 : decode cX4_checkSheet 24 = .ok (.return_, 1) := by decide +kernel
set_option maxRecDepth 20000 in
theorem ggX4_checkWhat_X4_isWithin : GoodIn wsX4_checkWhat wsX4_isWithin := goodIn_r _ [6] (by decide +kernel) (by decide +kernel)
set_option maxRecDepth 20000 in
theorem gX4_checkWhat_X4_isWithin : GoodIn wsX4_checkWhat (va_wsS RX4 34 yX4_isWithin wsX4_isWithin) := goodIn_app (goodIn_of _ (by decide +kernel)) ggX4_checkWhat_X4_isWithin
theorem dX4_checkWhat_0 : decode cX4_checkWhat 0 = .ok (.iload_n 0, 1) := by decide +kernel
theorem dX4_checkWhat_1 : decode cX4_checkWhat 1 = .ok (.iconst 0, 1) := by decide +kernel
theorem dX4_checkWhat_2 : decode cX4_checkWhat 2 = .ok (.iload_n 1, 1) := by decide +kernel
theorem dX4_checkWhat_3 : decode cX4_checkWhat 3 = .ok (.iconst 1, 1) := by decide +kernel
theorem dX4_checkWhat_4 : decode cX4_checkWhat 4 = .ok (.isub, 1) := by decide +kernel
theorem dX4_checkWhat_5 : decode cX4_checkWhat 5 = .ok (.invokestatic 34, 3) := by decide +kernel
theorem dX4_checkWhat_8 : decode cX4_checkWhat 8 = .ok (.ifCond .ne 13, 3) := by decide +kernel
theorem dX4_checkWhat_11 : decode cX4_checkWhat 11 = .ok (.new 150, 3) := by decide +kernel
theorem dX4_checkWhat_14 : decode cX4_checkWhat 14 = .ok (.dup, 1) := by decide +kernel
theorem dX4_checkWhat_15 : decode cX4_checkWhat 15 = .ok (.ldc 159, 2) := by decide +kernel
theorem dX4_checkWhat_17 : decode cX4_checkWhat 17 = .ok (.invokespecial 154, 3) := by decide +kernel
theorem dX4_checkWhat_20 : decode cX4_checkWhat 20 = .ok (.athrow, 1) := by decide +kernel
theorem dX4_checkWhat_21 : decode cX4_checkWhat 21 = .ok (.return_, 1) := by decide +kernel
set_option maxRecDepth 20000 in
theorem ggX4_checkSheetsToRun_X4_isWithin : GoodIn wsX4_checkSheetsToRun wsX4_isWithin := goodIn_r _ [6] (by decide +kernel) (by decide +kernel)
set_option maxRecDepth 20000 in
theorem gX4_checkSheetsToRun_X4_isWithin : GoodIn wsX4_checkSheetsToRun (va_wsS RX4 34 yX4_isWithin wsX4_isWithin) := goodIn_app (goodIn_of _ (by decide +kernel)) ggX4_checkSheetsToRun_X4_isWithin
theorem dX4_checkSheetsToRun_0 : decode cX4_checkSheetsToRun 0 = .ok (.iload_n 0, 1) := by decide +kernel
theorem dX4_checkSheetsToRun_1 : decode cX4_checkSheetsToRun 1 = .ok (.iconst 1, 1) := by decide +kernel
theorem dX4_checkSheetsToRun_2 : decode cX4_checkSheetsToRun 2 = .ok (.bipush 20, 2) := by decide +kernel
theorem dX4_checkSheetsToRun_4 : decode cX4_checkSheetsToRun 4 = .ok (.invokestatic 34, 3) := by decide +kernel
theorem dX4_checkSheetsToRun_7 : decode cX4_checkSheetsToRun 7 = .ok (.ifCond .ne 13, 3) := by decide +kernel
theorem dX4_checkSheetsToRun_10 : decode cX4_checkSheetsToRun 10 = .ok (.new 38, 3) := by decide +kernel
theorem dX4_checkSheetsToRun_13 : decode cX4_checkSheetsToRun 13 = .ok (.dup, 1) := by decide +kernel
theorem dX4_checkSheetsToRun_14 : decode cX4_checkSheetsToRun 14 = .ok (.ldc 161, 2) := by decide +kernel
theorem dX4_checkSheetsToRun_16 : decode cX4_checkSheetsToRun 16 = .ok (.invokespecial 42, 3) := by decide +kernel
theorem dX4_checkSheetsToRun_19 : decode cX4_checkSheetsToRun 19 = .ok (.athrow, 1) := by decide +kernel
theorem dX4_checkSheetsToRun_20 : decode cX4_checkSheetsToRun 20 = .ok (.return_, 1) := by decide +kernel
set_option maxRecDepth 20000 in
theorem ggX4_countAnswer_X0_brokenPins : GoodIn wsX4_countAnswer wsX0_brokenPins := goodIn_r _ [7, 8, 9, 10, 11, 12, 13, 14, 15, 43, 44, 45, 46, 47, 48, 49, 50, 51] (by decide +kernel) (by decide +kernel)
set_option maxRecDepth 20000 in
theorem gX4_countAnswer_X0_brokenPins : GoodIn wsX4_countAnswer (wsV RX4 163 RX0 yX0_brokenPins wsX0_brokenPins) := goodIn_app (goodIn_of _ (by decide +kernel)) ggX4_countAnswer_X0_brokenPins
set_option maxRecDepth 20000 in
theorem ggX4_countAnswer_X4_invertedPlaces : GoodIn wsX4_countAnswer wsX4_invertedPlaces := goodIn_r _ [20, 21, 38, 39, 40, 41, 42] (by decide +kernel) (by decide +kernel)
set_option maxRecDepth 20000 in
theorem gX4_countAnswer_X4_invertedPlaces : GoodIn wsX4_countAnswer (wsV RX4 167 RX4 yX4_invertedPlaces wsX4_invertedPlaces) := goodIn_app (goodIn_of _ (by decide +kernel)) ggX4_countAnswer_X4_invertedPlaces
set_option maxRecDepth 20000 in
theorem ggX4_countAnswer_X4_worthOfSheets : GoodIn wsX4_countAnswer wsX4_worthOfSheets := goodIn_r _ [25, 1, 26, 27, 28, 29, 30, 31, 32, 33, 34, 35, 36, 37, 38, 39, 40, 41, 42, 52, 53] (by decide +kernel) (by decide +kernel)
set_option maxRecDepth 20000 in
theorem gX4_countAnswer_X4_worthOfSheets : GoodIn wsX4_countAnswer (wsV RX4 170 RX4 yX4_worthOfSheets wsX4_worthOfSheets) := goodIn_app (goodIn_of _ (by decide +kernel)) ggX4_countAnswer_X4_worthOfSheets
theorem dX4_countAnswer_0 : decode cX4_countAnswer 0 = .ok (.iload_n 1, 1) := by decide +kernel
theorem dX4_countAnswer_1 : decode cX4_countAnswer 1 = .ok (.tableswitch 117 0 8 #[51, 56, 64, 72, 80, 88, 96, 104, 112], 51) := by decide +kernel
theorem dX4_countAnswer_52 : decode cX4_countAnswer 52 = .ok (.aload_n 0, 1) := by decide +kernel
theorem dX4_countAnswer_53 : decode cX4_countAnswer 53 = .ok (.getfield 88, 3) := by decide +kernel
theorem dX4_countAnswer_56 : decode cX4_countAnswer 56 = .ok (.ireturn, 1) := by decide +kernel
theorem dX4_countAnswer_57 : decode cX4_countAnswer 57 = .ok (.aload_n 0, 1) := by decide +kernel
theorem dX4_countAnswer_58 : decode cX4_countAnswer 58 = .ok (.getfield 12, 3) := by decide +kernel
theorem dX4_countAnswer_61 : decode cX4_countAnswer 61 = .ok (.getfield 45, 3) := by decide +kernel
theorem dX4_countAnswer_64 : decode cX4_countAnswer 64 = .ok (.ireturn, 1) := by decide +kernel
theorem dX4_countAnswer_65 : decode cX4_countAnswer 65 = .ok (.aload_n 0, 1) := by decide +kernel
theorem dX4_countAnswer_66 : decode cX4_countAnswer 66 = .ok (.getfield 12, 3) := by decide +kernel
theorem dX4_countAnswer_69 : decode cX4_countAnswer 69 = .ok (.getfield 49, 3) := by decide +kernel
theorem dX4_countAnswer_72 : decode cX4_countAnswer 72 = .ok (.ireturn, 1) := by decide +kernel
theorem dX4_countAnswer_73 : decode cX4_countAnswer 73 = .ok (.aload_n 0, 1) := by decide +kernel
theorem dX4_countAnswer_74 : decode cX4_countAnswer 74 = .ok (.getfield 12, 3) := by decide +kernel
theorem dX4_countAnswer_77 : decode cX4_countAnswer 77 = .ok (.getfield 52, 3) := by decide +kernel
theorem dX4_countAnswer_80 : decode cX4_countAnswer 80 = .ok (.ireturn, 1) := by decide +kernel
theorem dX4_countAnswer_81 : decode cX4_countAnswer 81 = .ok (.aload_n 0, 1) := by decide +kernel
theorem dX4_countAnswer_82 : decode cX4_countAnswer 82 = .ok (.getfield 12, 3) := by decide +kernel
theorem dX4_countAnswer_85 : decode cX4_countAnswer 85 = .ok (.getfield 57, 3) := by decide +kernel
theorem dX4_countAnswer_88 : decode cX4_countAnswer 88 = .ok (.ireturn, 1) := by decide +kernel
theorem dX4_countAnswer_89 : decode cX4_countAnswer 89 = .ok (.aload_n 0, 1) := by decide +kernel
theorem dX4_countAnswer_90 : decode cX4_countAnswer 90 = .ok (.getfield 12, 3) := by decide +kernel
theorem dX4_countAnswer_93 : decode cX4_countAnswer 93 = .ok (.getfield 63, 3) := by decide +kernel
end
section
theorem dX4_countAnswer_96 : decode cX4_countAnswer 96 = .ok (.ireturn, 1) := by decide +kernel
theorem dX4_countAnswer_97 : decode cX4_countAnswer 97 = .ok (.aload_n 0, 1) := by decide +kernel
theorem dX4_countAnswer_98 : decode cX4_countAnswer 98 = .ok (.getfield 12, 3) := by decide +kernel
theorem dX4_countAnswer_101 : decode cX4_countAnswer 101 = .ok (.getfield 60, 3) := by decide +kernel
theorem dX4_countAnswer_104 : decode cX4_countAnswer 104 = .ok (.ireturn, 1) := by decide +kernel
theorem dX4_countAnswer_105 : decode cX4_countAnswer 105 = .ok (.aload_n 0, 1) := by decide +kernel
theorem dX4_countAnswer_106 : decode cX4_countAnswer 106 = .ok (.getfield 12, 3) := by decide +kernel
theorem dX4_countAnswer_109 : decode cX4_countAnswer 109 = .ok (.invokevirtual 163, 3) := by decide +kernel
theorem dX4_countAnswer_112 : decode cX4_countAnswer 112 = .ok (.ireturn, 1) := by decide +kernel
theorem dX4_countAnswer_113 : decode cX4_countAnswer 113 = .ok (.aload_n 0, 1) := by decide +kernel
theorem dX4_countAnswer_114 : decode cX4_countAnswer 114 = .ok (.invokevirtual 167, 3) := by decide +kernel
theorem dX4_countAnswer_117 : decode cX4_countAnswer 117 = .ok (.ireturn, 1) := by decide +kernel
theorem dX4_countAnswer_118 : decode cX4_countAnswer 118 = .ok (.aload_n 0, 1) := by decide +kernel
theorem dX4_countAnswer_119 : decode cX4_countAnswer 119 = .ok (.invokevirtual 170, 3) := by decide +kernel
theorem dX4_countAnswer_122 : decode cX4_countAnswer 122 = .ok (.ireturn, 1) := by decide +kernel
theorem dX4_invertedPlaces_0 : decode cX4_invertedPlaces 0 = .ok (.iconst 0, 1) := by decide +kernel
theorem dX4_invertedPlaces_1 : decode cX4_invertedPlaces 1 = .ok (.istore_n 1, 1) := by decide +kernel
theorem dX4_invertedPlaces_2 : decode cX4_invertedPlaces 2 = .ok (.iconst 0, 1) := by decide +kernel
theorem dX4_invertedPlaces_3 : decode cX4_invertedPlaces 3 = .ok (.istore_n 2, 1) := by decide +kernel
theorem dX4_invertedPlaces_4 : decode cX4_invertedPlaces 4 = .ok (.iload_n 2, 1) := by decide +kernel
theorem dX4_invertedPlaces_5 : decode cX4_invertedPlaces 5 = .ok (.bipush 30, 2) := by decide +kernel
theorem dX4_invertedPlaces_7 : decode cX4_invertedPlaces 7 = .ok (.if_icmp .ge 21, 3) := by decide +kernel
theorem dX4_invertedPlaces_10 : decode cX4_invertedPlaces 10 = .ok (.aload_n 0, 1) := by decide +kernel
theorem dX4_invertedPlaces_11 : decode cX4_invertedPlaces 11 = .ok (.getfield 23, 3) := by decide +kernel
theorem dX4_invertedPlaces_14 : decode cX4_invertedPlaces 14 = .ok (.iload_n 2, 1) := by decide +kernel
theorem dX4_invertedPlaces_15 : decode cX4_invertedPlaces 15 = .ok (.baload, 1) := by decide +kernel
theorem dX4_invertedPlaces_16 : decode cX4_invertedPlaces 16 = .ok (.ifCond .eq 6, 3) := by decide +kernel
theorem dX4_invertedPlaces_19 : decode cX4_invertedPlaces 19 = .ok (.iinc 1 1, 3) := by decide +kernel
theorem dX4_invertedPlaces_22 : decode cX4_invertedPlaces 22 = .ok (.iinc 2 1, 3) := by decide +kernel
theorem dX4_invertedPlaces_25 : decode cX4_invertedPlaces 25 = .ok (.goto (-21), 3) := by decide +kernel
theorem dX4_invertedPlaces_28 : decode cX4_invertedPlaces 28 = .ok (.iload_n 1, 1) := by decide +kernel
theorem dX4_invertedPlaces_29 : decode cX4_invertedPlaces 29 = .ok (.ireturn, 1) := by decide +kernel
set_option maxRecDepth 20000 in
theorem ggX4_worthOfSheets_X2_worth : GoodIn wsX4_worthOfSheets wsX2_worth := goodIn_r _ [7, 8, 9, 10, 6, 11, 12, 13, 19, 20] (by decide +kernel) (by decide +kernel)
set_option maxRecDepth 20000 in
theorem gX4_worthOfSheets_X2_worth : GoodIn wsX4_worthOfSheets (wsV RX4 173 RX2 yX2_worth wsX2_worth) := goodIn_app (goodIn_of _ (by decide +kernel)) ggX4_worthOfSheets_X2_worth
theorem dX4_worthOfSheets_0 : decode cX4_worthOfSheets 0 = .ok (.iconst 0, 1) := by decide +kernel
theorem dX4_worthOfSheets_1 : decode cX4_worthOfSheets 1 = .ok (.istore_n 1, 1) := by decide +kernel
theorem dX4_worthOfSheets_2 : decode cX4_worthOfSheets 2 = .ok (.iconst 0, 1) := by decide +kernel
theorem dX4_worthOfSheets_3 : decode cX4_worthOfSheets 3 = .ok (.istore_n 2, 1) := by decide +kernel
theorem dX4_worthOfSheets_4 : decode cX4_worthOfSheets 4 = .ok (.iload_n 2, 1) := by decide +kernel
theorem dX4_worthOfSheets_5 : decode cX4_worthOfSheets 5 = .ok (.aload_n 0, 1) := by decide +kernel
theorem dX4_worthOfSheets_6 : decode cX4_worthOfSheets 6 = .ok (.getfield 88, 3) := by decide +kernel
theorem dX4_worthOfSheets_9 : decode cX4_worthOfSheets 9 = .ok (.if_icmp .ge 21, 3) := by decide +kernel
theorem dX4_worthOfSheets_12 : decode cX4_worthOfSheets 12 = .ok (.iload_n 1, 1) := by decide +kernel
theorem dX4_worthOfSheets_13 : decode cX4_worthOfSheets 13 = .ok (.aload_n 0, 1) := by decide +kernel
theorem dX4_worthOfSheets_14 : decode cX4_worthOfSheets 14 = .ok (.getfield 29, 3) := by decide +kernel
theorem dX4_worthOfSheets_17 : decode cX4_worthOfSheets 17 = .ok (.iload_n 2, 1) := by decide +kernel
theorem dX4_worthOfSheets_18 : decode cX4_worthOfSheets 18 = .ok (.aaload, 1) := by decide +kernel
theorem dX4_worthOfSheets_19 : decode cX4_worthOfSheets 19 = .ok (.invokevirtual 173, 3) := by decide +kernel
theorem dX4_worthOfSheets_22 : decode cX4_worthOfSheets 22 = .ok (.iadd, 1) := by decide +kernel
theorem dX4_worthOfSheets_23 : decode cX4_worthOfSheets 23 = .ok (.istore_n 1, 1) := by decide +kernel
theorem dX4_worthOfSheets_24 : decode cX4_worthOfSheets 24 = .ok (.iinc 2 1, 3) := by decide +kernel
theorem dX4_worthOfSheets_27 : decode cX4_worthOfSheets 27 = .ok (.goto (-23), 3) := by decide +kernel
theorem dX4_worthOfSheets_30 : decode cX4_worthOfSheets 30 = .ok (.iload_n 1, 1) := by decide +kernel
theorem dX4_worthOfSheets_31 : decode cX4_worthOfSheets 31 = .ok (.ireturn, 1) := by decide +kernel
set_option maxRecDepth 20000 in
theorem ggX4_stampsWith_X2_leftWith : GoodIn wsX4_stampsWith wsX2_leftWith := goodIn_r _ [7, 8, 9, 10, 6, 11, 12, 13, 19, 20] (by decide +kernel) (by decide +kernel)
set_option maxRecDepth 20000 in
theorem gX4_stampsWith_X2_leftWith : GoodIn wsX4_stampsWith (wsV RX4 176 RX2 yX2_leftWith wsX2_leftWith) := goodIn_app (goodIn_of _ (by decide +kernel)) ggX4_stampsWith_X2_leftWith
theorem dX4_stampsWith_0 : decode cX4_stampsWith 0 = .ok (.iconst 0, 1) := by decide +kernel
theorem dX4_stampsWith_1 : decode cX4_stampsWith 1 = .ok (.istore_n 2, 1) := by decide +kernel
theorem dX4_stampsWith_2 : decode cX4_stampsWith 2 = .ok (.iconst 0, 1) := by decide +kernel
theorem dX4_stampsWith_3 : decode cX4_stampsWith 3 = .ok (.istore_n 3, 1) := by decide +kernel
theorem dX4_stampsWith_4 : decode cX4_stampsWith 4 = .ok (.iload_n 3, 1) := by decide +kernel
theorem dX4_stampsWith_5 : decode cX4_stampsWith 5 = .ok (.aload_n 0, 1) := by decide +kernel
theorem dX4_stampsWith_6 : decode cX4_stampsWith 6 = .ok (.getfield 88, 3) := by decide +kernel
theorem dX4_stampsWith_9 : decode cX4_stampsWith 9 = .ok (.if_icmp .ge 22, 3) := by decide +kernel
theorem dX4_stampsWith_12 : decode cX4_stampsWith 12 = .ok (.iload_n 2, 1) := by decide +kernel
theorem dX4_stampsWith_13 : decode cX4_stampsWith 13 = .ok (.aload_n 0, 1) := by decide +kernel
theorem dX4_stampsWith_14 : decode cX4_stampsWith 14 = .ok (.getfield 29, 3) := by decide +kernel
theorem dX4_stampsWith_17 : decode cX4_stampsWith 17 = .ok (.iload_n 3, 1) := by decide +kernel
theorem dX4_stampsWith_18 : decode cX4_stampsWith 18 = .ok (.aaload, 1) := by decide +kernel
theorem dX4_stampsWith_19 : decode cX4_stampsWith 19 = .ok (.iload_n 1, 1) := by decide +kernel
theorem dX4_stampsWith_20 : decode cX4_stampsWith 20 = .ok (.invokevirtual 176, 3) := by decide +kernel
theorem dX4_stampsWith_23 : decode cX4_stampsWith 23 = .ok (.iadd, 1) := by decide +kernel
theorem dX4_stampsWith_24 : decode cX4_stampsWith 24 = .ok (.istore_n 2, 1) := by decide +kernel
theorem dX4_stampsWith_25 : decode cX4_stampsWith 25 = .ok (.iinc 3 1, 3) := by decide +kernel
theorem dX4_stampsWith_28 : decode cX4_stampsWith 28 = .ok (.goto (-24), 3) := by decide +kernel
theorem dX4_stampsWith_31 : decode cX4_stampsWith 31 = .ok (.iload_n 2, 1) := by decide +kernel
theorem dX4_stampsWith_32 : decode cX4_stampsWith 32 = .ok (.ireturn, 1) := by decide +kernel
theorem dX5_init_0 : decode cX5_init 0 = .ok (.aload_n 0, 1) := by decide +kernel
theorem dX5_init_1 : decode cX5_init 1 = .ok (.invokespecial 1, 3) := by decide +kernel
theorem dX5_init_4 : decode cX5_init 4 = .ok (.aload_n 0, 1) := by decide +kernel
theorem dX5_init_5 : decode cX5_init 5 = .ok (.bipush 20, 2) := by decide +kernel
theorem dX5_init_7 : decode cX5_init 7 = .ok (.putfield 7, 3) := by decide +kernel
theorem dX5_init_10 : decode cX5_init 10 = .ok (.aload_n 0, 1) := by decide +kernel
theorem dX5_init_11 : decode cX5_init 11 = .ok (.iconst 1, 1) := by decide +kernel
theorem dX5_init_12 : decode cX5_init 12 = .ok (.putfield 13, 3) := by decide +kernel
theorem dX5_init_15 : decode cX5_init 15 = .ok (.aload_n 0, 1) := by decide +kernel
theorem dX5_init_16 : decode cX5_init 16 = .ok (.bipush 7, 2) := by decide +kernel
theorem dX5_init_18 : decode cX5_init 18 = .ok (.newarray .int, 2) := by decide +kernel
theorem dX5_init_20 : decode cX5_init 20 = .ok (.dup, 1) := by decide +kernel
theorem dX5_init_21 : decode cX5_init 21 = .ok (.iconst 0, 1) := by decide +kernel
theorem dX5_init_22 : decode cX5_init 22 = .ok (.sipush 200, 3) := by decide +kernel
theorem dX5_init_25 : decode cX5_init 25 = .ok (.iastore, 1) := by decide +kernel
theorem dX5_init_26 : decode cX5_init 26 = .ok (.dup, 1) := by decide +kernel
theorem dX5_init_27 : decode cX5_init 27 = .ok (.iconst 1, 1) := by decide +kernel
theorem dX5_init_28 : decode cX5_init 28 = .ok (.sipush 200, 3) := by decide +kernel
theorem dX5_init_31 : decode cX5_init 31 = .ok (.iastore, 1) := by decide +kernel
theorem dX5_init_32 : decode cX5_init 32 = .ok (.dup, 1) := by decide +kernel
theorem dX5_init_33 : decode cX5_init 33 = .ok (.iconst 2, 1) := by decide +kernel
theorem dX5_init_34 : decode cX5_init 34 = .ok (.sipush 200, 3) := by decide +kernel
theorem dX5_init_37 : decode cX5_init 37 = .ok (.iastore, 1) := by decide +kernel
theorem dX5_init_38 : decode cX5_init 38 = .ok (.dup, 1) := by decide +kernel
theorem dX5_init_39 : decode cX5_init 39 = .ok (.iconst 3, 1) := by decide +kernel
theorem dX5_init_40 : decode cX5_init 40 = .ok (.sipush 200, 3) := by decide +kernel
theorem dX5_init_43 : decode cX5_init 43 = .ok (.iastore, 1) := by decide +kernel
theorem dX5_init_44 : decode cX5_init 44 = .ok (.dup, 1) := by decide +kernel
theorem dX5_init_45 : decode cX5_init 45 = .ok (.iconst 4, 1) := by decide +kernel
theorem dX5_init_46 : decode cX5_init 46 = .ok (.sipush 200, 3) := by decide +kernel
theorem dX5_init_49 : decode cX5_init 49 = .ok (.iastore, 1) := by decide +kernel
theorem dX5_init_50 : decode cX5_init 50 = .ok (.dup, 1) := by decide +kernel
theorem dX5_init_51 : decode cX5_init 51 = .ok (.iconst 5, 1) := by decide +kernel
theorem dX5_init_52 : decode cX5_init 52 = .ok (.sipush 200, 3) := by decide +kernel
theorem dX5_init_55 : decode cX5_init 55 = .ok (.iastore, 1) := by decide +kernel
theorem dX5_init_56 : decode cX5_init 56 = .ok (.dup, 1) := by decide +kernel
theorem dX5_init_57 : decode cX5_init 57 = .ok (.bipush 6, 2) := by decide +kernel
theorem dX5_init_59 : decode cX5_init 59 = .ok (.sipush 200, 3) := by decide +kernel
theorem dX5_init_62 : decode cX5_init 62 = .ok (.iastore, 1) := by decide +kernel
theorem dX5_init_63 : decode cX5_init 63 = .ok (.putfield 16, 3) := by decide +kernel
theorem dX5_init_66 : decode cX5_init 66 = .ok (.aload_n 0, 1) := by decide +kernel
theorem dX5_init_67 : decode cX5_init 67 = .ok (.bipush 7, 2) := by decide +kernel
theorem dX5_init_69 : decode cX5_init 69 = .ok (.newarray .int, 2) := by decide +kernel
theorem dX5_init_71 : decode cX5_init 71 = .ok (.putfield 20, 3) := by decide +kernel
theorem dX5_init_74 : decode cX5_init 74 = .ok (.aload_n 0, 1) := by decide +kernel
theorem dX5_init_75 : decode cX5_init 75 = .ok (.bipush 7, 2) := by decide +kernel
theorem dX5_init_77 : decode cX5_init 77 = .ok (.newarray .boolean, 2) := by decide +kernel
theorem dX5_init_79 : decode cX5_init 79 = .ok (.putfield 23, 3) := by decide +kernel
theorem dX5_init_82 : decode cX5_init 82 = .ok (.aload_n 0, 1) := by decide +kernel
theorem dX5_init_83 : decode cX5_init 83 = .ok (.iconst 5, 1) := by decide +kernel
theorem dX5_init_84 : decode cX5_init 84 = .ok (.bipush 6, 2) := by decide +kernel
theorem dX5_init_86 : decode cX5_init 86 = .ok (.multianewarray 27 2, 4) := by decide +kernel
theorem dX5_init_90 : decode cX5_init 90 = .ok (.putfield 29, 3) := by decide +kernel
theorem dX5_init_93 : decode cX5_init 93 = .ok (.aload_n 0, 1) := by decide +kernel
theorem dX5_init_94 : decode cX5_init 94 = .ok (.iconst 0, 1) := by decide +kernel
theorem dX5_init_95 : decode cX5_init 95 = .ok (.anewarray 32, 3) := by decide +kernel
theorem dX5_init_98 : decode cX5_init 98 = .ok (.putfield 34, 3) := by decide +kernel
theorem dX5_init_101 : decode cX5_init 101 = .ok (.aload_n 0, 1) := by decide +kernel
theorem dX5_init_102 : decode cX5_init 102 = .ok (.iconst 0, 1) := by decide +kernel
theorem dX5_init_103 : decode cX5_init 103 = .ok (.anewarray 27, 3) := by decide +kernel
theorem dX5_init_106 : decode cX5_init 106 = .ok (.putfield 38, 3) := by decide +kernel
theorem dX5_init_109 : decode cX5_init 109 = .ok (.return_, 1) := by decide +kernel
theorem dX5_sheet_0 : decode cX5_sheet 0 = .ok (.iconst 5, 1) := by decide +kernel
theorem dX5_sheet_1 : decode cX5_sheet 1 = .ok (.bipush 6, 2) := by decide +kernel
theorem dX5_sheet_3 : decode cX5_sheet 3 = .ok (.multianewarray 32 2, 4) := by decide +kernel
theorem dX5_sheet_7 : decode cX5_sheet 7 = .ok (.astore_n 1, 1) := by decide +kernel
theorem dX5_sheet_8 : decode cX5_sheet 8 = .ok (.iconst 0, 1) := by decide +kernel
theorem dX5_sheet_9 : decode cX5_sheet 9 = .ok (.istore_n 2, 1) := by decide +kernel
theorem dX5_sheet_10 : decode cX5_sheet 10 = .ok (.iload_n 2, 1) := by decide +kernel
theorem dX5_sheet_11 : decode cX5_sheet 11 = .ok (.iconst 5, 1) := by decide +kernel
theorem dX5_sheet_12 : decode cX5_sheet 12 = .ok (.if_icmp .ge 210, 3) := by decide +kernel
theorem dX5_sheet_15 : decode cX5_sheet 15 = .ok (.aload_n 0, 1) := by decide +kernel
theorem dX5_sheet_16 : decode cX5_sheet 16 = .ok (.dup, 1) := by decide +kernel
theorem dX5_sheet_17 : decode cX5_sheet 17 = .ok (.getfield 46, 3) := by decide +kernel
theorem dX5_sheet_20 : decode cX5_sheet 20 = .ok (.aload_n 0, 1) := by decide +kernel
theorem dX5_sheet_21 : decode cX5_sheet 21 = .ok (.getfield 7, 3) := by decide +kernel
theorem dX5_sheet_24 : decode cX5_sheet 24 = .ok (.bipush 20, 2) := by decide +kernel
theorem dX5_sheet_26 : decode cX5_sheet 26 = .ok (.isub, 1) := by decide +kernel
theorem dX5_sheet_27 : decode cX5_sheet 27 = .ok (.iadd, 1) := by decide +kernel
theorem dX5_sheet_28 : decode cX5_sheet 28 = .ok (.putfield 46, 3) := by decide +kernel
theorem dX5_sheet_31 : decode cX5_sheet 31 = .ok (.iconst 0, 1) := by decide +kernel
theorem dX5_sheet_32 : decode cX5_sheet 32 = .ok (.istore_n 3, 1) := by decide +kernel
theorem dX5_sheet_33 : decode cX5_sheet 33 = .ok (.iload_n 3, 1) := by decide +kernel
theorem dX5_sheet_34 : decode cX5_sheet 34 = .ok (.bipush 6, 2) := by decide +kernel
theorem dX5_sheet_36 : decode cX5_sheet 36 = .ok (.if_icmp .ge 98, 3) := by decide +kernel
theorem dX5_sheet_39 : decode cX5_sheet 39 = .ok (.aload_n 0, 1) := by decide +kernel
theorem dX5_sheet_40 : decode cX5_sheet 40 = .ok (.getfield 46, 3) := by decide +kernel
theorem dX5_sheet_43 : decode cX5_sheet 43 = .ok (.bipush 6, 2) := by decide +kernel
theorem dX5_sheet_45 : decode cX5_sheet 45 = .ok (.if_icmp .gt 12, 3) := by decide +kernel
theorem dX5_sheet_48 : decode cX5_sheet 48 = .ok (.aload_n 0, 1) := by decide +kernel
theorem dX5_sheet_49 : decode cX5_sheet 49 = .ok (.getfield 46, 3) := by decide +kernel
theorem dX5_sheet_52 : decode cX5_sheet 52 = .ok (.bipush (-6), 2) := by decide +kernel
theorem dX5_sheet_54 : decode cX5_sheet 54 = .ok (.if_icmp .ge 7, 3) := by decide +kernel
theorem dX5_sheet_57 : decode cX5_sheet 57 = .ok (.iconst 1, 1) := by decide +kernel
theorem dX5_sheet_58 : decode cX5_sheet 58 = .ok (.goto 4, 3) := by decide +kernel
theorem dX5_sheet_61 : decode cX5_sheet 61 = .ok (.iconst 0, 1) := by decide +kernel
theorem dX5_sheet_62 : decode cX5_sheet 62 = .ok (.istore 4, 2) := by decide +kernel
theorem dX5_sheet_64 : decode cX5_sheet 64 = .ok (.aload_n 0, 1) := by decide +kernel
theorem dX5_sheet_65 : decode cX5_sheet 65 = .ok (.getfield 23, 3) := by decide +kernel
theorem dX5_sheet_68 : decode cX5_sheet 68 = .ok (.iload_n 3, 1) := by decide +kernel
theorem dX5_sheet_69 : decode cX5_sheet 69 = .ok (.baload, 1) := by decide +kernel
theorem dX5_sheet_70 : decode cX5_sheet 70 = .ok (.ifCond .eq 6, 3) := by decide +kernel
theorem dX5_sheet_73 : decode cX5_sheet 73 = .ok (.iinc 4 2, 3) := by decide +kernel
theorem dX5_sheet_76 : decode cX5_sheet 76 = .ok (.aload_n 0, 1) := by decide +kernel
theorem dX5_sheet_77 : decode cX5_sheet 77 = .ok (.getfield 23, 3) := by decide +kernel
theorem dX5_sheet_80 : decode cX5_sheet 80 = .ok (.iload_n 3, 1) := by decide +kernel
theorem dX5_sheet_81 : decode cX5_sheet 81 = .ok (.iconst 1, 1) := by decide +kernel
theorem dX5_sheet_82 : decode cX5_sheet 82 = .ok (.iadd, 1) := by decide +kernel
theorem dX5_sheet_83 : decode cX5_sheet 83 = .ok (.baload, 1) := by decide +kernel
theorem dX5_sheet_84 : decode cX5_sheet 84 = .ok (.ifCond .eq 6, 3) := by decide +kernel
theorem dX5_sheet_87 : decode cX5_sheet 87 = .ok (.iinc 4 4, 3) := by decide +kernel
theorem dX5_sheet_90 : decode cX5_sheet 90 = .ok (.aload_n 0, 1) := by decide +kernel
theorem dX5_sheet_91 : decode cX5_sheet 91 = .ok (.getfield 29, 3) := by decide +kernel
theorem dX5_sheet_94 : decode cX5_sheet 94 = .ok (.iload_n 2, 1) := by decide +kernel
theorem dX5_sheet_95 : decode cX5_sheet 95 = .ok (.aaload, 1) := by decide +kernel
theorem dX5_sheet_96 : decode cX5_sheet 96 = .ok (.iload_n 3, 1) := by decide +kernel
theorem dX5_sheet_97 : decode cX5_sheet 97 = .ok (.baload, 1) := by decide +kernel
theorem dX5_sheet_98 : decode cX5_sheet 98 = .ok (.ifCond .eq 6, 3) := by decide +kernel
theorem dX5_sheet_101 : decode cX5_sheet 101 = .ok (.iinc 4 8, 3) := by decide +kernel
theorem dX5_sheet_104 : decode cX5_sheet 104 = .ok (.aload_n 0, 1) := by decide +kernel
theorem dX5_sheet_105 : decode cX5_sheet 105 = .ok (.getfield 49, 3) := by decide +kernel
theorem dX5_sheet_108 : decode cX5_sheet 108 = .ok (.iload_n 3, 1) := by decide +kernel
theorem dX5_sheet_109 : decode cX5_sheet 109 = .ok (.iadd, 1) := by decide +kernel
theorem dX5_sheet_110 : decode cX5_sheet 110 = .ok (.aload_n 0, 1) := by decide +kernel
theorem dX5_sheet_111 : decode cX5_sheet 111 = .ok (.getfield 13, 3) := by decide +kernel
theorem dX5_sheet_114 : decode cX5_sheet 114 = .ok (.irem, 1) := by decide +kernel
theorem dX5_sheet_115 : decode cX5_sheet 115 = .ok (.ifCond .eq 6, 3) := by decide +kernel
theorem dX5_sheet_118 : decode cX5_sheet 118 = .ok (.iinc 4 16, 3) := by decide +kernel
theorem dX5_sheet_121 : decode cX5_sheet 121 = .ok (.aload_n 1, 1) := by decide +kernel
theorem dX5_sheet_122 : decode cX5_sheet 122 = .ok (.iload_n 2, 1) := by decide +kernel
theorem dX5_sheet_123 : decode cX5_sheet 123 = .ok (.aaload, 1) := by decide +kernel
theorem dX5_sheet_124 : decode cX5_sheet 124 = .ok (.iload_n 3, 1) := by decide +kernel
theorem dX5_sheet_125 : decode cX5_sheet 125 = .ok (.iload 4, 2) := by decide +kernel
theorem dX5_sheet_127 : decode cX5_sheet 127 = .ok (.iastore, 1) := by decide +kernel
theorem dX5_sheet_128 : decode cX5_sheet 128 = .ok (.iinc 3 1, 3) := by decide +kernel
theorem dX5_sheet_131 : decode cX5_sheet 131 = .ok (.goto (-98), 3) := by decide +kernel
theorem dX5_sheet_134 : decode cX5_sheet 134 = .ok (.iconst 0, 1) := by decide +kernel
theorem dX5_sheet_135 : decode cX5_sheet 135 = .ok (.istore_n 3, 1) := by decide +kernel
theorem dX5_sheet_136 : decode cX5_sheet 136 = .ok (.iload_n 3, 1) := by decide +kernel
theorem dX5_sheet_137 : decode cX5_sheet 137 = .ok (.bipush 7, 2) := by decide +kernel
theorem dX5_sheet_139 : decode cX5_sheet 139 = .ok (.if_icmp .ge 57, 3) := by decide +kernel
theorem dX5_sheet_142 : decode cX5_sheet 142 = .ok (.aload_n 0, 1) := by decide +kernel
theorem dX5_sheet_143 : decode cX5_sheet 143 = .ok (.getfield 23, 3) := by decide +kernel
theorem dX5_sheet_146 : decode cX5_sheet 146 = .ok (.iload_n 3, 1) := by decide +kernel
theorem dX5_sheet_147 : decode cX5_sheet 147 = .ok (.baload, 1) := by decide +kernel
theorem dX5_sheet_148 : decode cX5_sheet 148 = .ok (.ifCond .eq 6, 3) := by decide +kernel
theorem dX5_sheet_151 : decode cX5_sheet 151 = .ok (.goto 39, 3) := by decide +kernel
theorem dX5_sheet_154 : decode cX5_sheet 154 = .ok (.aload_n 0, 1) := by decide +kernel
theorem dX5_sheet_155 : decode cX5_sheet 155 = .ok (.getfield 20, 3) := by decide +kernel
theorem dX5_sheet_158 : decode cX5_sheet 158 = .ok (.iload_n 3, 1) := by decide +kernel
theorem dX5_sheet_159 : decode cX5_sheet 159 = .ok (.dup2, 1) := by decide +kernel
theorem dX5_sheet_160 : decode cX5_sheet 160 = .ok (.iaload, 1) := by decide +kernel
theorem dX5_sheet_161 : decode cX5_sheet 161 = .ok (.iconst 1, 1) := by decide +kernel
theorem dX5_sheet_162 : decode cX5_sheet 162 = .ok (.iadd, 1) := by decide +kernel
theorem dX5_sheet_163 : decode cX5_sheet 163 = .ok (.iastore, 1) := by decide +kernel
theorem dX5_sheet_164 : decode cX5_sheet 164 = .ok (.aload_n 0, 1) := by decide +kernel
theorem dX5_sheet_165 : decode cX5_sheet 165 = .ok (.getfield 23, 3) := by decide +kernel
theorem dX5_sheet_168 : decode cX5_sheet 168 = .ok (.iload_n 3, 1) := by decide +kernel
theorem dX5_sheet_169 : decode cX5_sheet 169 = .ok (.aload_n 0, 1) := by decide +kernel
theorem dX5_sheet_170 : decode cX5_sheet 170 = .ok (.getfield 20, 3) := by decide +kernel
theorem dX5_sheet_173 : decode cX5_sheet 173 = .ok (.iload_n 3, 1) := by decide +kernel
theorem dX5_sheet_174 : decode cX5_sheet 174 = .ok (.iaload, 1) := by decide +kernel
theorem dX5_sheet_175 : decode cX5_sheet 175 = .ok (.aload_n 0, 1) := by decide +kernel
theorem dX5_sheet_176 : decode cX5_sheet 176 = .ok (.getfield 16, 3) := by decide +kernel
theorem dX5_sheet_179 : decode cX5_sheet 179 = .ok (.iload_n 3, 1) := by decide +kernel
theorem dX5_sheet_180 : decode cX5_sheet 180 = .ok (.iaload, 1) := by decide +kernel
theorem dX5_sheet_181 : decode cX5_sheet 181 = .ok (.if_icmp .le 7, 3) := by decide +kernel
theorem dX5_sheet_184 : decode cX5_sheet 184 = .ok (.iconst 1, 1) := by decide +kernel
theorem dX5_sheet_185 : decode cX5_sheet 185 = .ok (.goto 4, 3) := by decide +kernel
theorem dX5_sheet_188 : decode cX5_sheet 188 = .ok (.iconst 0, 1) := by decide +kernel
theorem dX5_sheet_189 : decode cX5_sheet 189 = .ok (.bastore, 1) := by decide +kernel
theorem dX5_sheet_190 : decode cX5_sheet 190 = .ok (.iinc 3 1, 3) := by decide +kernel
theorem dX5_sheet_193 : decode cX5_sheet 193 = .ok (.goto (-57), 3) := by decide +kernel
theorem dX5_sheet_196 : decode cX5_sheet 196 = .ok (.aload_n 0, 1) := by decide +kernel
theorem dX5_sheet_197 : decode cX5_sheet 197 = .ok (.dup, 1) := by decide +kernel
theorem dX5_sheet_198 : decode cX5_sheet 198 = .ok (.getfield 52, 3) := by decide +kernel
theorem dX5_sheet_201 : decode cX5_sheet 201 = .ok (.iconst 1, 1) := by decide +kernel
theorem dX5_sheet_202 : decode cX5_sheet 202 = .ok (.isub, 1) := by decide +kernel
theorem dX5_sheet_203 : decode cX5_sheet 203 = .ok (.putfield 52, 3) := by decide +kernel
theorem dX5_sheet_206 : decode cX5_sheet 206 = .ok (.aload_n 0, 1) := by decide +kernel
theorem dX5_sheet_207 : decode cX5_sheet 207 = .ok (.dup, 1) := by decide +kernel
theorem dX5_sheet_208 : decode cX5_sheet 208 = .ok (.getfield 49, 3) := by decide +kernel
theorem dX5_sheet_211 : decode cX5_sheet 211 = .ok (.iconst 1, 1) := by decide +kernel
theorem dX5_sheet_212 : decode cX5_sheet 212 = .ok (.iadd, 1) := by decide +kernel
theorem dX5_sheet_213 : decode cX5_sheet 213 = .ok (.putfield 49, 3) := by decide +kernel
theorem dX5_sheet_216 : decode cX5_sheet 216 = .ok (.iinc 2 1, 3) := by decide +kernel
theorem dX5_sheet_219 : decode cX5_sheet 219 = .ok (.goto (-209), 3) := by decide +kernel
theorem dX5_sheet_222 : decode cX5_sheet 222 = .ok (.aload_n 0, 1) := by decide +kernel
theorem dX5_sheet_223 : decode cX5_sheet 223 = .ok (.dup, 1) := by decide +kernel
theorem dX5_sheet_224 : decode cX5_sheet 224 = .ok (.getfield 7, 3) := by decide +kernel
theorem dX5_sheet_227 : decode cX5_sheet 227 = .ok (.aload_n 0, 1) := by decide +kernel
theorem dX5_sheet_228 : decode cX5_sheet 228 = .ok (.getfield 43, 3) := by decide +kernel
theorem dX5_sheet_231 : decode cX5_sheet 231 = .ok (.iadd, 1) := by decide +kernel
theorem dX5_sheet_232 : decode cX5_sheet 232 = .ok (.putfield 7, 3) := by decide +kernel
theorem dX5_sheet_235 : decode cX5_sheet 235 = .ok (.aload_n 0, 1) := by decide +kernel
theorem dX5_sheet_236 : decode cX5_sheet 236 = .ok (.getfield 7, 3) := by decide +kernel
theorem dX5_sheet_239 : decode cX5_sheet 239 = .ok (.bipush 10, 2) := by decide +kernel
theorem dX5_sheet_241 : decode cX5_sheet 241 = .ok (.if_icmp .ge 9, 3) := by decide +kernel
theorem dX5_sheet_244 : decode cX5_sheet 244 = .ok (.aload_n 0, 1) := by decide +kernel
theorem dX5_sheet_245 : decode cX5_sheet 245 = .ok (.bipush 10, 2) := by decide +kernel
theorem dX5_sheet_247 : decode cX5_sheet 247 = .ok (.putfield 7, 3) := by decide +kernel
theorem dX5_sheet_250 : decode cX5_sheet 250 = .ok (.aload_n 0, 1) := by decide +kernel
theorem dX5_sheet_251 : decode cX5_sheet 251 = .ok (.getfield 7, 3) := by decide +kernel
theorem dX5_sheet_254 : decode cX5_sheet 254 = .ok (.bipush 30, 2) := by decide +kernel
theorem dX5_sheet_256 : decode cX5_sheet 256 = .ok (.if_icmp .le 9, 3) := by decide +kernel
theorem dX5_sheet_259 : decode cX5_sheet 259 = .ok (.aload_n 0, 1) := by decide +kernel
theorem dX5_sheet_260 : decode cX5_sheet 260 = .ok (.bipush 30, 2) := by decide +kernel
theorem dX5_sheet_262 : decode cX5_sheet 262 = .ok (.putfield 7, 3) := by decide +kernel
theorem dX5_sheet_265 : decode cX5_sheet 265 = .ok (.aload_n 1, 1) := by decide +kernel
theorem dX5_sheet_266 : decode cX5_sheet 266 = .ok (.areturn, 1) := by decide +kernel
set_option maxRecDepth 20000 in
theorem ggX5_run_X5_sheet : GoodIn wsX5_run wsX5_sheet := goodIn_r _ [10, 2, 11, 12, 13, 14, 15, 16, 17, 18, 19, 20, 21, 22, 23, 24, 25, 26, 27, 28, 29, 30, 31, 32, 33] (by decide +kernel) (by decide +kernel)
set_option maxRecDepth 20000 in
theorem gX5_run_X5_sheet : GoodIn wsX5_run (wsV RX5 55 RX5 yX5_sheet wsX5_sheet) := goodIn_app (goodIn_of _ (by decide +kernel)) ggX5_run_X5_sheet
theorem dX5_run_0 : decode cX5_run 0 = .ok (.aload_n 0, 1) := by decide +kernel
theorem dX5_run_1 : decode cX5_run 1 = .ok (.getfield 34, 3) := by decide +kernel
theorem dX5_run_4 : decode cX5_run 4 = .ok (.arraylength, 1) := by decide +kernel
theorem dX5_run_5 : decode cX5_run 5 = .ok (.istore_n 1, 1) := by decide +kernel
theorem dX5_run_6 : decode cX5_run 6 = .ok (.iload_n 1, 1) := by decide +kernel
theorem dX5_run_7 : decode cX5_run 7 = .ok (.iconst 1, 1) := by decide +kernel
theorem dX5_run_8 : decode cX5_run 8 = .ok (.iadd, 1) := by decide +kernel
theorem dX5_run_9 : decode cX5_run 9 = .ok (.anewarray 32, 3) := by decide +kernel
theorem dX5_run_12 : decode cX5_run 12 = .ok (.astore_n 2, 1) := by decide +kernel
theorem dX5_run_13 : decode cX5_run 13 = .ok (.iload_n 1, 1) := by decide +kernel
theorem dX5_run_14 : decode cX5_run 14 = .ok (.iconst 1, 1) := by decide +kernel
theorem dX5_run_15 : decode cX5_run 15 = .ok (.iadd, 1) := by decide +kernel
theorem dX5_run_16 : decode cX5_run 16 = .ok (.anewarray 27, 3) := by decide +kernel
theorem dX5_run_19 : decode cX5_run 19 = .ok (.astore_n 3, 1) := by decide +kernel
theorem dX5_run_20 : decode cX5_run 20 = .ok (.iconst 0, 1) := by decide +kernel
theorem dX5_run_21 : decode cX5_run 21 = .ok (.istore 4, 2) := by decide +kernel
theorem dX5_run_23 : decode cX5_run 23 = .ok (.iload 4, 2) := by decide +kernel
theorem dX5_run_25 : decode cX5_run 25 = .ok (.iload_n 1, 1) := by decide +kernel
theorem dX5_run_26 : decode cX5_run 26 = .ok (.if_icmp .ge 31, 3) := by decide +kernel
theorem dX5_run_29 : decode cX5_run 29 = .ok (.aload_n 2, 1) := by decide +kernel
theorem dX5_run_30 : decode cX5_run 30 = .ok (.iload 4, 2) := by decide +kernel
theorem dX5_run_32 : decode cX5_run 32 = .ok (.aload_n 0, 1) := by decide +kernel
theorem dX5_run_33 : decode cX5_run 33 = .ok (.getfield 34, 3) := by decide +kernel
theorem dX5_run_36 : decode cX5_run 36 = .ok (.iload 4, 2) := by decide +kernel
theorem dX5_run_38 : decode cX5_run 38 = .ok (.aaload, 1) := by decide +kernel
theorem dX5_run_39 : decode cX5_run 39 = .ok (.aastore, 1) := by decide +kernel
theorem dX5_run_40 : decode cX5_run 40 = .ok (.aload_n 3, 1) := by decide +kernel
theorem dX5_run_41 : decode cX5_run 41 = .ok (.iload 4, 2) := by decide +kernel
theorem dX5_run_43 : decode cX5_run 43 = .ok (.aload_n 0, 1) := by decide +kernel
theorem dX5_run_44 : decode cX5_run 44 = .ok (.getfield 38, 3) := by decide +kernel
theorem dX5_run_47 : decode cX5_run 47 = .ok (.iload 4, 2) := by decide +kernel
theorem dX5_run_49 : decode cX5_run 49 = .ok (.aaload, 1) := by decide +kernel
theorem dX5_run_50 : decode cX5_run 50 = .ok (.aastore, 1) := by decide +kernel
theorem dX5_run_51 : decode cX5_run 51 = .ok (.iinc 4 1, 3) := by decide +kernel
theorem dX5_run_54 : decode cX5_run 54 = .ok (.goto (-31), 3) := by decide +kernel
theorem dX5_run_57 : decode cX5_run 57 = .ok (.aload_n 2, 1) := by decide +kernel
theorem dX5_run_58 : decode cX5_run 58 = .ok (.iload_n 1, 1) := by decide +kernel
theorem dX5_run_59 : decode cX5_run 59 = .ok (.aload_n 0, 1) := by decide +kernel
theorem dX5_run_60 : decode cX5_run 60 = .ok (.invokevirtual 55, 3) := by decide +kernel
theorem dX5_run_63 : decode cX5_run 63 = .ok (.aastore, 1) := by decide +kernel
theorem dX5_run_64 : decode cX5_run 64 = .ok (.aload_n 3, 1) := by decide +kernel
theorem dX5_run_65 : decode cX5_run 65 = .ok (.iload_n 1, 1) := by decide +kernel
theorem dX5_run_66 : decode cX5_run 66 = .ok (.iconst 5, 1) := by decide +kernel
theorem dX5_run_67 : decode cX5_run 67 = .ok (.bipush 6, 2) := by decide +kernel
theorem dX5_run_69 : decode cX5_run 69 = .ok (.multianewarray 27 2, 4) := by decide +kernel
theorem dX5_run_73 : decode cX5_run 73 = .ok (.aastore, 1) := by decide +kernel
theorem dX5_run_74 : decode cX5_run 74 = .ok (.aload_n 0, 1) := by decide +kernel
theorem dX5_run_75 : decode cX5_run 75 = .ok (.aload_n 2, 1) := by decide +kernel
theorem dX5_run_76 : decode cX5_run 76 = .ok (.putfield 34, 3) := by decide +kernel
theorem dX5_run_79 : decode cX5_run 79 = .ok (.aload_n 0, 1) := by decide +kernel
theorem dX5_run_80 : decode cX5_run 80 = .ok (.aload_n 3, 1) := by decide +kernel
theorem dX5_run_81 : decode cX5_run 81 = .ok (.putfield 38, 3) := by decide +kernel
theorem dX5_run_84 : decode cX5_run 84 = .ok (.iload_n 1, 1) := by decide +kernel
theorem dX5_run_85 : decode cX5_run 85 = .ok (.ireturn, 1) := by decide +kernel
theorem dX5_worth_0 : decode cX5_worth 0 = .ok (.iload_n 1, 1) := by decide +kernel
theorem dX5_worth_1 : decode cX5_worth 1 = .ok (.ifCond .ne 10, 3) := by decide +kernel
theorem dX5_worth_4 : decode cX5_worth 4 = .ok (.iload_n 0, 1) := by decide +kernel
theorem dX5_worth_5 : decode cX5_worth 5 = .ok (.bipush 8, 2) := by decide +kernel
theorem dX5_worth_7 : decode cX5_worth 7 = .ok (.irem, 1) := by decide +kernel
theorem dX5_worth_8 : decode cX5_worth 8 = .ok (.ifCond .eq 5, 3) := by decide +kernel
theorem dX5_worth_11 : decode cX5_worth 11 = .ok (.iconst 0, 1) := by decide +kernel
theorem dX5_worth_12 : decode cX5_worth 12 = .ok (.ireturn, 1) := by decide +kernel
theorem dX5_worth_13 : decode cX5_worth 13 = .ok (.iload_n 0, 1) := by decide +kernel
theorem dX5_worth_14 : decode cX5_worth 14 = .ok (.ifCond .ne 7, 3) := by decide +kernel
theorem dX5_worth_17 : decode cX5_worth 17 = .ok (.iconst 1, 1) := by decide +kernel
theorem dX5_worth_18 : decode cX5_worth 18 = .ok (.goto 26, 3) := by decide +kernel
theorem dX5_worth_21 : decode cX5_worth 21 = .ok (.iload_n 0, 1) := by decide +kernel
theorem dX5_worth_22 : decode cX5_worth 22 = .ok (.bipush 8, 2) := by decide +kernel
theorem dX5_worth_24 : decode cX5_worth 24 = .ok (.if_icmp .ne 8, 3) := by decide +kernel
theorem dX5_worth_27 : decode cX5_worth 27 = .ok (.bipush 21, 2) := by decide +kernel
theorem dX5_worth_29 : decode cX5_worth 29 = .ok (.goto 15, 3) := by decide +kernel
theorem dX5_worth_32 : decode cX5_worth 32 = .ok (.iload_n 0, 1) := by decide +kernel
theorem dX5_worth_33 : decode cX5_worth 33 = .ok (.bipush 16, 2) := by decide +kernel
theorem dX5_worth_35 : decode cX5_worth 35 = .ok (.if_icmp .ne 7, 3) := by decide +kernel
theorem dX5_worth_38 : decode cX5_worth 38 = .ok (.iconst 5, 1) := by decide +kernel
theorem dX5_worth_39 : decode cX5_worth 39 = .ok (.goto 5, 3) := by decide +kernel
theorem dX5_worth_42 : decode cX5_worth 42 = .ok (.bipush 25, 2) := by decide +kernel
theorem dX5_worth_44 : decode cX5_worth 44 = .ok (.ireturn, 1) := by decide +kernel
set_option maxRecDepth 20000 in
theorem ggX5_told_X5_worth : GoodIn wsX5_told wsX5_worth := goodIn_r _ [11] (by decide +kernel) (by decide +kernel)
set_option maxRecDepth 20000 in
theorem gX5_told_X5_worth : GoodIn wsX5_told (va_wsS RX5 59 yX5_worth wsX5_worth) := goodIn_app (goodIn_of _ (by decide +kernel)) ggX5_told_X5_worth
theorem dX5_told_0 : decode cX5_told 0 = .ok (.iconst 0, 1) := by decide +kernel
theorem dX5_told_1 : decode cX5_told 1 = .ok (.istore_n 3, 1) := by decide +kernel
theorem dX5_told_2 : decode cX5_told 2 = .ok (.iconst 0, 1) := by decide +kernel
theorem dX5_told_3 : decode cX5_told 3 = .ok (.istore 4, 2) := by decide +kernel
theorem dX5_told_5 : decode cX5_told 5 = .ok (.iload 4, 2) := by decide +kernel
theorem dX5_told_7 : decode cX5_told 7 = .ok (.iconst 5, 1) := by decide +kernel
theorem dX5_told_8 : decode cX5_told 8 = .ok (.if_icmp .ge 199, 3) := by decide +kernel
theorem dX5_told_11 : decode cX5_told 11 = .ok (.iload_n 2, 1) := by decide +kernel
theorem dX5_told_12 : decode cX5_told 12 = .ok (.iconst 4, 1) := by decide +kernel
theorem dX5_told_13 : decode cX5_told 13 = .ok (.if_icmp .ne 19, 3) := by decide +kernel
theorem dX5_told_16 : decode cX5_told 16 = .ok (.iload_n 3, 1) := by decide +kernel
theorem dX5_told_17 : decode cX5_told 17 = .ok (.aload_n 0, 1) := by decide +kernel
theorem dX5_told_18 : decode cX5_told 18 = .ok (.getfield 34, 3) := by decide +kernel
theorem dX5_told_21 : decode cX5_told 21 = .ok (.iload_n 1, 1) := by decide +kernel
theorem dX5_told_22 : decode cX5_told 22 = .ok (.aaload, 1) := by decide +kernel
theorem dX5_told_23 : decode cX5_told 23 = .ok (.iload 4, 2) := by decide +kernel
theorem dX5_told_25 : decode cX5_told 25 = .ok (.aaload, 1) := by decide +kernel
theorem dX5_told_26 : decode cX5_told 26 = .ok (.iconst 0, 1) := by decide +kernel
theorem dX5_told_27 : decode cX5_told 27 = .ok (.iaload, 1) := by decide +kernel
theorem dX5_told_28 : decode cX5_told 28 = .ok (.iconst 2, 1) := by decide +kernel
theorem dX5_told_29 : decode cX5_told 29 = .ok (.irem, 1) := by decide +kernel
theorem dX5_told_30 : decode cX5_told 30 = .ok (.iadd, 1) := by decide +kernel
theorem dX5_told_31 : decode cX5_told 31 = .ok (.istore_n 3, 1) := by decide +kernel
theorem dX5_told_32 : decode cX5_told 32 = .ok (.iconst 0, 1) := by decide +kernel
theorem dX5_told_33 : decode cX5_told 33 = .ok (.istore 5, 2) := by decide +kernel
theorem dX5_told_35 : decode cX5_told 35 = .ok (.iload 5, 2) := by decide +kernel
theorem dX5_told_37 : decode cX5_told 37 = .ok (.bipush 6, 2) := by decide +kernel
theorem dX5_told_39 : decode cX5_told 39 = .ok (.if_icmp .ge 162, 3) := by decide +kernel
theorem dX5_told_42 : decode cX5_told 42 = .ok (.aload_n 0, 1) := by decide +kernel
theorem dX5_told_43 : decode cX5_told 43 = .ok (.getfield 38, 3) := by decide +kernel
theorem dX5_told_46 : decode cX5_told 46 = .ok (.iload_n 1, 1) := by decide +kernel
theorem dX5_told_47 : decode cX5_told 47 = .ok (.aaload, 1) := by decide +kernel
theorem dX5_told_48 : decode cX5_told 48 = .ok (.iload 4, 2) := by decide +kernel
theorem dX5_told_50 : decode cX5_told 50 = .ok (.aaload, 1) := by decide +kernel
theorem dX5_told_51 : decode cX5_told 51 = .ok (.iload 5, 2) := by decide +kernel
theorem dX5_told_53 : decode cX5_told 53 = .ok (.baload, 1) := by decide +kernel
theorem dX5_told_54 : decode cX5_told 54 = .ok (.istore 6, 2) := by decide +kernel
theorem dX5_told_56 : decode cX5_told 56 = .ok (.aload_n 0, 1) := by decide +kernel
theorem dX5_told_57 : decode cX5_told 57 = .ok (.getfield 34, 3) := by decide +kernel
theorem dX5_told_60 : decode cX5_told 60 = .ok (.iload_n 1, 1) := by decide +kernel
theorem dX5_told_61 : decode cX5_told 61 = .ok (.aaload, 1) := by decide +kernel
theorem dX5_told_62 : decode cX5_told 62 = .ok (.iload 4, 2) := by decide +kernel
theorem dX5_told_64 : decode cX5_told 64 = .ok (.aaload, 1) := by decide +kernel
theorem dX5_told_65 : decode cX5_told 65 = .ok (.iload 5, 2) := by decide +kernel
theorem dX5_told_67 : decode cX5_told 67 = .ok (.iaload, 1) := by decide +kernel
theorem dX5_told_68 : decode cX5_told 68 = .ok (.istore 7, 2) := by decide +kernel
theorem dX5_told_70 : decode cX5_told 70 = .ok (.iload_n 2, 1) := by decide +kernel
theorem dX5_told_71 : decode cX5_told 71 = .ok (.ifCond .ne 16, 3) := by decide +kernel
theorem dX5_told_74 : decode cX5_told 74 = .ok (.iload_n 3, 1) := by decide +kernel
theorem dX5_told_75 : decode cX5_told 75 = .ok (.iload 6, 2) := by decide +kernel
theorem dX5_told_77 : decode cX5_told 77 = .ok (.ifCond .eq 7, 3) := by decide +kernel
theorem dX5_told_80 : decode cX5_told 80 = .ok (.iconst 0, 1) := by decide +kernel
theorem dX5_told_81 : decode cX5_told 81 = .ok (.goto 4, 3) := by decide +kernel
theorem dX5_told_84 : decode cX5_told 84 = .ok (.iconst 1, 1) := by decide +kernel
theorem dX5_told_85 : decode cX5_told 85 = .ok (.iadd, 1) := by decide +kernel
theorem dX5_told_86 : decode cX5_told 86 = .ok (.istore_n 3, 1) := by decide +kernel
theorem dX5_told_87 : decode cX5_told 87 = .ok (.iload_n 2, 1) := by decide +kernel
theorem dX5_told_88 : decode cX5_told 88 = .ok (.iconst 1, 1) := by decide +kernel
theorem dX5_told_89 : decode cX5_told 89 = .ok (.if_icmp .ne 21, 3) := by decide +kernel
theorem dX5_told_92 : decode cX5_told 92 = .ok (.iload_n 3, 1) := by decide +kernel
theorem dX5_told_93 : decode cX5_told 93 = .ok (.iload 6, 2) := by decide +kernel
theorem dX5_told_95 : decode cX5_told 95 = .ok (.ifCond .ne 8, 3) := by decide +kernel
theorem dX5_told_98 : decode cX5_told 98 = .ok (.iload 7, 2) := by decide +kernel
theorem dX5_told_100 : decode cX5_told 100 = .ok (.ifCond .eq 7, 3) := by decide +kernel
theorem dX5_told_103 : decode cX5_told 103 = .ok (.iconst 0, 1) := by decide +kernel
theorem dX5_told_104 : decode cX5_told 104 = .ok (.goto 4, 3) := by decide +kernel
theorem dX5_told_107 : decode cX5_told 107 = .ok (.iconst 1, 1) := by decide +kernel
theorem dX5_told_108 : decode cX5_told 108 = .ok (.iadd, 1) := by decide +kernel
theorem dX5_told_109 : decode cX5_told 109 = .ok (.istore_n 3, 1) := by decide +kernel
theorem dX5_told_110 : decode cX5_told 110 = .ok (.iload_n 2, 1) := by decide +kernel
theorem dX5_told_111 : decode cX5_told 111 = .ok (.iconst 2, 1) := by decide +kernel
theorem dX5_told_112 : decode cX5_told 112 = .ok (.if_icmp .ne 13, 3) := by decide +kernel
theorem dX5_told_115 : decode cX5_told 115 = .ok (.iload_n 3, 1) := by decide +kernel
theorem dX5_told_116 : decode cX5_told 116 = .ok (.iload 7, 2) := by decide +kernel
theorem dX5_told_118 : decode cX5_told 118 = .ok (.iload 6, 2) := by decide +kernel
theorem dX5_told_120 : decode cX5_told 120 = .ok (.invokestatic 59, 3) := by decide +kernel
theorem dX5_told_123 : decode cX5_told 123 = .ok (.iadd, 1) := by decide +kernel
theorem dX5_told_124 : decode cX5_told 124 = .ok (.istore_n 3, 1) := by decide +kernel
theorem dX5_told_125 : decode cX5_told 125 = .ok (.iload_n 2, 1) := by decide +kernel
theorem dX5_told_126 : decode cX5_told 126 = .ok (.iconst 3, 1) := by decide +kernel
theorem dX5_told_127 : decode cX5_told 127 = .ok (.if_icmp .ne 68, 3) := by decide +kernel
theorem dX5_told_130 : decode cX5_told 130 = .ok (.iload 5, 2) := by decide +kernel
theorem dX5_told_132 : decode cX5_told 132 = .ok (.iconst 5, 1) := by decide +kernel
theorem dX5_told_133 : decode cX5_told 133 = .ok (.if_icmp .ge 62, 3) := by decide +kernel
theorem dX5_told_136 : decode cX5_told 136 = .ok (.iload 6, 2) := by decide +kernel
theorem dX5_told_138 : decode cX5_told 138 = .ok (.ifCond .ne 57, 3) := by decide +kernel
theorem dX5_told_141 : decode cX5_told 141 = .ok (.aload_n 0, 1) := by decide +kernel
theorem dX5_told_142 : decode cX5_told 142 = .ok (.getfield 38, 3) := by decide +kernel
theorem dX5_told_145 : decode cX5_told 145 = .ok (.iload_n 1, 1) := by decide +kernel
theorem dX5_told_146 : decode cX5_told 146 = .ok (.aaload, 1) := by decide +kernel
theorem dX5_told_147 : decode cX5_told 147 = .ok (.iload 4, 2) := by decide +kernel
theorem dX5_told_149 : decode cX5_told 149 = .ok (.aaload, 1) := by decide +kernel
theorem dX5_told_150 : decode cX5_told 150 = .ok (.iload 5, 2) := by decide +kernel
theorem dX5_told_152 : decode cX5_told 152 = .ok (.iconst 1, 1) := by decide +kernel
theorem dX5_told_153 : decode cX5_told 153 = .ok (.iadd, 1) := by decide +kernel
theorem dX5_told_154 : decode cX5_told 154 = .ok (.baload, 1) := by decide +kernel
theorem dX5_told_155 : decode cX5_told 155 = .ok (.ifCond .ne 40, 3) := by decide +kernel
theorem dX5_told_158 : decode cX5_told 158 = .ok (.iload_n 3, 1) := by decide +kernel
theorem dX5_told_159 : decode cX5_told 159 = .ok (.iload 7, 2) := by decide +kernel
theorem dX5_told_161 : decode cX5_told 161 = .ok (.bipush 8, 2) := by decide +kernel
theorem dX5_told_163 : decode cX5_told 163 = .ok (.idiv, 1) := by decide +kernel
theorem dX5_told_164 : decode cX5_told 164 = .ok (.iconst 2, 1) := by decide +kernel
theorem dX5_told_165 : decode cX5_told 165 = .ok (.irem, 1) := by decide +kernel
theorem dX5_told_166 : decode cX5_told 166 = .ok (.aload_n 0, 1) := by decide +kernel
theorem dX5_told_167 : decode cX5_told 167 = .ok (.getfield 34, 3) := by decide +kernel
theorem dX5_told_170 : decode cX5_told 170 = .ok (.iload_n 1, 1) := by decide +kernel
theorem dX5_told_171 : decode cX5_told 171 = .ok (.aaload, 1) := by decide +kernel
theorem dX5_told_172 : decode cX5_told 172 = .ok (.iload 4, 2) := by decide +kernel
theorem dX5_told_174 : decode cX5_told 174 = .ok (.aaload, 1) := by decide +kernel
theorem dX5_told_175 : decode cX5_told 175 = .ok (.iload 5, 2) := by decide +kernel
theorem dX5_told_177 : decode cX5_told 177 = .ok (.iconst 1, 1) := by decide +kernel
theorem dX5_told_178 : decode cX5_told 178 = .ok (.iadd, 1) := by decide +kernel
theorem dX5_told_179 : decode cX5_told 179 = .ok (.iaload, 1) := by decide +kernel
theorem dX5_told_180 : decode cX5_told 180 = .ok (.bipush 8, 2) := by decide +kernel
theorem dX5_told_182 : decode cX5_told 182 = .ok (.idiv, 1) := by decide +kernel
theorem dX5_told_183 : decode cX5_told 183 = .ok (.iconst 2, 1) := by decide +kernel
theorem dX5_told_184 : decode cX5_told 184 = .ok (.irem, 1) := by decide +kernel
theorem dX5_told_185 : decode cX5_told 185 = .ok (.if_icmp .eq 7, 3) := by decide +kernel
theorem dX5_told_188 : decode cX5_told 188 = .ok (.iconst 1, 1) := by decide +kernel
theorem dX5_told_189 : decode cX5_told 189 = .ok (.goto 4, 3) := by decide +kernel
theorem dX5_told_192 : decode cX5_told 192 = .ok (.iconst 0, 1) := by decide +kernel
theorem dX5_told_193 : decode cX5_told 193 = .ok (.iadd, 1) := by decide +kernel
theorem dX5_told_194 : decode cX5_told 194 = .ok (.istore_n 3, 1) := by decide +kernel
theorem dX5_told_195 : decode cX5_told 195 = .ok (.iinc 5 1, 3) := by decide +kernel
theorem dX5_told_198 : decode cX5_told 198 = .ok (.goto (-163), 3) := by decide +kernel
theorem dX5_told_201 : decode cX5_told 201 = .ok (.iinc 4 1, 3) := by decide +kernel
theorem dX5_told_204 : decode cX5_told 204 = .ok (.goto (-199), 3) := by decide +kernel
theorem dX5_told_207 : decode cX5_told 207 = .ok (.iload_n 2, 1) := by decide +kernel
theorem dX5_told_208 : decode cX5_told 208 = .ok (.iconst 5, 1) := by decide +kernel
theorem dX5_told_209 : decode cX5_told 209 = .ok (.if_icmp .ge 5, 3) := by decide +kernel
theorem dX5_told_212 : decode cX5_told 212 = .ok (.iload_n 3, 1) := by decide +kernel
theorem dX5_told_213 : decode cX5_told 213 = .ok (.ireturn, 1) := by decide +kernel
theorem dX5_told_214 : decode cX5_told 214 = .ok (.iconst 0, 1) := by decide +kernel
theorem dX5_told_215 : decode cX5_told 215 = .ok (.istore 4, 2) := by decide +kernel
theorem dX5_told_217 : decode cX5_told 217 = .ok (.iconst 0, 1) := by decide +kernel
theorem dX5_told_218 : decode cX5_told 218 = .ok (.istore 5, 2) := by decide +kernel
theorem dX5_told_220 : decode cX5_told 220 = .ok (.iload 5, 2) := by decide +kernel
theorem dX5_told_222 : decode cX5_told 222 = .ok (.iconst 5, 1) := by decide +kernel
theorem dX5_told_223 : decode cX5_told 223 = .ok (.if_icmp .ge 157, 3) := by decide +kernel
theorem dX5_told_226 : decode cX5_told 226 = .ok (.bipush 6, 2) := by decide +kernel
theorem dX5_told_228 : decode cX5_told 228 = .ok (.newarray .boolean, 2) := by decide +kernel
theorem dX5_told_230 : decode cX5_told 230 = .ok (.dup, 1) := by decide +kernel
theorem dX5_told_231 : decode cX5_told 231 = .ok (.iconst 0, 1) := by decide +kernel
theorem dX5_told_232 : decode cX5_told 232 = .ok (.iconst 1, 1) := by decide +kernel
theorem dX5_told_233 : decode cX5_told 233 = .ok (.bastore, 1) := by decide +kernel
theorem dX5_told_234 : decode cX5_told 234 = .ok (.dup, 1) := by decide +kernel
theorem dX5_told_235 : decode cX5_told 235 = .ok (.iconst 1, 1) := by decide +kernel
theorem dX5_told_236 : decode cX5_told 236 = .ok (.iconst 1, 1) := by decide +kernel
theorem dX5_told_237 : decode cX5_told 237 = .ok (.bastore, 1) := by decide +kernel
theorem dX5_told_238 : decode cX5_told 238 = .ok (.dup, 1) := by decide +kernel
theorem dX5_told_239 : decode cX5_told 239 = .ok (.iconst 2, 1) := by decide +kernel
theorem dX5_told_240 : decode cX5_told 240 = .ok (.iconst 1, 1) := by decide +kernel
theorem dX5_told_241 : decode cX5_told 241 = .ok (.bastore, 1) := by decide +kernel
theorem dX5_told_242 : decode cX5_told 242 = .ok (.dup, 1) := by decide +kernel
theorem dX5_told_243 : decode cX5_told 243 = .ok (.iconst 3, 1) := by decide +kernel
theorem dX5_told_244 : decode cX5_told 244 = .ok (.iconst 1, 1) := by decide +kernel
theorem dX5_told_245 : decode cX5_told 245 = .ok (.bastore, 1) := by decide +kernel
theorem dX5_told_246 : decode cX5_told 246 = .ok (.dup, 1) := by decide +kernel
theorem dX5_told_247 : decode cX5_told 247 = .ok (.iconst 4, 1) := by decide +kernel
theorem dX5_told_248 : decode cX5_told 248 = .ok (.iconst 1, 1) := by decide +kernel
theorem dX5_told_249 : decode cX5_told 249 = .ok (.bastore, 1) := by decide +kernel
theorem dX5_told_250 : decode cX5_told 250 = .ok (.dup, 1) := by decide +kernel
theorem dX5_told_251 : decode cX5_told 251 = .ok (.iconst 5, 1) := by decide +kernel
theorem dX5_told_252 : decode cX5_told 252 = .ok (.iconst 1, 1) := by decide +kernel
theorem dX5_told_253 : decode cX5_told 253 = .ok (.bastore, 1) := by decide +kernel
theorem dX5_told_254 : decode cX5_told 254 = .ok (.astore 6, 2) := by decide +kernel
theorem dX5_told_256 : decode cX5_told 256 = .ok (.iload 5, 2) := by decide +kernel
theorem dX5_told_258 : decode cX5_told 258 = .ok (.istore 7, 2) := by decide +kernel
theorem dX5_told_260 : decode cX5_told 260 = .ok (.iload 7, 2) := by decide +kernel
theorem dX5_told_262 : decode cX5_told 262 = .ok (.iconst 5, 1) := by decide +kernel
theorem dX5_told_263 : decode cX5_told 263 = .ok (.if_icmp .ge 111, 3) := by decide +kernel
theorem dX5_told_266 : decode cX5_told 266 = .ok (.iconst 0, 1) := by decide +kernel
theorem dX5_told_267 : decode cX5_told 267 = .ok (.istore 8, 2) := by decide +kernel
theorem dX5_told_269 : decode cX5_told 269 = .ok (.iconst 0, 1) := by decide +kernel
theorem dX5_told_270 : decode cX5_told 270 = .ok (.istore 9, 2) := by decide +kernel
theorem dX5_told_272 : decode cX5_told 272 = .ok (.iload 9, 2) := by decide +kernel
theorem dX5_told_274 : decode cX5_told 274 = .ok (.bipush 6, 2) := by decide +kernel
theorem dX5_told_276 : decode cX5_told 276 = .ok (.if_icmp .ge 92, 3) := by decide +kernel
theorem dX5_told_279 : decode cX5_told 279 = .ok (.aload 6, 2) := by decide +kernel
theorem dX5_told_281 : decode cX5_told 281 = .ok (.iload 9, 2) := by decide +kernel
theorem dX5_told_283 : decode cX5_told 283 = .ok (.aload 6, 2) := by decide +kernel
theorem dX5_told_285 : decode cX5_told 285 = .ok (.iload 9, 2) := by decide +kernel
theorem dX5_told_287 : decode cX5_told 287 = .ok (.baload, 1) := by decide +kernel
theorem dX5_told_288 : decode cX5_told 288 = .ok (.ifCond .eq 37, 3) := by decide +kernel
theorem dX5_told_291 : decode cX5_told 291 = .ok (.aload_n 0, 1) := by decide +kernel
theorem dX5_told_292 : decode cX5_told 292 = .ok (.getfield 38, 3) := by decide +kernel
theorem dX5_told_295 : decode cX5_told 295 = .ok (.iload_n 1, 1) := by decide +kernel
theorem dX5_told_296 : decode cX5_told 296 = .ok (.aaload, 1) := by decide +kernel
theorem dX5_told_297 : decode cX5_told 297 = .ok (.iload 7, 2) := by decide +kernel
theorem dX5_told_299 : decode cX5_told 299 = .ok (.aaload, 1) := by decide +kernel
theorem dX5_told_300 : decode cX5_told 300 = .ok (.iload 9, 2) := by decide +kernel
theorem dX5_told_302 : decode cX5_told 302 = .ok (.baload, 1) := by decide +kernel
theorem dX5_told_303 : decode cX5_told 303 = .ok (.ifCond .ne 22, 3) := by decide +kernel
theorem dX5_told_306 : decode cX5_told 306 = .ok (.aload_n 0, 1) := by decide +kernel
theorem dX5_told_307 : decode cX5_told 307 = .ok (.getfield 34, 3) := by decide +kernel
theorem dX5_told_310 : decode cX5_told 310 = .ok (.iload_n 1, 1) := by decide +kernel
theorem dX5_told_311 : decode cX5_told 311 = .ok (.aaload, 1) := by decide +kernel
theorem dX5_told_312 : decode cX5_told 312 = .ok (.iload 7, 2) := by decide +kernel
theorem dX5_told_314 : decode cX5_told 314 = .ok (.aaload, 1) := by decide +kernel
theorem dX5_told_315 : decode cX5_told 315 = .ok (.iload 9, 2) := by decide +kernel
theorem dX5_told_317 : decode cX5_told 317 = .ok (.iaload, 1) := by decide +kernel
theorem dX5_told_318 : decode cX5_told 318 = .ok (.ifCond .ne 7, 3) := by decide +kernel
theorem dX5_told_321 : decode cX5_told 321 = .ok (.iconst 1, 1) := by decide +kernel
theorem dX5_told_322 : decode cX5_told 322 = .ok (.goto 4, 3) := by decide +kernel
theorem dX5_told_325 : decode cX5_told 325 = .ok (.iconst 0, 1) := by decide +kernel
theorem dX5_told_326 : decode cX5_told 326 = .ok (.bastore, 1) := by decide +kernel
theorem dX5_told_327 : decode cX5_told 327 = .ok (.aload 6, 2) := by decide +kernel
theorem dX5_told_329 : decode cX5_told 329 = .ok (.iload 9, 2) := by decide +kernel
theorem dX5_told_331 : decode cX5_told 331 = .ok (.baload, 1) := by decide +kernel
theorem dX5_told_332 : decode cX5_told 332 = .ok (.ifCond .eq 10, 3) := by decide +kernel
theorem dX5_told_335 : decode cX5_told 335 = .ok (.iload 8, 2) := by decide +kernel
theorem dX5_told_337 : decode cX5_told 337 = .ok (.iconst 1, 1) := by decide +kernel
theorem dX5_told_338 : decode cX5_told 338 = .ok (.iadd, 1) := by decide +kernel
theorem dX5_told_339 : decode cX5_told 339 = .ok (.goto 4, 3) := by decide +kernel
theorem dX5_told_342 : decode cX5_told 342 = .ok (.iconst 0, 1) := by decide +kernel
theorem dX5_told_343 : decode cX5_told 343 = .ok (.istore 8, 2) := by decide +kernel
theorem dX5_told_345 : decode cX5_told 345 = .ok (.iload 4, 2) := by decide +kernel
theorem dX5_told_347 : decode cX5_told 347 = .ok (.iload 8, 2) := by decide +kernel
theorem dX5_told_349 : decode cX5_told 349 = .ok (.iload 7, 2) := by decide +kernel
theorem dX5_told_351 : decode cX5_told 351 = .ok (.iload 5, 2) := by decide +kernel
theorem dX5_told_353 : decode cX5_told 353 = .ok (.isub, 1) := by decide +kernel
theorem dX5_told_354 : decode cX5_told 354 = .ok (.iconst 1, 1) := by decide +kernel
theorem dX5_told_355 : decode cX5_told 355 = .ok (.iadd, 1) := by decide +kernel
theorem dX5_told_356 : decode cX5_told 356 = .ok (.imul, 1) := by decide +kernel
theorem dX5_told_357 : decode cX5_told 357 = .ok (.invokestatic 63, 3) := by decide +kernel
theorem dX5_told_360 : decode cX5_told 360 = .ok (.istore 4, 2) := by decide +kernel
theorem dX5_told_362 : decode cX5_told 362 = .ok (.iinc 9 1, 3) := by decide +kernel
theorem dX5_told_365 : decode cX5_told 365 = .ok (.goto (-93), 3) := by decide +kernel
theorem dX5_told_368 : decode cX5_told 368 = .ok (.iinc 7 1, 3) := by decide +kernel
theorem dX5_told_371 : decode cX5_told 371 = .ok (.goto (-111), 3) := by decide +kernel
theorem dX5_told_374 : decode cX5_told 374 = .ok (.iinc 5 1, 3) := by decide +kernel
theorem dX5_told_377 : decode cX5_told 377 = .ok (.goto (-157), 3) := by decide +kernel
theorem dX5_told_380 : decode cX5_told 380 = .ok (.iload 4, 2) := by decide +kernel
theorem dX5_told_382 : decode cX5_told 382 = .ok (.ireturn, 1) := by decide +kernel
theorem dX5_broken_0 : decode cX5_broken 0 = .ok (.iconst 0, 1) := by decide +kernel
theorem dX5_broken_1 : decode cX5_broken 1 = .ok (.istore_n 1, 1) := by decide +kernel
theorem dX5_broken_2 : decode cX5_broken 2 = .ok (.aload_n 0, 1) := by decide +kernel
theorem dX5_broken_3 : decode cX5_broken 3 = .ok (.getfield 23, 3) := by decide +kernel
theorem dX5_broken_6 : decode cX5_broken 6 = .ok (.astore_n 2, 1) := by decide +kernel
theorem dX5_broken_7 : decode cX5_broken 7 = .ok (.aload_n 2, 1) := by decide +kernel
theorem dX5_broken_8 : decode cX5_broken 8 = .ok (.arraylength, 1) := by decide +kernel
theorem dX5_broken_9 : decode cX5_broken 9 = .ok (.istore_n 3, 1) := by decide +kernel
theorem dX5_broken_10 : decode cX5_broken 10 = .ok (.iconst 0, 1) := by decide +kernel
theorem dX5_broken_11 : decode cX5_broken 11 = .ok (.istore 4, 2) := by decide +kernel
theorem dX5_broken_13 : decode cX5_broken 13 = .ok (.iload 4, 2) := by decide +kernel
theorem dX5_broken_15 : decode cX5_broken 15 = .ok (.iload_n 3, 1) := by decide +kernel
theorem dX5_broken_16 : decode cX5_broken 16 = .ok (.if_icmp .ge 28, 3) := by decide +kernel
theorem dX5_broken_19 : decode cX5_broken 19 = .ok (.aload_n 2, 1) := by decide +kernel
theorem dX5_broken_20 : decode cX5_broken 20 = .ok (.iload 4, 2) := by decide +kernel
theorem dX5_broken_22 : decode cX5_broken 22 = .ok (.baload, 1) := by decide +kernel
theorem dX5_broken_23 : decode cX5_broken 23 = .ok (.istore 5, 2) := by decide +kernel
theorem dX5_broken_25 : decode cX5_broken 25 = .ok (.iload_n 1, 1) := by decide +kernel
theorem dX5_broken_26 : decode cX5_broken 26 = .ok (.iload 5, 2) := by decide +kernel
theorem dX5_broken_28 : decode cX5_broken 28 = .ok (.ifCond .eq 7, 3) := by decide +kernel
theorem dX5_broken_31 : decode cX5_broken 31 = .ok (.iconst 1, 1) := by decide +kernel
theorem dX5_broken_32 : decode cX5_broken 32 = .ok (.goto 4, 3) := by decide +kernel
theorem dX5_broken_35 : decode cX5_broken 35 = .ok (.iconst 0, 1) := by decide +kernel
theorem dX5_broken_36 : decode cX5_broken 36 = .ok (.iadd, 1) := by decide +kernel
theorem dX5_broken_37 : decode cX5_broken 37 = .ok (.istore_n 1, 1) := by decide +kernel
theorem dX5_broken_38 : decode cX5_broken 38 = .ok (.iinc 4 1, 3) := by decide +kernel
theorem dX5_broken_41 : decode cX5_broken 41 = .ok (.goto (-28), 3) := by decide +kernel
theorem dX5_broken_44 : decode cX5_broken 44 = .ok (.iload_n 1, 1) := by decide +kernel
theorem dX5_broken_45 : decode cX5_broken 45 = .ok (.ireturn, 1) := by decide +kernel
set_option maxRecDepth 20000 in
theorem ggX5_isSame_X4_sheet : GoodIn wsX5_isSame wsX4_sheet := goodIn_ca (goodIn_r _ [17, 18, 19, 20, 21, 16, 22, 23, 24, 25, 26, 27, 28, 29, 30, 31, 32, 33, 34, 35, 36, 37, 38, 39, 40, 41, 42, 43, 44, 45, 46, 47, 48, 49, 50, 51, 52, 53, 54, 55, 56, 57, 58, 59, 60, 61, 62, 63, 64, 65, 66, 67, 68, 69, 70, 71, 72, 73, 74, 75, 76, 77, 78, 79, 80, 81, 82, 83, 84, 85, 173, 174, 175, 176, 177, 178, 179] (by decide +kernel) (by decide +kernel)) (goodIn_sub (fun _ h => List.mem_cons_of_mem _ (List.mem_append_right _ h)) (by decide +kernel))
set_option maxRecDepth 20000 in
theorem gX5_isSame_X4_sheet : GoodIn wsX5_isSame (wsV RX5 69 RX4 yX4_sheet wsX4_sheet) := goodIn_app (goodIn_of _ (by decide +kernel)) ggX5_isSame_X4_sheet
set_option maxRecDepth 20000 in
theorem ggX5_isSame_X5_told : GoodIn wsX5_isSame wsX5_told := goodIn_r _ [90, 1, 91, 92, 93, 76, 77, 78, 94, 95, 89, 96, 161, 162, 163, 164, 165, 166, 167, 168, 169, 170, 171, 172] (by decide +kernel) (by decide +kernel)
set_option maxRecDepth 20000 in
theorem gX5_isSame_X5_told : GoodIn wsX5_isSame (wsV RX5 73 RX5 yX5_told wsX5_told) := goodIn_app (goodIn_of _ (by decide +kernel)) ggX5_isSame_X5_told
set_option maxRecDepth 20000 in
theorem ggX5_isSame_X4_faults : GoodIn wsX5_isSame wsX4_faults := goodIn_ca (goodIn_r _ [100, 18, 19, 20, 21, 16, 22, 23, 24, 25, 26, 27, 28, 101, 102, 103, 173, 174, 175, 176, 177, 178, 179] (by decide +kernel) (by decide +kernel)) (goodIn_sub (fun _ h => List.mem_cons_of_mem _ (List.mem_append_right _ h)) (by decide +kernel))
set_option maxRecDepth 20000 in
theorem gX5_isSame_X4_faults : GoodIn wsX5_isSame (wsV RX5 76 RX4 yX4_faults wsX4_faults) := goodIn_app (goodIn_of _ (by decide +kernel)) ggX5_isSame_X4_faults
set_option maxRecDepth 20000 in
theorem ggX5_isSame_X4_pin : GoodIn wsX5_isSame wsX4_pin := goodIn_ca (goodIn_r _ [107, 108, 109, 110, 16, 111, 23, 24, 26, 27, 28, 29, 30, 31, 112, 113, 114, 115, 116, 117, 118, 119, 120, 121, 122, 173, 174, 175, 176, 177, 180, 181, 182, 183, 184, 185, 186, 187, 188] (by decide +kernel) (by decide +kernel)) (goodIn_sub (fun _ h => List.mem_cons_of_mem _ (List.mem_append_right _ h)) (by decide +kernel))
set_option maxRecDepth 20000 in
theorem gX5_isSame_X4_pin : GoodIn wsX5_isSame (wsV RX5 80 RX4 yX4_pin wsX4_pin) := goodIn_app (goodIn_of _ (by decide +kernel)) ggX5_isSame_X4_pin
set_option maxRecDepth 20000 in
theorem ggX5_isSame_X5_broken : GoodIn wsX5_isSame wsX5_broken := goodIn_r _ [126, 5, 161, 162, 163, 164, 165, 166, 167, 168, 169, 170, 171, 172] (by decide +kernel) (by decide +kernel)
set_option maxRecDepth 20000 in
theorem gX5_isSame_X5_broken : GoodIn wsX5_isSame (wsV RX5 83 RX5 yX5_broken wsX5_broken) := goodIn_app (goodIn_of _ (by decide +kernel)) ggX5_isSame_X5_broken
set_option maxRecDepth 20000 in
theorem ggX5_isSame_X4_count : GoodIn wsX5_isSame wsX4_count := goodIn_ca (goodIn_r _ [130, 29, 30, 16, 31, 23, 24, 26, 27, 28, 131, 132, 133, 134, 25, 108, 135, 136, 137, 138, 139, 140, 141, 120, 121, 115, 122, 118, 117, 142, 143, 144, 145, 146, 147, 148, 149, 150, 18, 151, 52, 53, 35, 54, 55, 56, 57, 58, 50, 41, 173, 174, 175, 176, 177, 180, 181, 182, 183, 184, 185, 186, 187, 188, 178, 179] (by decide +kernel) (by decide +kernel)) (goodIn_sub (fun _ h => List.mem_cons_of_mem _ (List.mem_append_right _ h)) (by decide +kernel))
set_option maxRecDepth 20000 in
theorem gX5_isSame_X4_count : GoodIn wsX5_isSame (wsV RX5 86 RX4 yX4_count wsX4_count) := goodIn_app (goodIn_of _ (by decide +kernel)) ggX5_isSame_X4_count
set_option maxRecDepth 20000 in
theorem ggX5_isSame_X4_share : GoodIn wsX5_isSame wsX4_share := goodIn_r _ [155, 25, 156, 157, 158, 16, 159, 18, 160, 43, 44, 35, 45, 46, 47, 48, 49, 41, 50, 173, 174, 175, 176, 177, 178, 179] (by decide +kernel) (by decide +kernel)
set_option maxRecDepth 20000 in
theorem gX5_isSame_X4_share : GoodIn wsX5_isSame (wsV RX5 90 RX4 yX4_share wsX4_share) := goodIn_app (goodIn_of _ (by decide +kernel)) ggX5_isSame_X4_share
theorem dX5_isSame_0 : decode cX5_isSame 0 = .ok (.iconst 0, 1) := by decide +kernel
theorem dX5_isSame_1 : decode cX5_isSame 1 = .ok (.istore_n 2, 1) := by decide +kernel
theorem dX5_isSame_2 : decode cX5_isSame 2 = .ok (.iconst 0, 1) := by decide +kernel
theorem dX5_isSame_3 : decode cX5_isSame 3 = .ok (.istore_n 3, 1) := by decide +kernel
theorem dX5_isSame_4 : decode cX5_isSame 4 = .ok (.iconst 0, 1) := by decide +kernel
theorem dX5_isSame_5 : decode cX5_isSame 5 = .ok (.istore 4, 2) := by decide +kernel
theorem dX5_isSame_7 : decode cX5_isSame 7 = .ok (.iload 4, 2) := by decide +kernel
theorem dX5_isSame_9 : decode cX5_isSame 9 = .ok (.aload_n 0, 1) := by decide +kernel
theorem dX5_isSame_10 : decode cX5_isSame 10 = .ok (.getfield 34, 3) := by decide +kernel
theorem dX5_isSame_13 : decode cX5_isSame 13 = .ok (.arraylength, 1) := by decide +kernel
theorem dX5_isSame_14 : decode cX5_isSame 14 = .ok (.if_icmp .ge 125, 3) := by decide +kernel
theorem dX5_isSame_17 : decode cX5_isSame 17 = .ok (.iconst 0, 1) := by decide +kernel
theorem dX5_isSame_18 : decode cX5_isSame 18 = .ok (.istore 5, 2) := by decide +kernel
theorem dX5_isSame_20 : decode cX5_isSame 20 = .ok (.iload 5, 2) := by decide +kernel
theorem dX5_isSame_22 : decode cX5_isSame 22 = .ok (.bipush 6, 2) := by decide +kernel
theorem dX5_isSame_24 : decode cX5_isSame 24 = .ok (.if_icmp .ge 30, 3) := by decide +kernel
theorem dX5_isSame_27 : decode cX5_isSame 27 = .ok (.aload_n 1, 1) := by decide +kernel
theorem dX5_isSame_28 : decode cX5_isSame 28 = .ok (.iload 4, 2) := by decide +kernel
theorem dX5_isSame_30 : decode cX5_isSame 30 = .ok (.iload 5, 2) := by decide +kernel
theorem dX5_isSame_32 : decode cX5_isSame 32 = .ok (.invokevirtual 69, 3) := by decide +kernel
theorem dX5_isSame_35 : decode cX5_isSame 35 = .ok (.aload_n 0, 1) := by decide +kernel
theorem dX5_isSame_36 : decode cX5_isSame 36 = .ok (.iload 4, 2) := by decide +kernel
theorem dX5_isSame_38 : decode cX5_isSame 38 = .ok (.iload 5, 2) := by decide +kernel
theorem dX5_isSame_40 : decode cX5_isSame 40 = .ok (.invokevirtual 73, 3) := by decide +kernel
theorem dX5_isSame_43 : decode cX5_isSame 43 = .ok (.if_icmp .eq 5, 3) := by decide +kernel
theorem dX5_isSame_46 : decode cX5_isSame 46 = .ok (.iconst 0, 1) := by decide +kernel
theorem dX5_isSame_47 : decode cX5_isSame 47 = .ok (.ireturn, 1) := by decide +kernel
theorem dX5_isSame_48 : decode cX5_isSame 48 = .ok (.iinc 5 1, 3) := by decide +kernel
theorem dX5_isSame_51 : decode cX5_isSame 51 = .ok (.goto (-31), 3) := by decide +kernel
theorem dX5_isSame_54 : decode cX5_isSame 54 = .ok (.iconst 0, 1) := by decide +kernel
theorem dX5_isSame_55 : decode cX5_isSame 55 = .ok (.istore 5, 2) := by decide +kernel
theorem dX5_isSame_57 : decode cX5_isSame 57 = .ok (.iload 5, 2) := by decide +kernel
theorem dX5_isSame_59 : decode cX5_isSame 59 = .ok (.iconst 5, 1) := by decide +kernel
theorem dX5_isSame_60 : decode cX5_isSame 60 = .ok (.if_icmp .ge 53, 3) := by decide +kernel
theorem dX5_isSame_63 : decode cX5_isSame 63 = .ok (.iconst 0, 1) := by decide +kernel
theorem dX5_isSame_64 : decode cX5_isSame 64 = .ok (.istore 6, 2) := by decide +kernel
theorem dX5_isSame_66 : decode cX5_isSame 66 = .ok (.iload 6, 2) := by decide +kernel
theorem dX5_isSame_68 : decode cX5_isSame 68 = .ok (.bipush 6, 2) := by decide +kernel
theorem dX5_isSame_70 : decode cX5_isSame 70 = .ok (.if_icmp .ge 37, 3) := by decide +kernel
theorem dX5_isSame_73 : decode cX5_isSame 73 = .ok (.aload_n 1, 1) := by decide +kernel
theorem dX5_isSame_74 : decode cX5_isSame 74 = .ok (.iload 4, 2) := by decide +kernel
theorem dX5_isSame_76 : decode cX5_isSame 76 = .ok (.iload 5, 2) := by decide +kernel
theorem dX5_isSame_78 : decode cX5_isSame 78 = .ok (.iload 6, 2) := by decide +kernel
theorem dX5_isSame_80 : decode cX5_isSame 80 = .ok (.invokevirtual 76, 3) := by decide +kernel
theorem dX5_isSame_83 : decode cX5_isSame 83 = .ok (.aload_n 0, 1) := by decide +kernel
theorem dX5_isSame_84 : decode cX5_isSame 84 = .ok (.getfield 34, 3) := by decide +kernel
theorem dX5_isSame_87 : decode cX5_isSame 87 = .ok (.iload 4, 2) := by decide +kernel
theorem dX5_isSame_89 : decode cX5_isSame 89 = .ok (.aaload, 1) := by decide +kernel
theorem dX5_isSame_90 : decode cX5_isSame 90 = .ok (.iload 5, 2) := by decide +kernel
theorem dX5_isSame_92 : decode cX5_isSame 92 = .ok (.aaload, 1) := by decide +kernel
theorem dX5_isSame_93 : decode cX5_isSame 93 = .ok (.iload 6, 2) := by decide +kernel
theorem dX5_isSame_95 : decode cX5_isSame 95 = .ok (.iaload, 1) := by decide +kernel
theorem dX5_isSame_96 : decode cX5_isSame 96 = .ok (.if_icmp .eq 5, 3) := by decide +kernel
theorem dX5_isSame_99 : decode cX5_isSame 99 = .ok (.iconst 0, 1) := by decide +kernel
theorem dX5_isSame_100 : decode cX5_isSame 100 = .ok (.ireturn, 1) := by decide +kernel
theorem dX5_isSame_101 : decode cX5_isSame 101 = .ok (.iinc 6 1, 3) := by decide +kernel
theorem dX5_isSame_104 : decode cX5_isSame 104 = .ok (.goto (-38), 3) := by decide +kernel
theorem dX5_isSame_107 : decode cX5_isSame 107 = .ok (.iinc 5 1, 3) := by decide +kernel
theorem dX5_isSame_110 : decode cX5_isSame 110 = .ok (.goto (-53), 3) := by decide +kernel
theorem dX5_isSame_113 : decode cX5_isSame 113 = .ok (.iload_n 2, 1) := by decide +kernel
theorem dX5_isSame_114 : decode cX5_isSame 114 = .ok (.aload_n 0, 1) := by decide +kernel
theorem dX5_isSame_115 : decode cX5_isSame 115 = .ok (.iload 4, 2) := by decide +kernel
theorem dX5_isSame_117 : decode cX5_isSame 117 = .ok (.iconst 2, 1) := by decide +kernel
theorem dX5_isSame_118 : decode cX5_isSame 118 = .ok (.invokevirtual 73, 3) := by decide +kernel
theorem dX5_isSame_121 : decode cX5_isSame 121 = .ok (.iadd, 1) := by decide +kernel
theorem dX5_isSame_122 : decode cX5_isSame 122 = .ok (.istore_n 2, 1) := by decide +kernel
theorem dX5_isSame_123 : decode cX5_isSame 123 = .ok (.iload_n 3, 1) := by decide +kernel
theorem dX5_isSame_124 : decode cX5_isSame 124 = .ok (.aload_n 0, 1) := by decide +kernel
theorem dX5_isSame_125 : decode cX5_isSame 125 = .ok (.iload 4, 2) := by decide +kernel
theorem dX5_isSame_127 : decode cX5_isSame 127 = .ok (.iconst 1, 1) := by decide +kernel
theorem dX5_isSame_128 : decode cX5_isSame 128 = .ok (.invokevirtual 73, 3) := by decide +kernel
theorem dX5_isSame_131 : decode cX5_isSame 131 = .ok (.iadd, 1) := by decide +kernel
theorem dX5_isSame_132 : decode cX5_isSame 132 = .ok (.istore_n 3, 1) := by decide +kernel
theorem dX5_isSame_133 : decode cX5_isSame 133 = .ok (.iinc 4 1, 3) := by decide +kernel
theorem dX5_isSame_136 : decode cX5_isSame 136 = .ok (.goto (-129), 3) := by decide +kernel
theorem dX5_isSame_139 : decode cX5_isSame 139 = .ok (.iconst 0, 1) := by decide +kernel
theorem dX5_isSame_140 : decode cX5_isSame 140 = .ok (.istore 4, 2) := by decide +kernel
theorem dX5_isSame_142 : decode cX5_isSame 142 = .ok (.iload 4, 2) := by decide +kernel
theorem dX5_isSame_144 : decode cX5_isSame 144 = .ok (.bipush 7, 2) := by decide +kernel
theorem dX5_isSame_146 : decode cX5_isSame 146 = .ok (.if_icmp .ge 119, 3) := by decide +kernel
theorem dX5_isSame_149 : decode cX5_isSame 149 = .ok (.iconst 4, 1) := by decide +kernel
theorem dX5_isSame_150 : decode cX5_isSame 150 = .ok (.newarray .int, 2) := by decide +kernel
theorem dX5_isSame_152 : decode cX5_isSame 152 = .ok (.dup, 1) := by decide +kernel
theorem dX5_isSame_153 : decode cX5_isSame 153 = .ok (.iconst 0, 1) := by decide +kernel
theorem dX5_isSame_154 : decode cX5_isSame 154 = .ok (.aload_n 0, 1) := by decide +kernel
theorem dX5_isSame_155 : decode cX5_isSame 155 = .ok (.getfield 16, 3) := by decide +kernel
theorem dX5_isSame_158 : decode cX5_isSame 158 = .ok (.iload 4, 2) := by decide +kernel
theorem dX5_isSame_160 : decode cX5_isSame 160 = .ok (.iaload, 1) := by decide +kernel
theorem dX5_isSame_161 : decode cX5_isSame 161 = .ok (.iastore, 1) := by decide +kernel
theorem dX5_isSame_162 : decode cX5_isSame 162 = .ok (.dup, 1) := by decide +kernel
theorem dX5_isSame_163 : decode cX5_isSame 163 = .ok (.iconst 1, 1) := by decide +kernel
theorem dX5_isSame_164 : decode cX5_isSame 164 = .ok (.aload_n 0, 1) := by decide +kernel
theorem dX5_isSame_165 : decode cX5_isSame 165 = .ok (.getfield 20, 3) := by decide +kernel
theorem dX5_isSame_168 : decode cX5_isSame 168 = .ok (.iload 4, 2) := by decide +kernel
theorem dX5_isSame_170 : decode cX5_isSame 170 = .ok (.iaload, 1) := by decide +kernel
theorem dX5_isSame_171 : decode cX5_isSame 171 = .ok (.iastore, 1) := by decide +kernel
theorem dX5_isSame_172 : decode cX5_isSame 172 = .ok (.dup, 1) := by decide +kernel
theorem dX5_isSame_173 : decode cX5_isSame 173 = .ok (.iconst 2, 1) := by decide +kernel
theorem dX5_isSame_174 : decode cX5_isSame 174 = .ok (.aload_n 0, 1) := by decide +kernel
theorem dX5_isSame_175 : decode cX5_isSame 175 = .ok (.getfield 23, 3) := by decide +kernel
theorem dX5_isSame_178 : decode cX5_isSame 178 = .ok (.iload 4, 2) := by decide +kernel
theorem dX5_isSame_180 : decode cX5_isSame 180 = .ok (.baload, 1) := by decide +kernel
theorem dX5_isSame_181 : decode cX5_isSame 181 = .ok (.ifCond .eq 7, 3) := by decide +kernel
theorem dX5_isSame_184 : decode cX5_isSame 184 = .ok (.iconst 0, 1) := by decide +kernel
theorem dX5_isSame_185 : decode cX5_isSame 185 = .ok (.goto 4, 3) := by decide +kernel
theorem dX5_isSame_188 : decode cX5_isSame 188 = .ok (.iconst 1, 1) := by decide +kernel
theorem dX5_isSame_189 : decode cX5_isSame 189 = .ok (.iastore, 1) := by decide +kernel
theorem dX5_isSame_190 : decode cX5_isSame 190 = .ok (.dup, 1) := by decide +kernel
theorem dX5_isSame_191 : decode cX5_isSame 191 = .ok (.iconst 3, 1) := by decide +kernel
theorem dX5_isSame_192 : decode cX5_isSame 192 = .ok (.aload_n 0, 1) := by decide +kernel
theorem dX5_isSame_193 : decode cX5_isSame 193 = .ok (.getfield 23, 3) := by decide +kernel
theorem dX5_isSame_196 : decode cX5_isSame 196 = .ok (.iload 4, 2) := by decide +kernel
theorem dX5_isSame_198 : decode cX5_isSame 198 = .ok (.baload, 1) := by decide +kernel
theorem dX5_isSame_199 : decode cX5_isSame 199 = .ok (.ifCond .eq 7, 3) := by decide +kernel
theorem dX5_isSame_202 : decode cX5_isSame 202 = .ok (.iconst 0, 1) := by decide +kernel
theorem dX5_isSame_203 : decode cX5_isSame 203 = .ok (.goto 20, 3) := by decide +kernel
theorem dX5_isSame_206 : decode cX5_isSame 206 = .ok (.aload_n 0, 1) := by decide +kernel
theorem dX5_isSame_207 : decode cX5_isSame 207 = .ok (.getfield 16, 3) := by decide +kernel
theorem dX5_isSame_210 : decode cX5_isSame 210 = .ok (.iload 4, 2) := by decide +kernel
theorem dX5_isSame_212 : decode cX5_isSame 212 = .ok (.iaload, 1) := by decide +kernel
theorem dX5_isSame_213 : decode cX5_isSame 213 = .ok (.iconst 1, 1) := by decide +kernel
theorem dX5_isSame_214 : decode cX5_isSame 214 = .ok (.iadd, 1) := by decide +kernel
theorem dX5_isSame_215 : decode cX5_isSame 215 = .ok (.aload_n 0, 1) := by decide +kernel
theorem dX5_isSame_216 : decode cX5_isSame 216 = .ok (.getfield 20, 3) := by decide +kernel
theorem dX5_isSame_219 : decode cX5_isSame 219 = .ok (.iload 4, 2) := by decide +kernel
theorem dX5_isSame_221 : decode cX5_isSame 221 = .ok (.iaload, 1) := by decide +kernel
theorem dX5_isSame_222 : decode cX5_isSame 222 = .ok (.isub, 1) := by decide +kernel
theorem dX5_isSame_223 : decode cX5_isSame 223 = .ok (.iastore, 1) := by decide +kernel
theorem dX5_isSame_224 : decode cX5_isSame 224 = .ok (.astore 5, 2) := by decide +kernel
theorem dX5_isSame_226 : decode cX5_isSame 226 = .ok (.iconst 0, 1) := by decide +kernel
theorem dX5_isSame_227 : decode cX5_isSame 227 = .ok (.istore 6, 2) := by decide +kernel
theorem dX5_isSame_229 : decode cX5_isSame 229 = .ok (.iload 6, 2) := by decide +kernel
theorem dX5_isSame_231 : decode cX5_isSame 231 = .ok (.iconst 4, 1) := by decide +kernel
theorem dX5_isSame_232 : decode cX5_isSame 232 = .ok (.if_icmp .ge 27, 3) := by decide +kernel
theorem dX5_isSame_235 : decode cX5_isSame 235 = .ok (.aload_n 1, 1) := by decide +kernel
theorem dX5_isSame_236 : decode cX5_isSame 236 = .ok (.iload 4, 2) := by decide +kernel
theorem dX5_isSame_238 : decode cX5_isSame 238 = .ok (.iload 6, 2) := by decide +kernel
theorem dX5_isSame_240 : decode cX5_isSame 240 = .ok (.invokevirtual 80, 3) := by decide +kernel
theorem dX5_isSame_243 : decode cX5_isSame 243 = .ok (.aload 5, 2) := by decide +kernel
theorem dX5_isSame_245 : decode cX5_isSame 245 = .ok (.iload 6, 2) := by decide +kernel
theorem dX5_isSame_247 : decode cX5_isSame 247 = .ok (.iaload, 1) := by decide +kernel
theorem dX5_isSame_248 : decode cX5_isSame 248 = .ok (.if_icmp .eq 5, 3) := by decide +kernel
theorem dX5_isSame_251 : decode cX5_isSame 251 = .ok (.iconst 0, 1) := by decide +kernel
theorem dX5_isSame_252 : decode cX5_isSame 252 = .ok (.ireturn, 1) := by decide +kernel
theorem dX5_isSame_253 : decode cX5_isSame 253 = .ok (.iinc 6 1, 3) := by decide +kernel
theorem dX5_isSame_256 : decode cX5_isSame 256 = .ok (.goto (-27), 3) := by decide +kernel
theorem dX5_isSame_259 : decode cX5_isSame 259 = .ok (.iinc 4 1, 3) := by decide +kernel
theorem dX5_isSame_262 : decode cX5_isSame 262 = .ok (.goto (-120), 3) := by decide +kernel
theorem dX5_isSame_265 : decode cX5_isSame 265 = .ok (.iconst 0, 1) := by decide +kernel
theorem dX5_isSame_266 : decode cX5_isSame 266 = .ok (.istore 4, 2) := by decide +kernel
theorem dX5_isSame_268 : decode cX5_isSame 268 = .ok (.aload_n 0, 1) := by decide +kernel
theorem dX5_isSame_269 : decode cX5_isSame 269 = .ok (.getfield 29, 3) := by decide +kernel
theorem dX5_isSame_272 : decode cX5_isSame 272 = .ok (.astore 5, 2) := by decide +kernel
theorem dX5_isSame_274 : decode cX5_isSame 274 = .ok (.aload 5, 2) := by decide +kernel
theorem dX5_isSame_276 : decode cX5_isSame 276 = .ok (.arraylength, 1) := by decide +kernel
theorem dX5_isSame_277 : decode cX5_isSame 277 = .ok (.istore 6, 2) := by decide +kernel
theorem dX5_isSame_279 : decode cX5_isSame 279 = .ok (.iconst 0, 1) := by decide +kernel
theorem dX5_isSame_280 : decode cX5_isSame 280 = .ok (.istore 7, 2) := by decide +kernel
theorem dX5_isSame_282 : decode cX5_isSame 282 = .ok (.iload 7, 2) := by decide +kernel
theorem dX5_isSame_284 : decode cX5_isSame 284 = .ok (.iload 6, 2) := by decide +kernel
theorem dX5_isSame_286 : decode cX5_isSame 286 = .ok (.if_icmp .ge 63, 3) := by decide +kernel
theorem dX5_isSame_289 : decode cX5_isSame 289 = .ok (.aload 5, 2) := by decide +kernel
theorem dX5_isSame_291 : decode cX5_isSame 291 = .ok (.iload 7, 2) := by decide +kernel
theorem dX5_isSame_293 : decode cX5_isSame 293 = .ok (.aaload, 1) := by decide +kernel
theorem dX5_isSame_294 : decode cX5_isSame 294 = .ok (.astore 8, 2) := by decide +kernel
theorem dX5_isSame_296 : decode cX5_isSame 296 = .ok (.aload 8, 2) := by decide +kernel
theorem dX5_isSame_298 : decode cX5_isSame 298 = .ok (.astore 9, 2) := by decide +kernel
theorem dX5_isSame_300 : decode cX5_isSame 300 = .ok (.aload 9, 2) := by decide +kernel
theorem dX5_isSame_302 : decode cX5_isSame 302 = .ok (.arraylength, 1) := by decide +kernel
theorem dX5_isSame_303 : decode cX5_isSame 303 = .ok (.istore 10, 2) := by decide +kernel
theorem dX5_isSame_305 : decode cX5_isSame 305 = .ok (.iconst 0, 1) := by decide +kernel
theorem dX5_isSame_306 : decode cX5_isSame 306 = .ok (.istore 11, 2) := by decide +kernel
theorem dX5_isSame_308 : decode cX5_isSame 308 = .ok (.iload 11, 2) := by decide +kernel
theorem dX5_isSame_310 : decode cX5_isSame 310 = .ok (.iload 10, 2) := by decide +kernel
theorem dX5_isSame_312 : decode cX5_isSame 312 = .ok (.if_icmp .ge 31, 3) := by decide +kernel
theorem dX5_isSame_315 : decode cX5_isSame 315 = .ok (.aload 9, 2) := by decide +kernel
theorem dX5_isSame_317 : decode cX5_isSame 317 = .ok (.iload 11, 2) := by decide +kernel
theorem dX5_isSame_319 : decode cX5_isSame 319 = .ok (.baload, 1) := by decide +kernel
theorem dX5_isSame_320 : decode cX5_isSame 320 = .ok (.istore 12, 2) := by decide +kernel
theorem dX5_isSame_322 : decode cX5_isSame 322 = .ok (.iload 4, 2) := by decide +kernel
theorem dX5_isSame_324 : decode cX5_isSame 324 = .ok (.iload 12, 2) := by decide +kernel
theorem dX5_isSame_326 : decode cX5_isSame 326 = .ok (.ifCond .eq 7, 3) := by decide +kernel
theorem dX5_isSame_329 : decode cX5_isSame 329 = .ok (.iconst 1, 1) := by decide +kernel
theorem dX5_isSame_330 : decode cX5_isSame 330 = .ok (.goto 4, 3) := by decide +kernel
theorem dX5_isSame_333 : decode cX5_isSame 333 = .ok (.iconst 0, 1) := by decide +kernel
theorem dX5_isSame_334 : decode cX5_isSame 334 = .ok (.iadd, 1) := by decide +kernel
theorem dX5_isSame_335 : decode cX5_isSame 335 = .ok (.istore 4, 2) := by decide +kernel
theorem dX5_isSame_337 : decode cX5_isSame 337 = .ok (.iinc 11 1, 3) := by decide +kernel
theorem dX5_isSame_340 : decode cX5_isSame 340 = .ok (.goto (-32), 3) := by decide +kernel
theorem dX5_isSame_343 : decode cX5_isSame 343 = .ok (.iinc 7 1, 3) := by decide +kernel
theorem dX5_isSame_346 : decode cX5_isSame 346 = .ok (.goto (-64), 3) := by decide +kernel
theorem dX5_isSame_349 : decode cX5_isSame 349 = .ok (.bipush 10, 2) := by decide +kernel
theorem dX5_isSame_351 : decode cX5_isSame 351 = .ok (.newarray .int, 2) := by decide +kernel
theorem dX5_isSame_353 : decode cX5_isSame 353 = .ok (.dup, 1) := by decide +kernel
theorem dX5_isSame_354 : decode cX5_isSame 354 = .ok (.iconst 0, 1) := by decide +kernel
theorem dX5_isSame_355 : decode cX5_isSame 355 = .ok (.aload_n 0, 1) := by decide +kernel
theorem dX5_isSame_356 : decode cX5_isSame 356 = .ok (.getfield 34, 3) := by decide +kernel
theorem dX5_isSame_359 : decode cX5_isSame 359 = .ok (.arraylength, 1) := by decide +kernel
theorem dX5_isSame_360 : decode cX5_isSame 360 = .ok (.iastore, 1) := by decide +kernel
theorem dX5_isSame_361 : decode cX5_isSame 361 = .ok (.dup, 1) := by decide +kernel
theorem dX5_isSame_362 : decode cX5_isSame 362 = .ok (.iconst 1, 1) := by decide +kernel
theorem dX5_isSame_363 : decode cX5_isSame 363 = .ok (.aload_n 0, 1) := by decide +kernel
theorem dX5_isSame_364 : decode cX5_isSame 364 = .ok (.getfield 7, 3) := by decide +kernel
theorem dX5_isSame_367 : decode cX5_isSame 367 = .ok (.iastore, 1) := by decide +kernel
theorem dX5_isSame_368 : decode cX5_isSame 368 = .ok (.dup, 1) := by decide +kernel
theorem dX5_isSame_369 : decode cX5_isSame 369 = .ok (.iconst 2, 1) := by decide +kernel
theorem dX5_isSame_370 : decode cX5_isSame 370 = .ok (.aload_n 0, 1) := by decide +kernel
theorem dX5_isSame_371 : decode cX5_isSame 371 = .ok (.getfield 43, 3) := by decide +kernel
theorem dX5_isSame_374 : decode cX5_isSame 374 = .ok (.iastore, 1) := by decide +kernel
theorem dX5_isSame_375 : decode cX5_isSame 375 = .ok (.dup, 1) := by decide +kernel
theorem dX5_isSame_376 : decode cX5_isSame 376 = .ok (.iconst 3, 1) := by decide +kernel
theorem dX5_isSame_377 : decode cX5_isSame 377 = .ok (.aload_n 0, 1) := by decide +kernel
theorem dX5_isSame_378 : decode cX5_isSame 378 = .ok (.getfield 46, 3) := by decide +kernel
theorem dX5_isSame_381 : decode cX5_isSame 381 = .ok (.iastore, 1) := by decide +kernel
theorem dX5_isSame_382 : decode cX5_isSame 382 = .ok (.dup, 1) := by decide +kernel
theorem dX5_isSame_383 : decode cX5_isSame 383 = .ok (.iconst 4, 1) := by decide +kernel
theorem dX5_isSame_384 : decode cX5_isSame 384 = .ok (.aload_n 0, 1) := by decide +kernel
theorem dX5_isSame_385 : decode cX5_isSame 385 = .ok (.getfield 52, 3) := by decide +kernel
theorem dX5_isSame_388 : decode cX5_isSame 388 = .ok (.iastore, 1) := by decide +kernel
theorem dX5_isSame_389 : decode cX5_isSame 389 = .ok (.dup, 1) := by decide +kernel
theorem dX5_isSame_390 : decode cX5_isSame 390 = .ok (.iconst 5, 1) := by decide +kernel
theorem dX5_isSame_391 : decode cX5_isSame 391 = .ok (.aload_n 0, 1) := by decide +kernel
theorem dX5_isSame_392 : decode cX5_isSame 392 = .ok (.getfield 13, 3) := by decide +kernel
theorem dX5_isSame_395 : decode cX5_isSame 395 = .ok (.iastore, 1) := by decide +kernel
theorem dX5_isSame_396 : decode cX5_isSame 396 = .ok (.dup, 1) := by decide +kernel
theorem dX5_isSame_397 : decode cX5_isSame 397 = .ok (.bipush 6, 2) := by decide +kernel
theorem dX5_isSame_399 : decode cX5_isSame 399 = .ok (.aload_n 0, 1) := by decide +kernel
theorem dX5_isSame_400 : decode cX5_isSame 400 = .ok (.getfield 49, 3) := by decide +kernel
theorem dX5_isSame_403 : decode cX5_isSame 403 = .ok (.iastore, 1) := by decide +kernel
theorem dX5_isSame_404 : decode cX5_isSame 404 = .ok (.dup, 1) := by decide +kernel
theorem dX5_isSame_405 : decode cX5_isSame 405 = .ok (.bipush 7, 2) := by decide +kernel
theorem dX5_isSame_407 : decode cX5_isSame 407 = .ok (.aload_n 0, 1) := by decide +kernel
theorem dX5_isSame_408 : decode cX5_isSame 408 = .ok (.invokevirtual 83, 3) := by decide +kernel
theorem dX5_isSame_411 : decode cX5_isSame 411 = .ok (.iastore, 1) := by decide +kernel
theorem dX5_isSame_412 : decode cX5_isSame 412 = .ok (.dup, 1) := by decide +kernel
theorem dX5_isSame_413 : decode cX5_isSame 413 = .ok (.bipush 8, 2) := by decide +kernel
theorem dX5_isSame_415 : decode cX5_isSame 415 = .ok (.iload 4, 2) := by decide +kernel
theorem dX5_isSame_417 : decode cX5_isSame 417 = .ok (.iastore, 1) := by decide +kernel
theorem dX5_isSame_418 : decode cX5_isSame 418 = .ok (.dup, 1) := by decide +kernel
theorem dX5_isSame_419 : decode cX5_isSame 419 = .ok (.bipush 9, 2) := by decide +kernel
theorem dX5_isSame_421 : decode cX5_isSame 421 = .ok (.iload_n 2, 1) := by decide +kernel
theorem dX5_isSame_422 : decode cX5_isSame 422 = .ok (.iastore, 1) := by decide +kernel
theorem dX5_isSame_423 : decode cX5_isSame 423 = .ok (.astore 5, 2) := by decide +kernel
theorem dX5_isSame_425 : decode cX5_isSame 425 = .ok (.iconst 0, 1) := by decide +kernel
theorem dX5_isSame_426 : decode cX5_isSame 426 = .ok (.istore 6, 2) := by decide +kernel
theorem dX5_isSame_428 : decode cX5_isSame 428 = .ok (.iload 6, 2) := by decide +kernel
theorem dX5_isSame_430 : decode cX5_isSame 430 = .ok (.bipush 10, 2) := by decide +kernel
theorem dX5_isSame_432 : decode cX5_isSame 432 = .ok (.if_icmp .ge 25, 3) := by decide +kernel
theorem dX5_isSame_435 : decode cX5_isSame 435 = .ok (.aload_n 1, 1) := by decide +kernel
theorem dX5_isSame_436 : decode cX5_isSame 436 = .ok (.iload 6, 2) := by decide +kernel
theorem dX5_isSame_438 : decode cX5_isSame 438 = .ok (.invokevirtual 86, 3) := by decide +kernel
theorem dX5_isSame_441 : decode cX5_isSame 441 = .ok (.aload 5, 2) := by decide +kernel
theorem dX5_isSame_443 : decode cX5_isSame 443 = .ok (.iload 6, 2) := by decide +kernel
theorem dX5_isSame_445 : decode cX5_isSame 445 = .ok (.iaload, 1) := by decide +kernel
theorem dX5_isSame_446 : decode cX5_isSame 446 = .ok (.if_icmp .eq 5, 3) := by decide +kernel
theorem dX5_isSame_449 : decode cX5_isSame 449 = .ok (.iconst 0, 1) := by decide +kernel
theorem dX5_isSame_450 : decode cX5_isSame 450 = .ok (.ireturn, 1) := by decide +kernel
theorem dX5_isSame_451 : decode cX5_isSame 451 = .ok (.iinc 6 1, 3) := by decide +kernel
theorem dX5_isSame_454 : decode cX5_isSame 454 = .ok (.goto (-26), 3) := by decide +kernel
theorem dX5_isSame_457 : decode cX5_isSame 457 = .ok (.aload_n 1, 1) := by decide +kernel
theorem dX5_isSame_458 : decode cX5_isSame 458 = .ok (.invokevirtual 90, 3) := by decide +kernel
theorem dX5_isSame_461 : decode cX5_isSame 461 = .ok (.aload_n 0, 1) := by decide +kernel
theorem dX5_isSame_462 : decode cX5_isSame 462 = .ok (.getfield 34, 3) := by decide +kernel
theorem dX5_isSame_465 : decode cX5_isSame 465 = .ok (.arraylength, 1) := by decide +kernel
theorem dX5_isSame_466 : decode cX5_isSame 466 = .ok (.ifCond .ne 7, 3) := by decide +kernel
theorem dX5_isSame_469 : decode cX5_isSame 469 = .ok (.dconst 0, 1) := by decide +kernel
theorem dX5_isSame_470 : decode cX5_isSame 470 = .ok (.goto 15, 3) := by decide +kernel
theorem dX5_isSame_473 : decode cX5_isSame 473 = .ok (.iload_n 3, 1) := by decide +kernel
theorem dX5_isSame_474 : decode cX5_isSame 474 = .ok (.i2d, 1) := by decide +kernel
theorem dX5_isSame_475 : decode cX5_isSame 475 = .ok (.bipush 30, 2) := by decide +kernel
theorem dX5_isSame_477 : decode cX5_isSame 477 = .ok (.aload_n 0, 1) := by decide +kernel
theorem dX5_isSame_478 : decode cX5_isSame 478 = .ok (.getfield 34, 3) := by decide +kernel
theorem dX5_isSame_481 : decode cX5_isSame 481 = .ok (.arraylength, 1) := by decide +kernel
theorem dX5_isSame_482 : decode cX5_isSame 482 = .ok (.imul, 1) := by decide +kernel
theorem dX5_isSame_483 : decode cX5_isSame 483 = .ok (.i2d, 1) := by decide +kernel
theorem dX5_isSame_484 : decode cX5_isSame 484 = .ok (.ddiv, 1) := by decide +kernel
theorem dX5_isSame_485 : decode cX5_isSame 485 = .ok (.dcmp .l, 1) := by decide +kernel
theorem dX5_isSame_486 : decode cX5_isSame 486 = .ok (.ifCond .ne 7, 3) := by decide +kernel
theorem dX5_isSame_489 : decode cX5_isSame 489 = .ok (.iconst 1, 1) := by decide +kernel
theorem dX5_isSame_490 : decode cX5_isSame 490 = .ok (.goto 4, 3) := by decide +kernel
theorem dX5_isSame_493 : decode cX5_isSame 493 = .ok (.iconst 0, 1) := by decide +kernel
theorem dX5_isSame_494 : decode cX5_isSame 494 = .ok (.ireturn, 1) := by decide +kernel
theorem dJ9_max_7cf53_0 : decode cJ9_max_7cf53 0 = .ok (.iload_n 0, 1) := by decide +kernel
theorem dJ9_max_7cf53_1 : decode cJ9_max_7cf53 1 = .ok (.iload_n 1, 1) := by decide +kernel
theorem dJ9_max_7cf53_2 : decode cJ9_max_7cf53 2 = .ok (.if_icmp .lt 7, 3) := by decide +kernel
theorem dJ9_max_7cf53_5 : decode cJ9_max_7cf53 5 = .ok (.iload_n 0, 1) := by decide +kernel
theorem dJ9_max_7cf53_6 : decode cJ9_max_7cf53 6 = .ok (.goto 4, 3) := by decide +kernel
theorem dJ9_max_7cf53_9 : decode cJ9_max_7cf53 9 = .ok (.iload_n 1, 1) := by decide +kernel
theorem dJ9_max_7cf53_10 : decode cJ9_max_7cf53 10 = .ok (.ireturn, 1) := by decide +kernel
theorem dJ9_min_7cf53_0 : decode cJ9_min_7cf53 0 = .ok (.iload_n 0, 1) := by decide +kernel
theorem dJ9_min_7cf53_1 : decode cJ9_min_7cf53 1 = .ok (.iload_n 1, 1) := by decide +kernel
theorem dJ9_min_7cf53_2 : decode cJ9_min_7cf53 2 = .ok (.if_icmp .gt 7, 3) := by decide +kernel
theorem dJ9_min_7cf53_5 : decode cJ9_min_7cf53 5 = .ok (.iload_n 0, 1) := by decide +kernel
theorem dJ9_min_7cf53_6 : decode cJ9_min_7cf53 6 = .ok (.goto 4, 3) := by decide +kernel
theorem dJ9_min_7cf53_9 : decode cJ9_min_7cf53 9 = .ok (.iload_n 1, 1) := by decide +kernel
theorem dJ9_min_7cf53_10 : decode cJ9_min_7cf53 10 = .ok (.ireturn, 1) := by decide +kernel
theorem dL_below_0 : decode cL_below 0 = .ok (.iload_n 0, 1) := by decide +kernel
theorem dL_below_1 : decode cL_below 1 = .ok (.ldc 7, 2) := by decide +kernel
theorem dL_below_3 : decode cL_below 3 = .ok (.iand, 1) := by decide +kernel
theorem dL_below_4 : decode cL_below 4 = .ok (.iload_n 1, 1) := by decide +kernel
theorem dL_below_5 : decode cL_below 5 = .ok (.irem, 1) := by decide +kernel
theorem dL_below_6 : decode cL_below 6 = .ok (.ireturn, 1) := by decide +kernel
theorem dL_cell_0 : decode cL_cell 0 = .ok (.iload_n 1, 1) := by decide +kernel
theorem dL_cell_1 : decode cL_cell 1 = .ok (.aload_n 0, 1) := by decide +kernel
theorem dL_cell_2 : decode cL_cell 2 = .ok (.arraylength, 1) := by decide +kernel
theorem dL_cell_3 : decode cL_cell 3 = .ok (.if_icmp .ge 9, 3) := by decide +kernel
theorem dL_cell_6 : decode cL_cell 6 = .ok (.aload_n 0, 1) := by decide +kernel
theorem dL_cell_7 : decode cL_cell 7 = .ok (.iload_n 1, 1) := by decide +kernel
theorem dL_cell_8 : decode cL_cell 8 = .ok (.iaload, 1) := by decide +kernel
theorem dL_cell_9 : decode cL_cell 9 = .ok (.goto 9, 3) := by decide +kernel
theorem dL_cell_12 : decode cL_cell 12 = .ok (.ldc 8, 2) := by decide +kernel
theorem dL_cell_14 : decode cL_cell 14 = .ok (.iload_n 1, 1) := by decide +kernel
theorem dL_cell_15 : decode cL_cell 15 = .ok (.iconst 3, 1) := by decide +kernel
theorem dL_cell_16 : decode cL_cell 16 = .ok (.iadd, 1) := by decide +kernel
theorem dL_cell_17 : decode cL_cell 17 = .ok (.imul, 1) := by decide +kernel
theorem dL_cell_18 : decode cL_cell 18 = .ok (.ireturn, 1) := by decide +kernel
set_option maxRecDepth 20000 in
theorem ggL_act_L_below : GoodIn wsL_act wsL_below := goodIn_r _ [22, 23] (by decide +kernel) (by decide +kernel)
set_option maxRecDepth 20000 in
theorem gL_act_L_below : GoodIn wsL_act (va_wsS RL 15 yL_below wsL_below) := goodIn_app (goodIn_of _ (by decide +kernel)) ggL_act_L_below
set_option maxRecDepth 20000 in
theorem ggL_act_X4_setFeed : GoodIn wsL_act wsX4_setFeed := goodIn_ca (goodIn_r _ [28, 29, 30, 31, 32, 33, 27, 34, 170, 171, 172, 173, 174, 175, 176, 177, 178, 179, 180, 181] (by decide +kernel) (by decide +kernel)) (goodIn_sub (fun _ h => List.mem_cons_of_mem _ (List.mem_append_left _ (List.mem_append_left _ (List.mem_append_right _ h)))) (by decide +kernel))
set_option maxRecDepth 20000 in
theorem gL_act_X4_setFeed : GoodIn wsL_act (wsV RL 28 RX4 yX4_setFeed wsX4_setFeed) := goodIn_app (goodIn_of _ (by decide +kernel)) ggL_act_X4_setFeed
set_option maxRecDepth 20000 in
theorem ggL_act_X4_align : GoodIn wsL_act wsX4_align := goodIn_r _ [38, 31, 170, 171, 172, 173, 174, 175, 176, 177, 178, 179, 180, 181] (by decide +kernel) (by decide +kernel)
set_option maxRecDepth 20000 in
theorem gL_act_X4_align : GoodIn wsL_act (wsV RL 36 RX4 yX4_align wsX4_align) := goodIn_app (goodIn_of _ (by decide +kernel)) ggL_act_X4_align
set_option maxRecDepth 20000 in
theorem ggL_act_X4_roll : GoodIn wsL_act wsX4_roll := goodIn_ca (goodIn_r _ [42, 29, 30, 31, 32, 33, 27, 34, 170, 171, 172, 173, 174, 175, 176, 177, 178, 179, 180, 181] (by decide +kernel) (by decide +kernel)) (goodIn_sub (fun _ h => List.mem_cons_of_mem _ (List.mem_append_left _ (List.mem_append_left _ (List.mem_append_right _ h)))) (by decide +kernel))
set_option maxRecDepth 20000 in
theorem gL_act_X4_roll : GoodIn wsL_act (wsV RL 49 RX4 yX4_roll wsX4_roll) := goodIn_app (goodIn_of _ (by decide +kernel)) ggL_act_X4_roll
set_option maxRecDepth 20000 in
theorem ggL_act_X4_fit : GoodIn wsL_act wsX4_fit := goodIn_ca (goodIn_ca (goodIn_r _ [46, 29, 30, 31, 47, 48, 27, 49, 50, 51, 32, 33, 34, 170, 171, 172, 173, 174, 175, 176, 177, 178, 179, 180, 181, 182, 183] (by decide +kernel) (by decide +kernel)) (goodIn_sub (fun _ h => List.mem_cons_of_mem _ (List.mem_append_left _ (List.mem_append_left _ (List.mem_append_right _ h)))) (by decide +kernel))) (goodIn_sub (fun _ h => List.mem_cons_of_mem _ (List.mem_append_left _ (List.mem_append_right _ h))) (by decide +kernel))
set_option maxRecDepth 20000 in
theorem gL_act_X4_fit : GoodIn wsL_act (wsV RL 68 RX4 yX4_fit wsX4_fit) := goodIn_app (goodIn_of _ (by decide +kernel)) ggL_act_X4_fit
set_option maxRecDepth 20000 in
theorem ggL_act_X4_turn : GoodIn wsL_act wsX4_turn := goodIn_ca (goodIn_r _ [55, 56, 57, 58, 27, 59, 50, 51, 32, 33, 34, 170, 171, 172, 173, 174] (by decide +kernel) (by decide +kernel)) (goodIn_sub (fun _ h => List.mem_cons_of_mem _ (List.mem_append_left _ (List.mem_append_right _ h))) (by decide +kernel))
set_option maxRecDepth 20000 in
theorem gL_act_X4_turn : GoodIn wsL_act (wsV RL 75 RX4 yX4_turn wsX4_turn) := goodIn_app (goodIn_of _ (by decide +kernel)) ggL_act_X4_turn
set_option maxRecDepth 20000 in
theorem ggL_act_X4_run : GoodIn wsL_act wsX4_run := goodIn_ca (goodIn_r _ [63, 64, 65, 66, 31, 56, 67, 68, 69, 70, 71, 72, 73, 74, 75, 76, 77, 78, 79, 80, 81, 82, 83, 84, 85, 86, 87, 88, 33, 27, 34, 89, 90, 91, 92, 93, 94, 95, 96, 97, 98, 99, 100, 101, 102, 103, 104, 105, 106, 107, 108, 109, 110, 111, 112, 113, 114, 170, 171, 172, 173, 174, 175, 176, 177, 178, 179, 180, 181, 184, 185, 182, 183] (by decide +kernel) (by decide +kernel)) (goodIn_sub (fun _ h => List.mem_cons_of_mem _ (List.mem_append_right _ h)) (by decide +kernel))
set_option maxRecDepth 20000 in
theorem gL_act_X4_run : GoodIn wsL_act (wsV RL 79 RX4 yX4_run wsX4_run) := goodIn_app (goodIn_of _ (by decide +kernel)) ggL_act_X4_run
set_option maxRecDepth 20000 in
theorem ggL_act_X5_run : GoodIn wsL_act wsX5_run := goodIn_r _ [119, 120, 121, 122, 123, 124, 125, 126, 127, 118, 128, 129, 130, 131, 132, 133, 134, 135, 136, 137, 138, 139, 158, 159, 160, 161, 162, 163, 164, 165, 166, 167, 168, 169] (by decide +kernel) (by decide +kernel)
set_option maxRecDepth 20000 in
theorem gL_act_X5_run : GoodIn wsL_act (wsV RL 82 RX5 yX5_run wsX5_run) := goodIn_app (goodIn_of _ (by decide +kernel)) ggL_act_X5_run
set_option maxRecDepth 20000 in
theorem ggL_act_X5_worth : GoodIn wsL_act wsX5_worth := goodIn_r _ [142] (by decide +kernel) (by decide +kernel)
set_option maxRecDepth 20000 in
theorem gL_act_X5_worth : GoodIn wsL_act (va_wsS RL 87 yX5_worth wsX5_worth) := goodIn_app (goodIn_of _ (by decide +kernel)) ggL_act_X5_worth
set_option maxRecDepth 20000 in
theorem ggL_act_X4_tear : GoodIn wsL_act wsX4_tear := goodIn_ca (goodIn_ca (goodIn_r _ [146, 64, 65, 67, 147, 148, 149, 27, 150, 50, 51, 66, 32, 33, 34, 57, 58, 59, 151, 152, 153, 154, 155, 156, 157, 170, 171, 172, 173, 174, 184, 185] (by decide +kernel) (by decide +kernel)) (goodIn_sub (fun _ h => List.mem_cons_of_mem _ (List.mem_append_right _ h)) (by decide +kernel))) (goodIn_sub (fun _ h => List.mem_cons_of_mem _ (List.mem_append_left _ (List.mem_append_right _ h))) (by decide +kernel))
set_option maxRecDepth 20000 in
theorem gL_act_X4_tear : GoodIn wsL_act (wsV RL 91 RX4 yX4_tear wsX4_tear) := goodIn_app (goodIn_of _ (by decide +kernel)) ggL_act_X4_tear
end
section
theorem dL_act_0 : decode cL_act 0 = .ok (.aload_n 1, 1) := by decide +kernel
theorem dL_act_1 : decode cL_act 1 = .ok (.getfield 9, 3) := by decide +kernel
theorem dL_act_4 : decode cL_act 4 = .ok (.arraylength, 1) := by decide +kernel
theorem dL_act_5 : decode cL_act 5 = .ok (.istore_n 3, 1) := by decide +kernel
theorem dL_act_6 : decode cL_act 6 = .ok (.iload_n 2, 1) := by decide +kernel
theorem dL_act_7 : decode cL_act 7 = .ok (.bipush 9, 2) := by decide +kernel
theorem dL_act_9 : decode cL_act 9 = .ok (.ishr, 1) := by decide +kernel
theorem dL_act_10 : decode cL_act 10 = .ok (.bipush 12, 2) := by decide +kernel
theorem dL_act_12 : decode cL_act 12 = .ok (.invokestatic 15, 3) := by decide +kernel
theorem dL_act_15 : decode cL_act 15 = .ok (.tableswitch 448 0 9 #[53, 53, 150, 176, 239, 239, 343, 343, 415, 415], 53) := by decide +kernel
theorem dL_act_68 : decode cL_act 68 = .ok (.bipush 100, 2) := by decide +kernel
theorem dL_act_70 : decode cL_act 70 = .ok (.aload_n 1, 1) := by decide +kernel
theorem dL_act_71 : decode cL_act 71 = .ok (.getfield 21, 3) := by decide +kernel
theorem dL_act_74 : decode cL_act 74 = .ok (.imul, 1) := by decide +kernel
theorem dL_act_75 : decode cL_act 75 = .ok (.aload_n 1, 1) := by decide +kernel
theorem dL_act_76 : decode cL_act 76 = .ok (.getfield 25, 3) := by decide +kernel
theorem dL_act_79 : decode cL_act 79 = .ok (.iadd, 1) := by decide +kernel
theorem dL_act_80 : decode cL_act 80 = .ok (.istore 4, 2) := by decide +kernel
theorem dL_act_82 : decode cL_act 82 = .ok (.aload_n 1, 1) := by decide +kernel
theorem dL_act_83 : decode cL_act 83 = .ok (.iload_n 2, 1) := by decide +kernel
theorem dL_act_84 : decode cL_act 84 = .ok (.iconst 5, 1) := by decide +kernel
theorem dL_act_85 : decode cL_act 85 = .ok (.ishr, 1) := by decide +kernel
theorem dL_act_86 : decode cL_act 86 = .ok (.iconst 2, 1) := by decide +kernel
theorem dL_act_87 : decode cL_act 87 = .ok (.invokestatic 15, 3) := by decide +kernel
theorem dL_act_90 : decode cL_act 90 = .ok (.ifCond .ne 8, 3) := by decide +kernel
theorem dL_act_93 : decode cL_act 93 = .ok (.bipush 20, 2) := by decide +kernel
theorem dL_act_95 : decode cL_act 95 = .ok (.goto 14, 3) := by decide +kernel
theorem dL_act_98 : decode cL_act 98 = .ok (.bipush 10, 2) := by decide +kernel
theorem dL_act_100 : decode cL_act 100 = .ok (.iload_n 2, 1) := by decide +kernel
theorem dL_act_101 : decode cL_act 101 = .ok (.iconst 2, 1) := by decide +kernel
theorem dL_act_102 : decode cL_act 102 = .ok (.ishr, 1) := by decide +kernel
theorem dL_act_103 : decode cL_act 103 = .ok (.bipush 21, 2) := by decide +kernel
theorem dL_act_105 : decode cL_act 105 = .ok (.invokestatic 15, 3) := by decide +kernel
theorem dL_act_108 : decode cL_act 108 = .ok (.iadd, 1) := by decide +kernel
theorem dL_act_109 : decode cL_act 109 = .ok (.putfield 21, 3) := by decide +kernel
theorem dL_act_112 : decode cL_act 112 = .ok (.aload_n 1, 1) := by decide +kernel
theorem dL_act_113 : decode cL_act 113 = .ok (.iload_n 2, 1) := by decide +kernel
theorem dL_act_114 : decode cL_act 114 = .ok (.bipush 6, 2) := by decide +kernel
theorem dL_act_116 : decode cL_act 116 = .ok (.ishr, 1) := by decide +kernel
theorem dL_act_117 : decode cL_act 117 = .ok (.iconst 2, 1) := by decide +kernel
theorem dL_act_118 : decode cL_act 118 = .ok (.invokestatic 15, 3) := by decide +kernel
theorem dL_act_121 : decode cL_act 121 = .ok (.ifCond .ne 7, 3) := by decide +kernel
theorem dL_act_124 : decode cL_act 124 = .ok (.iconst 0, 1) := by decide +kernel
theorem dL_act_125 : decode cL_act 125 = .ok (.goto 14, 3) := by decide +kernel
theorem dL_act_128 : decode cL_act 128 = .ok (.iload_n 2, 1) := by decide +kernel
theorem dL_act_129 : decode cL_act 129 = .ok (.iconst 3, 1) := by decide +kernel
theorem dL_act_130 : decode cL_act 130 = .ok (.ishr, 1) := by decide +kernel
theorem dL_act_131 : decode cL_act 131 = .ok (.bipush 19, 2) := by decide +kernel
theorem dL_act_133 : decode cL_act 133 = .ok (.invokestatic 15, 3) := by decide +kernel
theorem dL_act_136 : decode cL_act 136 = .ok (.bipush 9, 2) := by decide +kernel
theorem dL_act_138 : decode cL_act 138 = .ok (.isub, 1) := by decide +kernel
theorem dL_act_139 : decode cL_act 139 = .ok (.putfield 25, 3) := by decide +kernel
theorem dL_act_142 : decode cL_act 142 = .ok (.aload_n 0, 1) := by decide +kernel
theorem dL_act_143 : decode cL_act 143 = .ok (.aload_n 1, 1) := by decide +kernel
theorem dL_act_144 : decode cL_act 144 = .ok (.getfield 21, 3) := by decide +kernel
theorem dL_act_147 : decode cL_act 147 = .ok (.aload_n 1, 1) := by decide +kernel
theorem dL_act_148 : decode cL_act 148 = .ok (.getfield 25, 3) := by decide +kernel
theorem dL_act_151 : decode cL_act 151 = .ok (.invokevirtual 28, 3) := by decide +kernel
theorem dL_act_154 : decode cL_act 154 = .ok (.iload 4, 2) := by decide +kernel
theorem dL_act_156 : decode cL_act 156 = .ok (.if_icmp .ne 7, 3) := by decide +kernel
theorem dL_act_159 : decode cL_act 159 = .ok (.iconst 1, 1) := by decide +kernel
theorem dL_act_160 : decode cL_act 160 = .ok (.goto 4, 3) := by decide +kernel
theorem dL_act_163 : decode cL_act 163 = .ok (.iconst 0, 1) := by decide +kernel
theorem dL_act_164 : decode cL_act 164 = .ok (.ireturn, 1) := by decide +kernel
theorem dL_act_165 : decode cL_act 165 = .ok (.aload_n 1, 1) := by decide +kernel
theorem dL_act_166 : decode cL_act 166 = .ok (.getfield 33, 3) := by decide +kernel
theorem dL_act_169 : decode cL_act 169 = .ok (.istore 5, 2) := by decide +kernel
theorem dL_act_171 : decode cL_act 171 = .ok (.aload_n 1, 1) := by decide +kernel
theorem dL_act_172 : decode cL_act 172 = .ok (.iconst 0, 1) := by decide +kernel
theorem dL_act_173 : decode cL_act 173 = .ok (.putfield 33, 3) := by decide +kernel
theorem dL_act_176 : decode cL_act 176 = .ok (.aload_n 0, 1) := by decide +kernel
theorem dL_act_177 : decode cL_act 177 = .ok (.invokevirtual 36, 3) := by decide +kernel
theorem dL_act_180 : decode cL_act 180 = .ok (.iload 5, 2) := by decide +kernel
theorem dL_act_182 : decode cL_act 182 = .ok (.if_icmp .ne 7, 3) := by decide +kernel
theorem dL_act_185 : decode cL_act 185 = .ok (.iconst 1, 1) := by decide +kernel
theorem dL_act_186 : decode cL_act 186 = .ok (.goto 4, 3) := by decide +kernel
theorem dL_act_189 : decode cL_act 189 = .ok (.iconst 0, 1) := by decide +kernel
theorem dL_act_190 : decode cL_act 190 = .ok (.ireturn, 1) := by decide +kernel
theorem dL_act_191 : decode cL_act 191 = .ok (.aload_n 1, 1) := by decide +kernel
theorem dL_act_192 : decode cL_act 192 = .ok (.getfield 40, 3) := by decide +kernel
theorem dL_act_195 : decode cL_act 195 = .ok (.istore 6, 2) := by decide +kernel
theorem dL_act_197 : decode cL_act 197 = .ok (.aload_n 1, 1) := by decide +kernel
theorem dL_act_198 : decode cL_act 198 = .ok (.iconst 1, 1) := by decide +kernel
theorem dL_act_199 : decode cL_act 199 = .ok (.iload_n 2, 1) := by decide +kernel
theorem dL_act_200 : decode cL_act 200 = .ok (.iconst 3, 1) := by decide +kernel
theorem dL_act_201 : decode cL_act 201 = .ok (.imul, 1) := by decide +kernel
theorem dL_act_202 : decode cL_act 202 = .ok (.sipush 400, 3) := by decide +kernel
theorem dL_act_205 : decode cL_act 205 = .ok (.invokestatic 15, 3) := by decide +kernel
theorem dL_act_208 : decode cL_act 208 = .ok (.iadd, 1) := by decide +kernel
theorem dL_act_209 : decode cL_act 209 = .ok (.putfield 40, 3) := by decide +kernel
theorem dL_act_212 : decode cL_act 212 = .ok (.aload_n 1, 1) := by decide +kernel
theorem dL_act_213 : decode cL_act 213 = .ok (.iconst 1, 1) := by decide +kernel
theorem dL_act_214 : decode cL_act 214 = .ok (.iload_n 2, 1) := by decide +kernel
theorem dL_act_215 : decode cL_act 215 = .ok (.iconst 4, 1) := by decide +kernel
theorem dL_act_216 : decode cL_act 216 = .ok (.ishr, 1) := by decide +kernel
theorem dL_act_217 : decode cL_act 217 = .ok (.bipush 9, 2) := by decide +kernel
theorem dL_act_219 : decode cL_act 219 = .ok (.invokestatic 15, 3) := by decide +kernel
theorem dL_act_222 : decode cL_act 222 = .ok (.iadd, 1) := by decide +kernel
theorem dL_act_223 : decode cL_act 223 = .ok (.putfield 43, 3) := by decide +kernel
theorem dL_act_226 : decode cL_act 226 = .ok (.aload_n 1, 1) := by decide +kernel
theorem dL_act_227 : decode cL_act 227 = .ok (.iconst 0, 1) := by decide +kernel
theorem dL_act_228 : decode cL_act 228 = .ok (.putfield 46, 3) := by decide +kernel
theorem dL_act_231 : decode cL_act 231 = .ok (.aload_n 0, 1) := by decide +kernel
theorem dL_act_232 : decode cL_act 232 = .ok (.aload_n 1, 1) := by decide +kernel
theorem dL_act_233 : decode cL_act 233 = .ok (.getfield 40, 3) := by decide +kernel
theorem dL_act_236 : decode cL_act 236 = .ok (.aload_n 1, 1) := by decide +kernel
theorem dL_act_237 : decode cL_act 237 = .ok (.getfield 43, 3) := by decide +kernel
theorem dL_act_240 : decode cL_act 240 = .ok (.invokevirtual 49, 3) := by decide +kernel
theorem dL_act_243 : decode cL_act 243 = .ok (.iload 6, 2) := by decide +kernel
theorem dL_act_245 : decode cL_act 245 = .ok (.if_icmp .ne 7, 3) := by decide +kernel
theorem dL_act_248 : decode cL_act 248 = .ok (.iconst 1, 1) := by decide +kernel
theorem dL_act_249 : decode cL_act 249 = .ok (.goto 4, 3) := by decide +kernel
theorem dL_act_252 : decode cL_act 252 = .ok (.iconst 0, 1) := by decide +kernel
theorem dL_act_253 : decode cL_act 253 = .ok (.ireturn, 1) := by decide +kernel
theorem dL_act_254 : decode cL_act 254 = .ok (.iload_n 2, 1) := by decide +kernel
theorem dL_act_255 : decode cL_act 255 = .ok (.bipush 7, 2) := by decide +kernel
theorem dL_act_257 : decode cL_act 257 = .ok (.invokestatic 15, 3) := by decide +kernel
theorem dL_act_260 : decode cL_act 260 = .ok (.istore 7, 2) := by decide +kernel
theorem dL_act_262 : decode cL_act 262 = .ok (.aload_n 1, 1) := by decide +kernel
theorem dL_act_263 : decode cL_act 263 = .ok (.getfield 52, 3) := by decide +kernel
theorem dL_act_266 : decode cL_act 266 = .ok (.iload 7, 2) := by decide +kernel
theorem dL_act_268 : decode cL_act 268 = .ok (.iaload, 1) := by decide +kernel
theorem dL_act_269 : decode cL_act 269 = .ok (.istore 8, 2) := by decide +kernel
theorem dL_act_271 : decode cL_act 271 = .ok (.aload_n 1, 1) := by decide +kernel
theorem dL_act_272 : decode cL_act 272 = .ok (.getfield 56, 3) := by decide +kernel
theorem dL_act_275 : decode cL_act 275 = .ok (.invokevirtual 59, 3) := by decide +kernel
theorem dL_act_278 : decode cL_act 278 = .ok (.checkcast 60, 3) := by decide +kernel
theorem dL_act_281 : decode cL_act 281 = .ok (.astore 9, 2) := by decide +kernel
theorem dL_act_283 : decode cL_act 283 = .ok (.aload 9, 2) := by decide +kernel
theorem dL_act_285 : decode cL_act 285 = .ok (.iload 7, 2) := by decide +kernel
theorem dL_act_287 : decode cL_act 287 = .ok (.iconst 1, 1) := by decide +kernel
theorem dL_act_288 : decode cL_act 288 = .ok (.iload_n 2, 1) := by decide +kernel
theorem dL_act_289 : decode cL_act 289 = .ok (.iconst 2, 1) := by decide +kernel
theorem dL_act_290 : decode cL_act 290 = .ok (.ishr, 1) := by decide +kernel
theorem dL_act_291 : decode cL_act 291 = .ok (.iload_n 2, 1) := by decide +kernel
theorem dL_act_292 : decode cL_act 292 = .ok (.iconst 5, 1) := by decide +kernel
theorem dL_act_293 : decode cL_act 293 = .ok (.ishr, 1) := by decide +kernel
theorem dL_act_294 : decode cL_act 294 = .ok (.iconst 3, 1) := by decide +kernel
theorem dL_act_295 : decode cL_act 295 = .ok (.invokestatic 15, 3) := by decide +kernel
theorem dL_act_298 : decode cL_act 298 = .ok (.ifCond .ne 9, 3) := by decide +kernel
theorem dL_act_301 : decode cL_act 301 = .ok (.sipush 500, 3) := by decide +kernel
theorem dL_act_304 : decode cL_act 304 = .ok (.goto 5, 3) := by decide +kernel
theorem dL_act_307 : decode cL_act 307 = .ok (.bipush 30, 2) := by decide +kernel
theorem dL_act_309 : decode cL_act 309 = .ok (.invokestatic 15, 3) := by decide +kernel
theorem dL_act_312 : decode cL_act 312 = .ok (.iadd, 1) := by decide +kernel
theorem dL_act_313 : decode cL_act 313 = .ok (.iastore, 1) := by decide +kernel
theorem dL_act_314 : decode cL_act 314 = .ok (.aload_n 1, 1) := by decide +kernel
theorem dL_act_315 : decode cL_act 315 = .ok (.aload 9, 2) := by decide +kernel
theorem dL_act_317 : decode cL_act 317 = .ok (.putfield 56, 3) := by decide +kernel
theorem dL_act_320 : decode cL_act 320 = .ok (.aload_n 1, 1) := by decide +kernel
theorem dL_act_321 : decode cL_act 321 = .ok (.getfield 52, 3) := by decide +kernel
theorem dL_act_324 : decode cL_act 324 = .ok (.iload 7, 2) := by decide +kernel
theorem dL_act_326 : decode cL_act 326 = .ok (.iconst 0, 1) := by decide +kernel
theorem dL_act_327 : decode cL_act 327 = .ok (.iastore, 1) := by decide +kernel
theorem dL_act_328 : decode cL_act 328 = .ok (.aload_n 1, 1) := by decide +kernel
theorem dL_act_329 : decode cL_act 329 = .ok (.getfield 64, 3) := by decide +kernel
theorem dL_act_332 : decode cL_act 332 = .ok (.iload 7, 2) := by decide +kernel
theorem dL_act_334 : decode cL_act 334 = .ok (.iconst 0, 1) := by decide +kernel
theorem dL_act_335 : decode cL_act 335 = .ok (.bastore, 1) := by decide +kernel
theorem dL_act_336 : decode cL_act 336 = .ok (.aload_n 0, 1) := by decide +kernel
theorem dL_act_337 : decode cL_act 337 = .ok (.iload 7, 2) := by decide +kernel
theorem dL_act_339 : decode cL_act 339 = .ok (.aload 9, 2) := by decide +kernel
theorem dL_act_341 : decode cL_act 341 = .ok (.iload 7, 2) := by decide +kernel
theorem dL_act_343 : decode cL_act 343 = .ok (.iaload, 1) := by decide +kernel
theorem dL_act_344 : decode cL_act 344 = .ok (.invokevirtual 68, 3) := by decide +kernel
theorem dL_act_347 : decode cL_act 347 = .ok (.iload 8, 2) := by decide +kernel
theorem dL_act_349 : decode cL_act 349 = .ok (.if_icmp .ne 7, 3) := by decide +kernel
theorem dL_act_352 : decode cL_act 352 = .ok (.iconst 1, 1) := by decide +kernel
theorem dL_act_353 : decode cL_act 353 = .ok (.goto 4, 3) := by decide +kernel
theorem dL_act_356 : decode cL_act 356 = .ok (.iconst 0, 1) := by decide +kernel
theorem dL_act_357 : decode cL_act 357 = .ok (.ireturn, 1) := by decide +kernel
theorem dL_act_358 : decode cL_act 358 = .ok (.iload_n 2, 1) := by decide +kernel
theorem dL_act_359 : decode cL_act 359 = .ok (.iconst 5, 1) := by decide +kernel
theorem dL_act_360 : decode cL_act 360 = .ok (.invokestatic 15, 3) := by decide +kernel
theorem dL_act_363 : decode cL_act 363 = .ok (.istore 10, 2) := by decide +kernel
theorem dL_act_365 : decode cL_act 365 = .ok (.iload_n 2, 1) := by decide +kernel
theorem dL_act_366 : decode cL_act 366 = .ok (.iconst 3, 1) := by decide +kernel
theorem dL_act_367 : decode cL_act 367 = .ok (.ishr, 1) := by decide +kernel
theorem dL_act_368 : decode cL_act 368 = .ok (.bipush 6, 2) := by decide +kernel
theorem dL_act_370 : decode cL_act 370 = .ok (.invokestatic 15, 3) := by decide +kernel
theorem dL_act_373 : decode cL_act 373 = .ok (.istore 11, 2) := by decide +kernel
theorem dL_act_375 : decode cL_act 375 = .ok (.aload_n 1, 1) := by decide +kernel
theorem dL_act_376 : decode cL_act 376 = .ok (.getfield 71, 3) := by decide +kernel
theorem dL_act_379 : decode cL_act 379 = .ok (.iload 10, 2) := by decide +kernel
theorem dL_act_381 : decode cL_act 381 = .ok (.aaload, 1) := by decide +kernel
theorem dL_act_382 : decode cL_act 382 = .ok (.iload 11, 2) := by decide +kernel
theorem dL_act_384 : decode cL_act 384 = .ok (.aload_n 1, 1) := by decide +kernel
theorem dL_act_385 : decode cL_act 385 = .ok (.getfield 71, 3) := by decide +kernel
theorem dL_act_388 : decode cL_act 388 = .ok (.iload 10, 2) := by decide +kernel
theorem dL_act_390 : decode cL_act 390 = .ok (.aaload, 1) := by decide +kernel
theorem dL_act_391 : decode cL_act 391 = .ok (.iload 11, 2) := by decide +kernel
theorem dL_act_393 : decode cL_act 393 = .ok (.baload, 1) := by decide +kernel
theorem dL_act_394 : decode cL_act 394 = .ok (.ifCond .ne 7, 3) := by decide +kernel
theorem dL_act_397 : decode cL_act 397 = .ok (.iconst 1, 1) := by decide +kernel
theorem dL_act_398 : decode cL_act 398 = .ok (.goto 4, 3) := by decide +kernel
theorem dL_act_401 : decode cL_act 401 = .ok (.iconst 0, 1) := by decide +kernel
theorem dL_act_402 : decode cL_act 402 = .ok (.bastore, 1) := by decide +kernel
theorem dL_act_403 : decode cL_act 403 = .ok (.aload_n 0, 1) := by decide +kernel
theorem dL_act_404 : decode cL_act 404 = .ok (.iload 10, 2) := by decide +kernel
theorem dL_act_406 : decode cL_act 406 = .ok (.iload 11, 2) := by decide +kernel
theorem dL_act_408 : decode cL_act 408 = .ok (.invokevirtual 75, 3) := by decide +kernel
theorem dL_act_411 : decode cL_act 411 = .ok (.aload_n 1, 1) := by decide +kernel
theorem dL_act_412 : decode cL_act 412 = .ok (.getfield 71, 3) := by decide +kernel
theorem dL_act_415 : decode cL_act 415 = .ok (.iload 10, 2) := by decide +kernel
theorem dL_act_417 : decode cL_act 417 = .ok (.aaload, 1) := by decide +kernel
theorem dL_act_418 : decode cL_act 418 = .ok (.iload 11, 2) := by decide +kernel
theorem dL_act_420 : decode cL_act 420 = .ok (.baload, 1) := by decide +kernel
theorem dL_act_421 : decode cL_act 421 = .ok (.if_icmp .ne 7, 3) := by decide +kernel
theorem dL_act_424 : decode cL_act 424 = .ok (.iconst 1, 1) := by decide +kernel
theorem dL_act_425 : decode cL_act 425 = .ok (.goto 4, 3) := by decide +kernel
theorem dL_act_428 : decode cL_act 428 = .ok (.iconst 0, 1) := by decide +kernel
theorem dL_act_429 : decode cL_act 429 = .ok (.ireturn, 1) := by decide +kernel
theorem dL_act_430 : decode cL_act 430 = .ok (.iload_n 3, 1) := by decide +kernel
theorem dL_act_431 : decode cL_act 431 = .ok (.bipush 20, 2) := by decide +kernel
theorem dL_act_433 : decode cL_act 433 = .ok (.if_icmp .eq 11, 3) := by decide +kernel
theorem dL_act_436 : decode cL_act 436 = .ok (.aload_n 1, 1) := by decide +kernel
theorem dL_act_437 : decode cL_act 437 = .ok (.getfield 40, 3) := by decide +kernel
theorem dL_act_440 : decode cL_act 440 = .ok (.iconst 5, 1) := by decide +kernel
theorem dL_act_441 : decode cL_act 441 = .ok (.if_icmp .ge 5, 3) := by decide +kernel
theorem dL_act_444 : decode cL_act 444 = .ok (.iconst 1, 1) := by decide +kernel
theorem dL_act_445 : decode cL_act 445 = .ok (.ireturn, 1) := by decide +kernel
theorem dL_act_446 : decode cL_act 446 = .ok (.aload_n 0, 1) := by decide +kernel
theorem dL_act_447 : decode cL_act 447 = .ok (.invokevirtual 79, 3) := by decide +kernel
theorem dL_act_450 : decode cL_act 450 = .ok (.aload_n 1, 1) := by decide +kernel
theorem dL_act_451 : decode cL_act 451 = .ok (.invokevirtual 82, 3) := by decide +kernel
theorem dL_act_454 : decode cL_act 454 = .ok (.if_icmp .ne 7, 3) := by decide +kernel
theorem dL_act_457 : decode cL_act 457 = .ok (.iconst 1, 1) := by decide +kernel
theorem dL_act_458 : decode cL_act 458 = .ok (.goto 4, 3) := by decide +kernel
theorem dL_act_461 : decode cL_act 461 = .ok (.iconst 0, 1) := by decide +kernel
theorem dL_act_462 : decode cL_act 462 = .ok (.ireturn, 1) := by decide +kernel
theorem dL_act_463 : decode cL_act 463 = .ok (.iload_n 3, 1) := by decide +kernel
theorem dL_act_464 : decode cL_act 464 = .ok (.ifCond .ne 5, 3) := by decide +kernel
theorem dL_act_467 : decode cL_act 467 = .ok (.iconst 1, 1) := by decide +kernel
theorem dL_act_468 : decode cL_act 468 = .ok (.ireturn, 1) := by decide +kernel
theorem dL_act_469 : decode cL_act 469 = .ok (.iload_n 2, 1) := by decide +kernel
theorem dL_act_470 : decode cL_act 470 = .ok (.iload_n 3, 1) := by decide +kernel
theorem dL_act_471 : decode cL_act 471 = .ok (.invokestatic 15, 3) := by decide +kernel
theorem dL_act_474 : decode cL_act 474 = .ok (.istore 12, 2) := by decide +kernel
theorem dL_act_476 : decode cL_act 476 = .ok (.iload_n 2, 1) := by decide +kernel
theorem dL_act_477 : decode cL_act 477 = .ok (.iconst 2, 1) := by decide +kernel
theorem dL_act_478 : decode cL_act 478 = .ok (.ishr, 1) := by decide +kernel
theorem dL_act_479 : decode cL_act 479 = .ok (.iconst 5, 1) := by decide +kernel
theorem dL_act_480 : decode cL_act 480 = .ok (.invokestatic 15, 3) := by decide +kernel
theorem dL_act_483 : decode cL_act 483 = .ok (.istore 13, 2) := by decide +kernel
theorem dL_act_485 : decode cL_act 485 = .ok (.iload_n 2, 1) := by decide +kernel
theorem dL_act_486 : decode cL_act 486 = .ok (.iconst 4, 1) := by decide +kernel
theorem dL_act_487 : decode cL_act 487 = .ok (.ishr, 1) := by decide +kernel
theorem dL_act_488 : decode cL_act 488 = .ok (.bipush 6, 2) := by decide +kernel
theorem dL_act_490 : decode cL_act 490 = .ok (.invokestatic 15, 3) := by decide +kernel
theorem dL_act_493 : decode cL_act 493 = .ok (.istore 14, 2) := by decide +kernel
theorem dL_act_495 : decode cL_act 495 = .ok (.aload_n 1, 1) := by decide +kernel
theorem dL_act_496 : decode cL_act 496 = .ok (.getfield 83, 3) := by decide +kernel
theorem dL_act_499 : decode cL_act 499 = .ok (.iload 12, 2) := by decide +kernel
theorem dL_act_501 : decode cL_act 501 = .ok (.aaload, 1) := by decide +kernel
theorem dL_act_502 : decode cL_act 502 = .ok (.iload 13, 2) := by decide +kernel
theorem dL_act_504 : decode cL_act 504 = .ok (.aaload, 1) := by decide +kernel
theorem dL_act_505 : decode cL_act 505 = .ok (.iload 14, 2) := by decide +kernel
theorem dL_act_507 : decode cL_act 507 = .ok (.baload, 1) := by decide +kernel
theorem dL_act_508 : decode cL_act 508 = .ok (.ifCond .eq 5, 3) := by decide +kernel
theorem dL_act_511 : decode cL_act 511 = .ok (.iconst 1, 1) := by decide +kernel
theorem dL_act_512 : decode cL_act 512 = .ok (.ireturn, 1) := by decide +kernel
theorem dL_act_513 : decode cL_act 513 = .ok (.aload_n 1, 1) := by decide +kernel
theorem dL_act_514 : decode cL_act 514 = .ok (.getfield 9, 3) := by decide +kernel
theorem dL_act_517 : decode cL_act 517 = .ok (.iload 12, 2) := by decide +kernel
theorem dL_act_519 : decode cL_act 519 = .ok (.aaload, 1) := by decide +kernel
theorem dL_act_520 : decode cL_act 520 = .ok (.iload 13, 2) := by decide +kernel
theorem dL_act_522 : decode cL_act 522 = .ok (.aaload, 1) := by decide +kernel
theorem dL_act_523 : decode cL_act 523 = .ok (.iload 14, 2) := by decide +kernel
theorem dL_act_525 : decode cL_act 525 = .ok (.iaload, 1) := by decide +kernel
theorem dL_act_526 : decode cL_act 526 = .ok (.iconst 0, 1) := by decide +kernel
theorem dL_act_527 : decode cL_act 527 = .ok (.invokestatic 87, 3) := by decide +kernel
theorem dL_act_530 : decode cL_act 530 = .ok (.istore 15, 2) := by decide +kernel
theorem dL_act_532 : decode cL_act 532 = .ok (.aload_n 1, 1) := by decide +kernel
theorem dL_act_533 : decode cL_act 533 = .ok (.getfield 83, 3) := by decide +kernel
theorem dL_act_536 : decode cL_act 536 = .ok (.iload 12, 2) := by decide +kernel
theorem dL_act_538 : decode cL_act 538 = .ok (.aaload, 1) := by decide +kernel
theorem dL_act_539 : decode cL_act 539 = .ok (.iload 13, 2) := by decide +kernel
theorem dL_act_541 : decode cL_act 541 = .ok (.aaload, 1) := by decide +kernel
theorem dL_act_542 : decode cL_act 542 = .ok (.iload 14, 2) := by decide +kernel
theorem dL_act_544 : decode cL_act 544 = .ok (.iconst 1, 1) := by decide +kernel
theorem dL_act_545 : decode cL_act 545 = .ok (.bastore, 1) := by decide +kernel
theorem dL_act_546 : decode cL_act 546 = .ok (.aload_n 0, 1) := by decide +kernel
theorem dL_act_547 : decode cL_act 547 = .ok (.iload 12, 2) := by decide +kernel
theorem dL_act_549 : decode cL_act 549 = .ok (.iload 13, 2) := by decide +kernel
theorem dL_act_551 : decode cL_act 551 = .ok (.iload 14, 2) := by decide +kernel
theorem dL_act_553 : decode cL_act 553 = .ok (.invokevirtual 91, 3) := by decide +kernel
theorem dL_act_556 : decode cL_act 556 = .ok (.iload 15, 2) := by decide +kernel
theorem dL_act_558 : decode cL_act 558 = .ok (.if_icmp .ne 7, 3) := by decide +kernel
theorem dL_act_561 : decode cL_act 561 = .ok (.iconst 1, 1) := by decide +kernel
theorem dL_act_562 : decode cL_act 562 = .ok (.goto 4, 3) := by decide +kernel
theorem dL_act_565 : decode cL_act 565 = .ok (.iconst 0, 1) := by decide +kernel
theorem dL_act_566 : decode cL_act 566 = .ok (.ireturn, 1) := by decide +kernel
set_option maxRecDepth 20000 in
theorem ggL_build_X5_init : GoodIn wsL_build wsX5_init := goodIn_r _ [5, 6, 7, 8, 9, 10, 11, 12, 13, 14, 15, 16, 17, 18, 19, 20, 172, 173, 174, 175, 176, 177, 178, 179, 180, 181, 182, 183] (by decide +kernel) (by decide +kernel)
set_option maxRecDepth 20000 in
theorem gL_build_X5_init_n95 : GoodIn wsL_build (wsX5_init) := ggL_build_X5_init
set_option maxRecDepth 20000 in
theorem ggL_build_L_cell : GoodIn wsL_build wsL_cell := goodIn_r _ [24, 25] (by decide +kernel) (by decide +kernel)
set_option maxRecDepth 20000 in
theorem gL_build_L_cell : GoodIn wsL_build (va_wsS RL 96 yL_cell wsL_cell) := goodIn_app (goodIn_of _ (by decide +kernel)) ggL_build_L_cell
set_option maxRecDepth 20000 in
theorem ggL_build_L_act_h : GoodIn wsL_build [.code yL_act cL_act 16 (some .boolean)] := goodIn_r _ [28] (by decide +kernel) (by decide +kernel)
theorem ggL_build_L_act_wsL_act_r1 : GoodIn wsL_build wsL_act_r1 := goodIn_r _ [29, 30, 31, 32, 33, 34, 35, 36, 37, 38, 39, 40, 41, 42, 43, 44, 45, 46, 47, 48, 23, 49, 50, 51] (by decide +kernel) (by decide +kernel)
theorem ggL_build_L_act_wsL_act_r2 : GoodIn wsL_build wsL_act_r2 := goodIn_r _ [52, 53, 54, 55, 56, 57, 58, 59, 60, 61, 62, 63, 64, 65, 66, 67, 68, 69, 70, 71, 72, 73, 74, 75] (by decide +kernel) (by decide +kernel)
theorem ggL_build_L_act_wsL_act_r3 : GoodIn wsL_build wsL_act_r3 := goodIn_r _ [76, 77, 78, 79, 80, 81, 82, 83, 84, 85, 86, 87, 88, 89, 90, 91, 92, 93, 94, 95, 96, 97, 98, 99] (by decide +kernel) (by decide +kernel)
theorem ggL_build_L_act_wsL_act_r4 : GoodIn wsL_build wsL_act_r4 := goodIn_r _ [100, 101, 102, 103, 104, 105, 106, 107, 108, 109, 110, 111, 112, 113, 114, 115, 116, 117, 118, 119, 120, 121, 122, 123] (by decide +kernel) (by decide +kernel)
theorem ggL_build_L_act_wsL_act_r5 : GoodIn wsL_build wsL_act_r5 := goodIn_r _ [124, 125, 126, 127, 128, 129, 130, 131, 132, 133, 134, 135, 136, 137, 138, 139, 140, 141, 142, 143, 144, 3, 145, 19] (by decide +kernel) (by decide +kernel)
theorem ggL_build_L_act_wsL_act_r6 : GoodIn wsL_build wsL_act_r6 := goodIn_r _ [18, 20, 16, 14, 146, 147, 148, 149, 11, 150, 9, 15, 17, 151, 10, 13, 12, 152, 153, 154, 155, 156, 157, 158] (by decide +kernel) (by decide +kernel)
theorem ggL_build_L_act_wsL_act_r7 : GoodIn wsL_build wsL_act_r7 := goodIn_r _ [159, 160, 161, 162, 163, 164, 165, 166, 167, 168, 169, 170, 171] (by decide +kernel) (by decide +kernel)
theorem ggL_build_L_act_wsX50 : GoodIn wsL_build wsX50 := goodIn_r _ [172, 173, 174, 175, 176, 177, 178, 179, 180, 181, 182, 183] (by decide +kernel) (by decide +kernel)
theorem ggL_build_L_act_wsX40 : GoodIn wsL_build wsX40 := goodIn_r _ [184, 185, 186, 187, 188] (by decide +kernel) (by decide +kernel)
theorem ggL_build_L_act_wsX00 : GoodIn wsL_build wsX00 := goodIn_r _ [189, 190, 191, 192, 193, 194, 195] (by decide +kernel) (by decide +kernel)
theorem ggL_build_L_act_wsX10 : GoodIn wsL_build wsX10 := goodIn_r _ [196, 197] (by decide +kernel) (by decide +kernel)
theorem ggL_build_L_act_wsX20 : GoodIn wsL_build wsX20 := goodIn_r _ [198, 199] (by decide +kernel) (by decide +kernel)
theorem ggL_build_L_act : GoodIn wsL_build wsL_act := (goodIn_app ggL_build_L_act_h (goodIn_app (goodIn_app (goodIn_app (goodIn_app (goodIn_app (goodIn_app (goodIn_app (goodIn_app (goodIn_app ggL_build_L_act_wsL_act_r1 (goodIn_app ggL_build_L_act_wsL_act_r2 (goodIn_app ggL_build_L_act_wsL_act_r3 (goodIn_app ggL_build_L_act_wsL_act_r4 (goodIn_app ggL_build_L_act_wsL_act_r5 (goodIn_app ggL_build_L_act_wsL_act_r6 ggL_build_L_act_wsL_act_r7)))))) ggL_build_L_act_wsX50) ggL_build_L_act_wsX40) ggL_build_L_act_wsX00) ggL_build_L_act_wsX10) ggL_build_L_act_wsX20) (goodIn_sub (fun _ h => List.mem_cons_of_mem _ (List.mem_append_left _ (List.mem_append_left _ (List.mem_append_right _ h)))) (by decide +kernel))) (goodIn_sub (fun _ h => List.mem_cons_of_mem _ (List.mem_append_left _ (List.mem_append_right _ h))) (by decide +kernel))) (goodIn_sub (fun _ h => List.mem_cons_of_mem _ (List.mem_append_right _ h)) (by decide +kernel))))
set_option maxRecDepth 20000 in
theorem gL_build_L_act : GoodIn wsL_build (va_wsS RL 100 yL_act wsL_act) := goodIn_app (goodIn_of _ (by decide +kernel)) ggL_build_L_act
theorem dL_build_0 : decode cL_build 0 = .ok (.new 10, 3) := by decide +kernel
theorem dL_build_3 : decode cL_build 3 = .ok (.dup, 1) := by decide +kernel
theorem dL_build_4 : decode cL_build 4 = .ok (.invokespecial 95, 3) := by decide +kernel
theorem dL_build_7 : decode cL_build 7 = .ok (.astore_n 2, 1) := by decide +kernel
theorem dL_build_8 : decode cL_build 8 = .ok (.iconst 0, 1) := by decide +kernel
theorem dL_build_9 : decode cL_build 9 = .ok (.istore_n 3, 1) := by decide +kernel
theorem dL_build_10 : decode cL_build 10 = .ok (.iload_n 3, 1) := by decide +kernel
theorem dL_build_11 : decode cL_build 11 = .ok (.bipush 24, 2) := by decide +kernel
theorem dL_build_13 : decode cL_build 13 = .ok (.if_icmp .ge 52, 3) := by decide +kernel
theorem dL_build_16 : decode cL_build 16 = .ok (.aload_n 0, 1) := by decide +kernel
theorem dL_build_17 : decode cL_build 17 = .ok (.aload_n 2, 1) := by decide +kernel
theorem dL_build_18 : decode cL_build 18 = .ok (.aload_n 1, 1) := by decide +kernel
theorem dL_build_19 : decode cL_build 19 = .ok (.iload_n 3, 1) := by decide +kernel
theorem dL_build_20 : decode cL_build 20 = .ok (.bipush 12, 2) := by decide +kernel
theorem dL_build_22 : decode cL_build 22 = .ok (.irem, 1) := by decide +kernel
theorem dL_build_23 : decode cL_build 23 = .ok (.invokestatic 96, 3) := by decide +kernel
theorem dL_build_26 : decode cL_build 26 = .ok (.iload_n 3, 1) := by decide +kernel
theorem dL_build_27 : decode cL_build 27 = .ok (.bipush 12, 2) := by decide +kernel
theorem dL_build_29 : decode cL_build 29 = .ok (.idiv, 1) := by decide +kernel
theorem dL_build_30 : decode cL_build 30 = .ok (.iconst 4, 1) := by decide +kernel
theorem dL_build_31 : decode cL_build 31 = .ok (.imul, 1) := by decide +kernel
theorem dL_build_32 : decode cL_build 32 = .ok (.ishr, 1) := by decide +kernel
theorem dL_build_33 : decode cL_build 33 = .ok (.sipush 167, 3) := by decide +kernel
theorem dL_build_36 : decode cL_build 36 = .ok (.iload_n 3, 1) := by decide +kernel
theorem dL_build_37 : decode cL_build 37 = .ok (.imul, 1) := by decide +kernel
theorem dL_build_38 : decode cL_build 38 = .ok (.iadd, 1) := by decide +kernel
theorem dL_build_39 : decode cL_build 39 = .ok (.iload_n 3, 1) := by decide +kernel
theorem dL_build_40 : decode cL_build 40 = .ok (.ifCond .ne 9, 3) := by decide +kernel
theorem dL_build_43 : decode cL_build 43 = .ok (.sipush 1536, 3) := by decide +kernel
theorem dL_build_46 : decode cL_build 46 = .ok (.goto 4, 3) := by decide +kernel
theorem dL_build_49 : decode cL_build 49 = .ok (.iconst 0, 1) := by decide +kernel
theorem dL_build_50 : decode cL_build 50 = .ok (.iadd, 1) := by decide +kernel
theorem dL_build_51 : decode cL_build 51 = .ok (.invokestatic 100, 3) := by decide +kernel
theorem dL_build_54 : decode cL_build 54 = .ok (.ifCond .ne 5, 3) := by decide +kernel
theorem dL_build_57 : decode cL_build 57 = .ok (.aconst_null, 1) := by decide +kernel
theorem dL_build_58 : decode cL_build 58 = .ok (.areturn, 1) := by decide +kernel
theorem dL_build_59 : decode cL_build 59 = .ok (.iinc 3 1, 3) := by decide +kernel
theorem dL_build_62 : decode cL_build 62 = .ok (.goto (-52), 3) := by decide +kernel
theorem dL_build_65 : decode cL_build 65 = .ok (.aload_n 2, 1) := by decide +kernel
theorem dL_build_66 : decode cL_build 66 = .ok (.areturn, 1) := by decide +kernel
set_option maxRecDepth 20000 in
theorem ggL_law_X4_init : GoodIn wsL_law wsX4_init := goodIn_r _ [10, 11, 12, 13, 14, 15, 16, 17, 18, 19, 20, 21, 22, 23, 24, 25, 26, 27, 28, 29, 30, 31, 32, 33, 34, 35, 36, 37, 38, 39, 40, 41, 42, 43, 44, 45, 46, 47, 48, 49, 50, 51, 52, 53, 54, 3, 55, 56, 57, 363, 364, 365, 366, 367, 368, 369, 358, 359, 360, 361, 362, 370, 371, 372, 373, 374, 375, 376, 377] (by decide +kernel) (by decide +kernel)
set_option maxRecDepth 20000 in
theorem gL_law_X4_init : GoodIn wsL_law (wsX4_init) := ggL_law_X4_init
set_option maxRecDepth 20000 in
theorem ggL_law_L_build_h : GoodIn wsL_law [.code yL_build cL_build 4 (some (.object "StampSheetsLaw$Sim"))] := goodIn_r _ [61] (by decide +kernel) (by decide +kernel)
theorem ggL_law_L_build_wsL_build_r1 : GoodIn wsL_law wsL_build_r1 := goodIn_r _ [62, 63, 64, 65, 66, 67, 12, 13, 68, 69, 3, 70, 71, 22, 72, 73, 74, 75, 76, 77, 78, 79, 60, 80] (by decide +kernel) (by decide +kernel)
theorem ggL_law_L_build_wsL_build_r2 : GoodIn wsL_law wsL_build_r2 := goodIn_r _ [81, 82, 83, 84, 85, 86, 87, 88, 89, 90, 91, 92, 93, 94, 95, 96, 97, 98, 99, 100, 101, 102, 103, 104] (by decide +kernel) (by decide +kernel)
theorem ggL_law_L_build_wsL_build_r3 : GoodIn wsL_law wsL_build_r3 := goodIn_r _ [105, 106, 107, 108, 109, 2, 110, 111, 112, 17, 113, 114, 115, 116, 117, 118, 119, 120, 121, 122, 123, 124, 125, 126] (by decide +kernel) (by decide +kernel)
theorem ggL_law_L_build_wsL_build_r4 : GoodIn wsL_law wsL_build_r4 := goodIn_r _ [127, 128, 129, 130, 131, 132, 133, 134, 135, 136, 23, 137, 138, 139, 140, 141, 142, 143, 144, 145, 146, 25, 147, 148] (by decide +kernel) (by decide +kernel)
theorem ggL_law_L_build_wsL_build_r5 : GoodIn wsL_law wsL_build_r5 := goodIn_r _ [149, 16, 150, 151, 32, 152, 153, 154, 155, 156, 6, 157, 158, 5, 7, 159, 160, 161, 162, 163, 164, 165, 166, 35] (by decide +kernel) (by decide +kernel)
theorem ggL_law_L_build_wsL_build_r6 : GoodIn wsL_law wsL_build_r6 := goodIn_r _ [167, 168, 169, 37, 170, 171, 41, 172, 173, 174, 175, 33, 176, 177, 178, 179, 180, 181, 182, 183, 184, 185, 186, 187] (by decide +kernel) (by decide +kernel)
theorem ggL_law_L_build_wsL_build_r7 : GoodIn wsL_law wsL_build_r7 := goodIn_r _ [188, 189, 190, 191, 192, 193, 194, 195, 196, 197, 198, 199, 200, 201, 202, 203, 204, 205, 206, 207, 208, 209, 210, 27] (by decide +kernel) (by decide +kernel)
theorem ggL_law_L_build_wsL_build_r8 : GoodIn wsL_law wsL_build_r8 := goodIn_r _ [211, 55, 56] (by decide +kernel) (by decide +kernel)
theorem ggL_law_L_build_wsX50 : GoodIn wsL_law wsX50 := goodIn_r _ [378, 379, 380, 381, 382, 383, 384, 385, 386, 387, 388, 389] (by decide +kernel) (by decide +kernel)
theorem ggL_law_L_build_wsX40 : GoodIn wsL_law wsX40 := goodIn_r _ [358, 359, 360, 361, 362] (by decide +kernel) (by decide +kernel)
theorem ggL_law_L_build_wsX00 : GoodIn wsL_law wsX00 := goodIn_r _ [363, 364, 365, 366, 367, 368, 369] (by decide +kernel) (by decide +kernel)
theorem ggL_law_L_build_wsX10 : GoodIn wsL_law wsX10 := goodIn_r _ [376, 377] (by decide +kernel) (by decide +kernel)
theorem ggL_law_L_build_wsX20 : GoodIn wsL_law wsX20 := goodIn_r _ [374, 375] (by decide +kernel) (by decide +kernel)
theorem ggL_law_L_build : GoodIn wsL_law wsL_build := (goodIn_app ggL_law_L_build_h (goodIn_app (goodIn_app (goodIn_app (goodIn_app (goodIn_app (goodIn_app (goodIn_app (goodIn_app (goodIn_app ggL_law_L_build_wsL_build_r1 (goodIn_app ggL_law_L_build_wsL_build_r2 (goodIn_app ggL_law_L_build_wsL_build_r3 (goodIn_app ggL_law_L_build_wsL_build_r4 (goodIn_app ggL_law_L_build_wsL_build_r5 (goodIn_app ggL_law_L_build_wsL_build_r6 (goodIn_app ggL_law_L_build_wsL_build_r7 ggL_law_L_build_wsL_build_r8))))))) ggL_law_L_build_wsX50) ggL_law_L_build_wsX40) ggL_law_L_build_wsX00) ggL_law_L_build_wsX10) ggL_law_L_build_wsX20) (goodIn_sub (fun _ h => List.mem_append_left _ (List.mem_append_left _ (List.mem_append_right _ h))) (by decide +kernel))) (goodIn_sub (fun _ h => List.mem_append_left _ (List.mem_append_right _ h)) (by decide +kernel))) (goodIn_sub (fun _ h => List.mem_append_right _ h) (by decide +kernel))))
set_option maxRecDepth 20000 in
theorem gL_law_L_build : GoodIn wsL_law (va_wsS RL 105 yL_build wsL_build) := goodIn_app (goodIn_of _ (by decide +kernel)) ggL_law_L_build
set_option maxRecDepth 20000 in
theorem ggL_law_L_cell : GoodIn wsL_law wsL_cell := goodIn_r _ [80, 81] (by decide +kernel) (by decide +kernel)
set_option maxRecDepth 20000 in
theorem gL_law_L_cell : GoodIn wsL_law (va_wsS RL 96 yL_cell wsL_cell) := goodIn_app (goodIn_of _ (by decide +kernel)) ggL_law_L_cell
set_option maxRecDepth 20000 in
theorem ggL_law_X4_count : GoodIn wsL_law wsX4_count := goodIn_ca (goodIn_r _ [215, 216, 217, 2, 218, 131, 132, 113, 114, 115, 219, 220, 221, 222, 146, 17, 223, 224, 225, 16, 226, 35, 167, 168, 169, 37, 170, 171, 41, 227, 228, 229, 230, 23, 231, 232, 233, 234, 25, 235, 236, 237, 27, 238, 239, 209, 210, 211, 55, 56, 358, 359, 360, 361, 362, 363, 364, 365, 366, 367, 368, 369, 376, 377, 374, 375] (by decide +kernel) (by decide +kernel)) (goodIn_sub (fun _ h => List.mem_append_left _ (List.mem_append_right _ h)) (by decide +kernel))
set_option maxRecDepth 20000 in
theorem gL_law_X4_count : GoodIn wsL_law (wsV RL 109 RX4 yX4_count wsX4_count) := goodIn_app (goodIn_of _ (by decide +kernel)) ggL_law_X4_count
set_option maxRecDepth 20000 in
theorem ggL_law_L_below : GoodIn wsL_law wsL_below := goodIn_r _ [105, 106] (by decide +kernel) (by decide +kernel)
set_option maxRecDepth 20000 in
theorem gL_law_L_below : GoodIn wsL_law (va_wsS RL 15 yL_below wsL_below) := goodIn_app (goodIn_of _ (by decide +kernel)) ggL_law_L_below
set_option maxRecDepth 20000 in
theorem ggL_law_X4_faults : GoodIn wsL_law wsX4_faults := goodIn_ca (goodIn_r _ [243, 25, 204, 205, 206, 2, 207, 131, 132, 146, 113, 114, 115, 137, 138, 139, 358, 359, 360, 361, 362, 374, 375] (by decide +kernel) (by decide +kernel)) (goodIn_sub (fun _ h => List.mem_append_left _ (List.mem_append_right _ h)) (by decide +kernel))
set_option maxRecDepth 20000 in
theorem gL_law_X4_faults : GoodIn wsL_law (wsV RL 113 RX4 yX4_faults wsX4_faults) := goodIn_app (goodIn_of _ (by decide +kernel)) ggL_law_X4_faults
set_option maxRecDepth 20000 in
theorem ggL_law_X4_pin : GoodIn wsL_law wsX4_pin := goodIn_ca (goodIn_r _ [247, 17, 128, 129, 2, 130, 131, 132, 113, 114, 115, 216, 217, 218, 248, 249, 250, 37, 251, 41, 171, 184, 168, 169, 170, 358, 359, 360, 361, 362, 363, 364, 365, 366, 367, 368, 369, 376, 377] (by decide +kernel) (by decide +kernel)) (goodIn_sub (fun _ h => List.mem_append_left _ (List.mem_append_right _ h)) (by decide +kernel))
set_option maxRecDepth 20000 in
theorem gL_law_X4_pin : GoodIn wsL_law (wsV RL 116 RX4 yX4_pin wsX4_pin) := goodIn_app (goodIn_of _ (by decide +kernel)) ggL_law_X4_pin
set_option maxRecDepth 20000 in
theorem ggL_law_X4_foresee_h : GoodIn wsL_law [.code yX4_foresee cX4_foresee 3 (some .int)] := goodIn_r _ [255] (by decide +kernel) (by decide +kernel)
theorem ggL_law_X4_foresee_wsX4_foresee_r1 : GoodIn wsL_law wsX4_foresee_r1 := goodIn_r _ [21, 17, 23, 256, 257, 2, 258, 111, 112, 113, 114, 115, 216, 217, 218, 131, 132, 259, 260, 261, 20, 262, 47, 263] (by decide +kernel) (by decide +kernel)
theorem ggL_law_X4_foresee_wsX4_foresee_r2 : GoodIn wsL_law wsX4_foresee_r2 := goodIn_r _ [264, 49, 265, 266, 267, 16, 268, 35, 32, 154, 151, 152, 153, 33, 269, 270, 271, 37, 272, 41, 171, 273, 148, 149] (by decide +kernel) (by decide +kernel)
theorem ggL_law_X4_foresee_wsX4_foresee_r3 : GoodIn wsL_law wsX4_foresee_r3 := goodIn_r _ [150, 155, 156, 6, 157, 158, 5, 7, 159, 160, 161, 162, 163, 164, 165, 166, 167, 168, 169, 170, 172, 173, 174, 175] (by decide +kernel) (by decide +kernel)
theorem ggL_law_X4_foresee_wsX4_foresee_r4 : GoodIn wsL_law wsX4_foresee_r4 := goodIn_r _ [176, 177, 178, 179, 180, 181, 182, 183, 184, 274, 275, 276, 27, 277, 278, 279, 280, 281, 56, 55, 282, 236, 237, 238] (by decide +kernel) (by decide +kernel)
theorem ggL_law_X4_foresee_wsX4_foresee_r5 : GoodIn wsL_law wsX4_foresee_r5 := goodIn_r _ [239, 209, 210, 211, 283, 284, 285, 286, 287, 224, 225, 226] (by decide +kernel) (by decide +kernel)
theorem ggL_law_X4_foresee_wsX40 : GoodIn wsL_law wsX40 := goodIn_r _ [358, 359, 360, 361, 362] (by decide +kernel) (by decide +kernel)
theorem ggL_law_X4_foresee_wsX00 : GoodIn wsL_law wsX00 := goodIn_r _ [363, 364, 365, 366, 367, 368, 369] (by decide +kernel) (by decide +kernel)
theorem ggL_law_X4_foresee_wsX30 : GoodIn wsL_law wsX30 := goodIn_r _ [370, 371, 372, 373] (by decide +kernel) (by decide +kernel)
theorem ggL_law_X4_foresee_wsX10 : GoodIn wsL_law wsX10 := goodIn_r _ [376, 377] (by decide +kernel) (by decide +kernel)
theorem ggL_law_X4_foresee_wsX20 : GoodIn wsL_law wsX20 := goodIn_r _ [374, 375] (by decide +kernel) (by decide +kernel)
theorem ggL_law_X4_foresee : GoodIn wsL_law wsX4_foresee := (goodIn_app ggL_law_X4_foresee_h (goodIn_app (goodIn_app (goodIn_app (goodIn_app (goodIn_app (goodIn_app (goodIn_app (goodIn_app ggL_law_X4_foresee_wsX4_foresee_r1 (goodIn_app ggL_law_X4_foresee_wsX4_foresee_r2 (goodIn_app ggL_law_X4_foresee_wsX4_foresee_r3 (goodIn_app ggL_law_X4_foresee_wsX4_foresee_r4 ggL_law_X4_foresee_wsX4_foresee_r5)))) ggL_law_X4_foresee_wsX40) ggL_law_X4_foresee_wsX00) ggL_law_X4_foresee_wsX30) ggL_law_X4_foresee_wsX10) ggL_law_X4_foresee_wsX20) (goodIn_sub (fun _ h => List.mem_append_left _ (List.mem_append_left _ (List.mem_append_right _ h))) (by decide +kernel))) (goodIn_sub (fun _ h => List.mem_append_left _ (List.mem_append_right _ h)) (by decide +kernel))))
set_option maxRecDepth 20000 in
theorem gL_law_X4_foresee : GoodIn wsL_law (wsV RL 119 RX4 yX4_foresee wsX4_foresee) := goodIn_app (goodIn_of _ (by decide +kernel)) ggL_law_X4_foresee
set_option maxRecDepth 20000 in
theorem ggL_law_X4_run : GoodIn wsL_law wsX4_run := goodIn_ca (goodIn_r _ [143, 144, 145, 146, 17, 23, 25, 147, 148, 149, 16, 150, 151, 32, 152, 153, 154, 155, 156, 6, 157, 158, 5, 7, 159, 160, 161, 162, 114, 2, 115, 163, 164, 165, 166, 35, 167, 168, 169, 37, 170, 171, 41, 172, 173, 174, 175, 33, 176, 177, 178, 179, 180, 181, 182, 183, 184, 358, 359, 360, 361, 362, 363, 364, 365, 366, 367, 368, 369, 374, 375, 376, 377] (by decide +kernel) (by decide +kernel)) (goodIn_sub (fun _ h => List.mem_append_right _ h) (by decide +kernel))
set_option maxRecDepth 20000 in
theorem gL_law_X4_run : GoodIn wsL_law (wsV RL 79 RX4 yX4_run wsX4_run) := goodIn_app (goodIn_of _ (by decide +kernel)) ggL_law_X4_run
set_option maxRecDepth 20000 in
theorem ggL_law_X4_sheet : GoodIn wsL_law wsX4_sheet := goodIn_ca (goodIn_r _ [291, 25, 204, 205, 206, 2, 207, 131, 132, 146, 113, 114, 115, 216, 217, 218, 292, 293, 294, 27, 295, 296, 297, 298, 299, 56, 300, 275, 276, 277, 278, 279, 280, 281, 55, 301, 236, 237, 238, 239, 209, 210, 211, 302, 303, 304, 305, 306, 307, 308, 309, 310, 311, 312, 313, 314, 315, 316, 317, 318, 5, 6, 7, 319, 320, 321, 322, 323, 324, 325, 358, 359, 360, 361, 362, 374, 375] (by decide +kernel) (by decide +kernel)) (goodIn_sub (fun _ h => List.mem_append_left _ (List.mem_append_right _ h)) (by decide +kernel))
set_option maxRecDepth 20000 in
theorem gL_law_X4_sheet : GoodIn wsL_law (wsV RL 122 RX4 yX4_sheet wsX4_sheet) := goodIn_app (goodIn_of _ (by decide +kernel)) ggL_law_X4_sheet
set_option maxRecDepth 20000 in
theorem ggL_law_X5_run : GoodIn wsL_law wsX5_run := goodIn_r _ [188, 76, 75, 77, 73, 22, 189, 190, 191, 64, 192, 3, 193, 68, 72, 74, 194, 69, 71, 70, 195, 196, 378, 379, 380, 381, 382, 383, 384, 385, 386, 387, 388, 389] (by decide +kernel) (by decide +kernel)
set_option maxRecDepth 20000 in
theorem gL_law_X5_run : GoodIn wsL_law (wsV RL 82 RX5 yX5_run wsX5_run) := goodIn_app (goodIn_of _ (by decide +kernel)) ggL_law_X5_run
set_option maxRecDepth 20000 in
theorem ggL_law_L_act_h : GoodIn wsL_law [.code yL_act cL_act 16 (some .boolean)] := goodIn_r _ [84] (by decide +kernel) (by decide +kernel)
theorem ggL_law_L_act_wsL_act_r1 : GoodIn wsL_law wsL_act_r1 := goodIn_r _ [85, 86, 87, 88, 89, 90, 91, 92, 93, 94, 95, 96, 97, 98, 99, 100, 101, 102, 103, 104, 60, 105, 106, 107] (by decide +kernel) (by decide +kernel)
theorem ggL_law_L_act_wsL_act_r2 : GoodIn wsL_law wsL_act_r2 := goodIn_r _ [108, 109, 2, 110, 111, 112, 17, 113, 114, 115, 116, 117, 118, 119, 120, 121, 122, 123, 124, 125, 126, 127, 128, 129] (by decide +kernel) (by decide +kernel)
theorem ggL_law_L_act_wsL_act_r3 : GoodIn wsL_law wsL_act_r3 := goodIn_r _ [130, 131, 132, 133, 134, 135, 136, 23, 137, 138, 139, 140, 141, 142, 143, 144, 145, 146, 25, 147, 148, 149, 16, 150] (by decide +kernel) (by decide +kernel)
theorem ggL_law_L_act_wsL_act_r4 : GoodIn wsL_law wsL_act_r4 := goodIn_r _ [151, 32, 152, 153, 154, 155, 156, 6, 157, 158, 5, 7, 159, 160, 161, 162, 163, 164, 165, 166, 35, 167, 168, 169] (by decide +kernel) (by decide +kernel)
theorem ggL_law_L_act_wsL_act_r5 : GoodIn wsL_law wsL_act_r5 := goodIn_r _ [37, 170, 171, 41, 172, 173, 174, 175, 33, 176, 177, 178, 179, 180, 181, 182, 183, 184, 185, 186, 187, 64, 188, 76] (by decide +kernel) (by decide +kernel)
theorem ggL_law_L_act_wsL_act_r6 : GoodIn wsL_law wsL_act_r6 := goodIn_r _ [75, 77, 73, 22, 189, 190, 191, 192, 3, 193, 68, 72, 74, 194, 69, 71, 70, 195, 196, 197, 198, 199, 200, 201] (by decide +kernel) (by decide +kernel)
theorem ggL_law_L_act_wsL_act_r7 : GoodIn wsL_law wsL_act_r7 := goodIn_r _ [202, 203, 204, 205, 206, 207, 208, 209, 210, 27, 211, 55, 56] (by decide +kernel) (by decide +kernel)
theorem ggL_law_L_act_wsX50 : GoodIn wsL_law wsX50 := goodIn_r _ [378, 379, 380, 381, 382, 383, 384, 385, 386, 387, 388, 389] (by decide +kernel) (by decide +kernel)
theorem ggL_law_L_act_wsX40 : GoodIn wsL_law wsX40 := goodIn_r _ [358, 359, 360, 361, 362] (by decide +kernel) (by decide +kernel)
theorem ggL_law_L_act_wsX00 : GoodIn wsL_law wsX00 := goodIn_r _ [363, 364, 365, 366, 367, 368, 369] (by decide +kernel) (by decide +kernel)
theorem ggL_law_L_act_wsX10 : GoodIn wsL_law wsX10 := goodIn_r _ [376, 377] (by decide +kernel) (by decide +kernel)
theorem ggL_law_L_act_wsX20 : GoodIn wsL_law wsX20 := goodIn_r _ [374, 375] (by decide +kernel) (by decide +kernel)
theorem ggL_law_L_act : GoodIn wsL_law wsL_act := (goodIn_app ggL_law_L_act_h (goodIn_app (goodIn_app (goodIn_app (goodIn_app (goodIn_app (goodIn_app (goodIn_app (goodIn_app (goodIn_app ggL_law_L_act_wsL_act_r1 (goodIn_app ggL_law_L_act_wsL_act_r2 (goodIn_app ggL_law_L_act_wsL_act_r3 (goodIn_app ggL_law_L_act_wsL_act_r4 (goodIn_app ggL_law_L_act_wsL_act_r5 (goodIn_app ggL_law_L_act_wsL_act_r6 ggL_law_L_act_wsL_act_r7)))))) ggL_law_L_act_wsX50) ggL_law_L_act_wsX40) ggL_law_L_act_wsX00) ggL_law_L_act_wsX10) ggL_law_L_act_wsX20) (goodIn_sub (fun _ h => List.mem_append_left _ (List.mem_append_left _ (List.mem_append_right _ h))) (by decide +kernel))) (goodIn_sub (fun _ h => List.mem_append_left _ (List.mem_append_right _ h)) (by decide +kernel))) (goodIn_sub (fun _ h => List.mem_append_right _ h) (by decide +kernel))))
set_option maxRecDepth 20000 in
theorem gL_law_L_act : GoodIn wsL_law (va_wsS RL 100 yL_act wsL_act) := goodIn_app (goodIn_of _ (by decide +kernel)) ggL_law_L_act
set_option maxRecDepth 20000 in
theorem ggL_law_X4_share : GoodIn wsL_law wsX4_share := goodIn_r _ [329, 146, 330, 331, 332, 2, 333, 25, 334, 275, 276, 27, 277, 278, 279, 280, 281, 56, 55, 358, 359, 360, 361, 362, 374, 375] (by decide +kernel) (by decide +kernel)
set_option maxRecDepth 20000 in
theorem gL_law_X4_share : GoodIn wsL_law (wsV RL 130 RX4 yX4_share wsX4_share) := goodIn_app (goodIn_of _ (by decide +kernel)) ggL_law_X4_share
set_option maxRecDepth 20000 in
theorem ggL_law_X4_like : GoodIn wsL_law wsX4_like := goodIn_ca (goodIn_r _ [338, 111, 112, 113, 114, 2, 115, 330, 331, 332, 333, 146, 25, 334, 275, 276, 27, 277, 278, 279, 280, 281, 56, 55, 358, 359, 360, 361, 362, 374, 375] (by decide +kernel) (by decide +kernel)) (goodIn_sub (fun _ h => List.mem_append_left _ (List.mem_append_left _ (List.mem_append_right _ h))) (by decide +kernel))
set_option maxRecDepth 20000 in
theorem gL_law_X4_like : GoodIn wsL_law (wsV RL 134 RX4 yX4_like wsX4_like) := goodIn_app (goodIn_of _ (by decide +kernel)) ggL_law_X4_like
set_option maxRecDepth 20000 in
theorem ggL_law_X5_isSame_h : GoodIn wsL_law [.code yX5_isSame cX5_isSame 13 (some .boolean)] := goodIn_r _ [342] (by decide +kernel) (by decide +kernel)
theorem ggL_law_X5_isSame_wsX5_isSame_r1 : GoodIn wsL_law wsX5_isSame_r1 := goodIn_r _ [76, 3, 70, 71, 72, 74, 68, 196, 193, 195, 69, 194, 343, 289, 290, 2, 291, 25, 204, 205, 206, 207, 131, 132] (by decide +kernel) (by decide +kernel)
theorem ggL_law_X5_isSame_wsX5_isSame_r2 : GoodIn wsL_law wsX5_isSame_r2 := goodIn_r _ [146, 113, 114, 115, 216, 217, 218, 292, 293, 294, 27, 295, 296, 297, 298, 299, 56, 300, 275, 276, 277, 278, 279, 280] (by decide +kernel) (by decide +kernel)
theorem ggL_law_X5_isSame_wsX5_isSame_r3 : GoodIn wsL_law wsX5_isSame_r3 := goodIn_r _ [281, 55, 301, 236, 237, 238, 239, 209, 210, 211, 302, 303, 304, 305, 306, 307, 308, 309, 310, 311, 312, 313, 314, 315] (by decide +kernel) (by decide +kernel)
theorem ggL_law_X5_isSame_wsX5_isSame_r4 : GoodIn wsL_law wsX5_isSame_r4 := goodIn_r _ [316, 317, 318, 5, 6, 7, 319, 320, 321, 322, 323, 324, 325, 344, 345, 346, 64, 347, 77, 22, 348, 349, 198, 199] (by decide +kernel) (by decide +kernel)
theorem ggL_law_X5_isSame_wsX5_isSame_r5 : GoodIn wsL_law wsX5_isSame_r5 := goodIn_r _ [350, 241, 242, 243, 137, 138, 139, 351, 245, 246, 247, 17, 128, 129, 130, 248, 249, 250, 37, 251, 41, 171, 184, 168] (by decide +kernel) (by decide +kernel)
theorem ggL_law_X5_isSame_wsX5_isSame_r6 : GoodIn wsL_law wsX5_isSame_r6 := goodIn_r _ [169, 170, 352, 353, 354, 355, 356, 213, 214, 215, 219, 220, 221, 222, 223, 224, 225, 16, 226, 35, 167, 227, 228, 229] (by decide +kernel) (by decide +kernel)
theorem ggL_law_X5_isSame_wsX5_isSame_r7 : GoodIn wsL_law wsX5_isSame_r7 := goodIn_r _ [230, 23, 231, 232, 233, 234, 235, 357, 327, 328, 329, 330, 331, 332, 333, 334] (by decide +kernel) (by decide +kernel)
theorem ggL_law_X5_isSame_wsX50 : GoodIn wsL_law wsX50 := goodIn_r _ [378, 379, 380, 381, 382, 383, 384, 385, 386, 387, 388, 389] (by decide +kernel) (by decide +kernel)
theorem ggL_law_X5_isSame_wsX40 : GoodIn wsL_law wsX40 := goodIn_r _ [358, 359, 360, 361, 362] (by decide +kernel) (by decide +kernel)
theorem ggL_law_X5_isSame_wsX20 : GoodIn wsL_law wsX20 := goodIn_r _ [374, 375] (by decide +kernel) (by decide +kernel)
theorem ggL_law_X5_isSame_wsX00 : GoodIn wsL_law wsX00 := goodIn_r _ [363, 364, 365, 366, 367, 368, 369] (by decide +kernel) (by decide +kernel)
theorem ggL_law_X5_isSame_wsX10 : GoodIn wsL_law wsX10 := goodIn_r _ [376, 377] (by decide +kernel) (by decide +kernel)
theorem ggL_law_X5_isSame : GoodIn wsL_law wsX5_isSame := (goodIn_app ggL_law_X5_isSame_h (goodIn_app (goodIn_app (goodIn_app (goodIn_app (goodIn_app (goodIn_app (goodIn_app ggL_law_X5_isSame_wsX5_isSame_r1 (goodIn_app ggL_law_X5_isSame_wsX5_isSame_r2 (goodIn_app ggL_law_X5_isSame_wsX5_isSame_r3 (goodIn_app ggL_law_X5_isSame_wsX5_isSame_r4 (goodIn_app ggL_law_X5_isSame_wsX5_isSame_r5 (goodIn_app ggL_law_X5_isSame_wsX5_isSame_r6 ggL_law_X5_isSame_wsX5_isSame_r7)))))) ggL_law_X5_isSame_wsX50) ggL_law_X5_isSame_wsX40) ggL_law_X5_isSame_wsX20) ggL_law_X5_isSame_wsX00) ggL_law_X5_isSame_wsX10) (goodIn_sub (fun _ h => List.mem_append_left _ (List.mem_append_right _ h)) (by decide +kernel))))
set_option maxRecDepth 20000 in
theorem gL_law_X5_isSame : GoodIn wsL_law (wsV RL 137 RX5 yX5_isSame wsX5_isSame) := goodIn_app (goodIn_of _ (by decide +kernel)) ggL_law_X5_isSame
theorem dL_law_0 : decode cL_law 0 = .ok (.new 29, 3) := by decide +kernel
theorem dL_law_3 : decode cL_law 3 = .ok (.dup, 1) := by decide +kernel
theorem dL_law_4 : decode cL_law 4 = .ok (.invokespecial 104, 3) := by decide +kernel
theorem dL_law_7 : decode cL_law 7 = .ok (.astore_n 1, 1) := by decide +kernel
theorem dL_law_8 : decode cL_law 8 = .ok (.aload_n 1, 1) := by decide +kernel
theorem dL_law_9 : decode cL_law 9 = .ok (.aload_n 0, 1) := by decide +kernel
theorem dL_law_10 : decode cL_law 10 = .ok (.invokestatic 105, 3) := by decide +kernel
theorem dL_law_13 : decode cL_law 13 = .ok (.astore_n 2, 1) := by decide +kernel
theorem dL_law_14 : decode cL_law 14 = .ok (.aload_n 2, 1) := by decide +kernel
theorem dL_law_15 : decode cL_law 15 = .ok (.ifnonnull 5, 3) := by decide +kernel
theorem dL_law_18 : decode cL_law 18 = .ok (.iconst 0, 1) := by decide +kernel
theorem dL_law_19 : decode cL_law 19 = .ok (.ireturn, 1) := by decide +kernel
theorem dL_law_20 : decode cL_law 20 = .ok (.iconst 0, 1) := by decide +kernel
theorem dL_law_21 : decode cL_law 21 = .ok (.istore_n 3, 1) := by decide +kernel
theorem dL_law_22 : decode cL_law 22 = .ok (.iload_n 3, 1) := by decide +kernel
theorem dL_law_23 : decode cL_law 23 = .ok (.bipush 30, 2) := by decide +kernel
theorem dL_law_25 : decode cL_law 25 = .ok (.if_icmp .ge 818, 3) := by decide +kernel
theorem dL_law_28 : decode cL_law 28 = .ok (.aload_n 0, 1) := by decide +kernel
end
section
theorem dL_law_29 : decode cL_law 29 = .ok (.iload_n 3, 1) := by decide +kernel
theorem dL_law_30 : decode cL_law 30 = .ok (.bipush 16, 2) := by decide +kernel
theorem dL_law_32 : decode cL_law 32 = .ok (.irem, 1) := by decide +kernel
theorem dL_law_33 : decode cL_law 33 = .ok (.invokestatic 96, 3) := by decide +kernel
theorem dL_law_36 : decode cL_law 36 = .ok (.iload_n 3, 1) := by decide +kernel
theorem dL_law_37 : decode cL_law 37 = .ok (.bipush 16, 2) := by decide +kernel
theorem dL_law_39 : decode cL_law 39 = .ok (.idiv, 1) := by decide +kernel
theorem dL_law_40 : decode cL_law 40 = .ok (.iconst 3, 1) := by decide +kernel
theorem dL_law_41 : decode cL_law 41 = .ok (.imul, 1) := by decide +kernel
theorem dL_law_42 : decode cL_law 42 = .ok (.ishr, 1) := by decide +kernel
theorem dL_law_43 : decode cL_law 43 = .ok (.sipush 167, 3) := by decide +kernel
theorem dL_law_46 : decode cL_law 46 = .ok (.iload_n 3, 1) := by decide +kernel
theorem dL_law_47 : decode cL_law 47 = .ok (.imul, 1) := by decide +kernel
theorem dL_law_48 : decode cL_law 48 = .ok (.iadd, 1) := by decide +kernel
theorem dL_law_49 : decode cL_law 49 = .ok (.istore 4, 2) := by decide +kernel
theorem dL_law_51 : decode cL_law 51 = .ok (.aload_n 1, 1) := by decide +kernel
theorem dL_law_52 : decode cL_law 52 = .ok (.iconst 0, 1) := by decide +kernel
theorem dL_law_53 : decode cL_law 53 = .ok (.invokevirtual 109, 3) := by decide +kernel
theorem dL_law_56 : decode cL_law 56 = .ok (.istore 5, 2) := by decide +kernel
theorem dL_law_58 : decode cL_law 58 = .ok (.iload 5, 2) := by decide +kernel
theorem dL_law_60 : decode cL_law 60 = .ok (.ifCond .ne 7, 3) := by decide +kernel
theorem dL_law_63 : decode cL_law 63 = .ok (.iconst (-1), 1) := by decide +kernel
theorem dL_law_64 : decode cL_law 64 = .ok (.goto 12, 3) := by decide +kernel
theorem dL_law_67 : decode cL_law 67 = .ok (.iload 4, 2) := by decide +kernel
theorem dL_law_69 : decode cL_law 69 = .ok (.iconst 3, 1) := by decide +kernel
theorem dL_law_70 : decode cL_law 70 = .ok (.ishr, 1) := by decide +kernel
theorem dL_law_71 : decode cL_law 71 = .ok (.iload 5, 2) := by decide +kernel
theorem dL_law_73 : decode cL_law 73 = .ok (.invokestatic 15, 3) := by decide +kernel
theorem dL_law_76 : decode cL_law 76 = .ok (.istore 6, 2) := by decide +kernel
theorem dL_law_78 : decode cL_law 78 = .ok (.bipush 30, 2) := by decide +kernel
theorem dL_law_80 : decode cL_law 80 = .ok (.newarray .int, 2) := by decide +kernel
theorem dL_law_82 : decode cL_law 82 = .ok (.astore 7, 2) := by decide +kernel
theorem dL_law_84 : decode cL_law 84 = .ok (.iconst 0, 1) := by decide +kernel
theorem dL_law_85 : decode cL_law 85 = .ok (.istore 8, 2) := by decide +kernel
theorem dL_law_87 : decode cL_law 87 = .ok (.iload 8, 2) := by decide +kernel
theorem dL_law_89 : decode cL_law 89 = .ok (.bipush 30, 2) := by decide +kernel
theorem dL_law_91 : decode cL_law 91 = .ok (.if_icmp .ge 35, 3) := by decide +kernel
theorem dL_law_94 : decode cL_law 94 = .ok (.iload 6, 2) := by decide +kernel
theorem dL_law_96 : decode cL_law 96 = .ok (.ifCond .lt 30, 3) := by decide +kernel
theorem dL_law_99 : decode cL_law 99 = .ok (.aload 7, 2) := by decide +kernel
theorem dL_law_101 : decode cL_law 101 = .ok (.iload 8, 2) := by decide +kernel
theorem dL_law_103 : decode cL_law 103 = .ok (.aload_n 1, 1) := by decide +kernel
theorem dL_law_104 : decode cL_law 104 = .ok (.iload 6, 2) := by decide +kernel
theorem dL_law_106 : decode cL_law 106 = .ok (.iload 8, 2) := by decide +kernel
theorem dL_law_108 : decode cL_law 108 = .ok (.bipush 6, 2) := by decide +kernel
theorem dL_law_110 : decode cL_law 110 = .ok (.idiv, 1) := by decide +kernel
theorem dL_law_111 : decode cL_law 111 = .ok (.iload 8, 2) := by decide +kernel
theorem dL_law_113 : decode cL_law 113 = .ok (.bipush 6, 2) := by decide +kernel
theorem dL_law_115 : decode cL_law 115 = .ok (.irem, 1) := by decide +kernel
theorem dL_law_116 : decode cL_law 116 = .ok (.invokevirtual 113, 3) := by decide +kernel
theorem dL_law_119 : decode cL_law 119 = .ok (.iastore, 1) := by decide +kernel
theorem dL_law_120 : decode cL_law 120 = .ok (.iinc 8 1, 3) := by decide +kernel
theorem dL_law_123 : decode cL_law 123 = .ok (.goto (-36), 3) := by decide +kernel
theorem dL_law_126 : decode cL_law 126 = .ok (.bipush 7, 2) := by decide +kernel
theorem dL_law_128 : decode cL_law 128 = .ok (.newarray .int, 2) := by decide +kernel
theorem dL_law_130 : decode cL_law 130 = .ok (.astore 8, 2) := by decide +kernel
theorem dL_law_132 : decode cL_law 132 = .ok (.iconst 0, 1) := by decide +kernel
theorem dL_law_133 : decode cL_law 133 = .ok (.istore 9, 2) := by decide +kernel
theorem dL_law_135 : decode cL_law 135 = .ok (.iload 9, 2) := by decide +kernel
theorem dL_law_137 : decode cL_law 137 = .ok (.bipush 7, 2) := by decide +kernel
theorem dL_law_139 : decode cL_law 139 = .ok (.if_icmp .ge 21, 3) := by decide +kernel
theorem dL_law_142 : decode cL_law 142 = .ok (.aload 8, 2) := by decide +kernel
theorem dL_law_144 : decode cL_law 144 = .ok (.iload 9, 2) := by decide +kernel
theorem dL_law_146 : decode cL_law 146 = .ok (.aload_n 1, 1) := by decide +kernel
theorem dL_law_147 : decode cL_law 147 = .ok (.iload 9, 2) := by decide +kernel
theorem dL_law_149 : decode cL_law 149 = .ok (.iconst 3, 1) := by decide +kernel
theorem dL_law_150 : decode cL_law 150 = .ok (.invokevirtual 116, 3) := by decide +kernel
theorem dL_law_153 : decode cL_law 153 = .ok (.iastore, 1) := by decide +kernel
theorem dL_law_154 : decode cL_law 154 = .ok (.iinc 9 1, 3) := by decide +kernel
theorem dL_law_157 : decode cL_law 157 = .ok (.goto (-22), 3) := by decide +kernel
theorem dL_law_160 : decode cL_law 160 = .ok (.aload_n 1, 1) := by decide +kernel
theorem dL_law_161 : decode cL_law 161 = .ok (.iconst 4, 1) := by decide +kernel
theorem dL_law_162 : decode cL_law 162 = .ok (.invokevirtual 109, 3) := by decide +kernel
theorem dL_law_165 : decode cL_law 165 = .ok (.istore 9, 2) := by decide +kernel
theorem dL_law_167 : decode cL_law 167 = .ok (.aload_n 1, 1) := by decide +kernel
theorem dL_law_168 : decode cL_law 168 = .ok (.bipush 6, 2) := by decide +kernel
theorem dL_law_170 : decode cL_law 170 = .ok (.invokevirtual 109, 3) := by decide +kernel
theorem dL_law_173 : decode cL_law 173 = .ok (.istore 10, 2) := by decide +kernel
theorem dL_law_175 : decode cL_law 175 = .ok (.iload_n 3, 1) := by decide +kernel
theorem dL_law_176 : decode cL_law 176 = .ok (.iconst 2, 1) := by decide +kernel
theorem dL_law_177 : decode cL_law 177 = .ok (.irem, 1) := by decide +kernel
theorem dL_law_178 : decode cL_law 178 = .ok (.iconst 1, 1) := by decide +kernel
theorem dL_law_179 : decode cL_law 179 = .ok (.if_icmp .ne 20, 3) := by decide +kernel
theorem dL_law_182 : decode cL_law 182 = .ok (.iload 9, 2) := by decide +kernel
theorem dL_law_184 : decode cL_law 184 = .ok (.iconst 5, 1) := by decide +kernel
theorem dL_law_185 : decode cL_law 185 = .ok (.if_icmp .lt 14, 3) := by decide +kernel
theorem dL_law_188 : decode cL_law 188 = .ok (.iload 5, 2) := by decide +kernel
theorem dL_law_190 : decode cL_law 190 = .ok (.bipush 20, 2) := by decide +kernel
theorem dL_law_192 : decode cL_law 192 = .ok (.if_icmp .ge 7, 3) := by decide +kernel
theorem dL_law_195 : decode cL_law 195 = .ok (.iconst 1, 1) := by decide +kernel
theorem dL_law_196 : decode cL_law 196 = .ok (.goto 4, 3) := by decide +kernel
theorem dL_law_199 : decode cL_law 199 = .ok (.iconst 0, 1) := by decide +kernel
theorem dL_law_200 : decode cL_law 200 = .ok (.istore 11, 2) := by decide +kernel
theorem dL_law_202 : decode cL_law 202 = .ok (.aload_n 1, 1) := by decide +kernel
theorem dL_law_203 : decode cL_law 203 = .ok (.iconst 1, 1) := by decide +kernel
theorem dL_law_204 : decode cL_law 204 = .ok (.iconst 0, 1) := by decide +kernel
theorem dL_law_205 : decode cL_law 205 = .ok (.invokevirtual 119, 3) := by decide +kernel
theorem dL_law_208 : decode cL_law 208 = .ok (.istore 12, 2) := by decide +kernel
theorem dL_law_210 : decode cL_law 210 = .ok (.aload_n 1, 1) := by decide +kernel
theorem dL_law_211 : decode cL_law 211 = .ok (.iconst 1, 1) := by decide +kernel
theorem dL_law_212 : decode cL_law 212 = .ok (.iconst 1, 1) := by decide +kernel
theorem dL_law_213 : decode cL_law 213 = .ok (.invokevirtual 119, 3) := by decide +kernel
theorem dL_law_216 : decode cL_law 216 = .ok (.istore 13, 2) := by decide +kernel
theorem dL_law_218 : decode cL_law 218 = .ok (.aload_n 1, 1) := by decide +kernel
theorem dL_law_219 : decode cL_law 219 = .ok (.iconst 1, 1) := by decide +kernel
theorem dL_law_220 : decode cL_law 220 = .ok (.iconst 2, 1) := by decide +kernel
theorem dL_law_221 : decode cL_law 221 = .ok (.invokevirtual 119, 3) := by decide +kernel
theorem dL_law_224 : decode cL_law 224 = .ok (.istore 14, 2) := by decide +kernel
theorem dL_law_226 : decode cL_law 226 = .ok (.aload_n 1, 1) := by decide +kernel
theorem dL_law_227 : decode cL_law 227 = .ok (.iconst 1, 1) := by decide +kernel
theorem dL_law_228 : decode cL_law 228 = .ok (.iconst 3, 1) := by decide +kernel
theorem dL_law_229 : decode cL_law 229 = .ok (.invokevirtual 119, 3) := by decide +kernel
theorem dL_law_232 : decode cL_law 232 = .ok (.istore 15, 2) := by decide +kernel
theorem dL_law_234 : decode cL_law 234 = .ok (.iload 11, 2) := by decide +kernel
theorem dL_law_236 : decode cL_law 236 = .ok (.ifCond .eq 167, 3) := by decide +kernel
theorem dL_law_239 : decode cL_law 239 = .ok (.aload_n 1, 1) := by decide +kernel
theorem dL_law_240 : decode cL_law 240 = .ok (.invokevirtual 79, 3) := by decide +kernel
theorem dL_law_243 : decode cL_law 243 = .ok (.iload 5, 2) := by decide +kernel
theorem dL_law_245 : decode cL_law 245 = .ok (.if_icmp .ne 85, 3) := by decide +kernel
theorem dL_law_248 : decode cL_law 248 = .ok (.aload_n 1, 1) := by decide +kernel
theorem dL_law_249 : decode cL_law 249 = .ok (.iload 5, 2) := by decide +kernel
theorem dL_law_251 : decode cL_law 251 = .ok (.iconst 0, 1) := by decide +kernel
theorem dL_law_252 : decode cL_law 252 = .ok (.invokevirtual 122, 3) := by decide +kernel
theorem dL_law_255 : decode cL_law 255 = .ok (.bipush 30, 2) := by decide +kernel
theorem dL_law_257 : decode cL_law 257 = .ok (.if_icmp .ne 73, 3) := by decide +kernel
theorem dL_law_260 : decode cL_law 260 = .ok (.aload_n 1, 1) := by decide +kernel
theorem dL_law_261 : decode cL_law 261 = .ok (.iload 5, 2) := by decide +kernel
theorem dL_law_263 : decode cL_law 263 = .ok (.iconst 1, 1) := by decide +kernel
theorem dL_law_264 : decode cL_law 264 = .ok (.invokevirtual 122, 3) := by decide +kernel
theorem dL_law_267 : decode cL_law 267 = .ok (.iload 12, 2) := by decide +kernel
theorem dL_law_269 : decode cL_law 269 = .ok (.if_icmp .ne 61, 3) := by decide +kernel
theorem dL_law_272 : decode cL_law 272 = .ok (.aload_n 1, 1) := by decide +kernel
theorem dL_law_273 : decode cL_law 273 = .ok (.iload 5, 2) := by decide +kernel
theorem dL_law_275 : decode cL_law 275 = .ok (.iconst 2, 1) := by decide +kernel
theorem dL_law_276 : decode cL_law 276 = .ok (.invokevirtual 122, 3) := by decide +kernel
theorem dL_law_279 : decode cL_law 279 = .ok (.iload 13, 2) := by decide +kernel
theorem dL_law_281 : decode cL_law 281 = .ok (.if_icmp .ne 49, 3) := by decide +kernel
theorem dL_law_284 : decode cL_law 284 = .ok (.aload_n 1, 1) := by decide +kernel
theorem dL_law_285 : decode cL_law 285 = .ok (.bipush 7, 2) := by decide +kernel
theorem dL_law_287 : decode cL_law 287 = .ok (.invokevirtual 109, 3) := by decide +kernel
theorem dL_law_290 : decode cL_law 290 = .ok (.iload 14, 2) := by decide +kernel
theorem dL_law_292 : decode cL_law 292 = .ok (.if_icmp .ne 38, 3) := by decide +kernel
theorem dL_law_295 : decode cL_law 295 = .ok (.aload_n 1, 1) := by decide +kernel
theorem dL_law_296 : decode cL_law 296 = .ok (.iconst 3, 1) := by decide +kernel
theorem dL_law_297 : decode cL_law 297 = .ok (.invokevirtual 109, 3) := by decide +kernel
theorem dL_law_300 : decode cL_law 300 = .ok (.iload 15, 2) := by decide +kernel
theorem dL_law_302 : decode cL_law 302 = .ok (.if_icmp .ne 28, 3) := by decide +kernel
theorem dL_law_305 : decode cL_law 305 = .ok (.aload_n 1, 1) := by decide +kernel
theorem dL_law_306 : decode cL_law 306 = .ok (.iconst 4, 1) := by decide +kernel
theorem dL_law_307 : decode cL_law 307 = .ok (.invokevirtual 109, 3) := by decide +kernel
theorem dL_law_310 : decode cL_law 310 = .ok (.iload 9, 2) := by decide +kernel
theorem dL_law_312 : decode cL_law 312 = .ok (.iconst 5, 1) := by decide +kernel
theorem dL_law_313 : decode cL_law 313 = .ok (.isub, 1) := by decide +kernel
theorem dL_law_314 : decode cL_law 314 = .ok (.if_icmp .ne 16, 3) := by decide +kernel
theorem dL_law_317 : decode cL_law 317 = .ok (.aload_n 1, 1) := by decide +kernel
theorem dL_law_318 : decode cL_law 318 = .ok (.bipush 6, 2) := by decide +kernel
theorem dL_law_320 : decode cL_law 320 = .ok (.invokevirtual 109, 3) := by decide +kernel
theorem dL_law_323 : decode cL_law 323 = .ok (.iload 10, 2) := by decide +kernel
theorem dL_law_325 : decode cL_law 325 = .ok (.iconst 5, 1) := by decide +kernel
theorem dL_law_326 : decode cL_law 326 = .ok (.iadd, 1) := by decide +kernel
theorem dL_law_327 : decode cL_law 327 = .ok (.if_icmp .eq 5, 3) := by decide +kernel
theorem dL_law_330 : decode cL_law 330 = .ok (.iconst 0, 1) := by decide +kernel
theorem dL_law_331 : decode cL_law 331 = .ok (.ireturn, 1) := by decide +kernel
theorem dL_law_332 : decode cL_law 332 = .ok (.aload_n 2, 1) := by decide +kernel
theorem dL_law_333 : decode cL_law 333 = .ok (.invokevirtual 82, 3) := by decide +kernel
theorem dL_law_336 : decode cL_law 336 = .ok (.pop, 1) := by decide +kernel
theorem dL_law_337 : decode cL_law 337 = .ok (.iconst 0, 1) := by decide +kernel
theorem dL_law_338 : decode cL_law 338 = .ok (.istore 16, 2) := by decide +kernel
theorem dL_law_340 : decode cL_law 340 = .ok (.iload 16, 2) := by decide +kernel
theorem dL_law_342 : decode cL_law 342 = .ok (.bipush 7, 2) := by decide +kernel
theorem dL_law_344 : decode cL_law 344 = .ok (.if_icmp .ge 56, 3) := by decide +kernel
theorem dL_law_347 : decode cL_law 347 = .ok (.aload_n 1, 1) := by decide +kernel
theorem dL_law_348 : decode cL_law 348 = .ok (.iload 16, 2) := by decide +kernel
theorem dL_law_350 : decode cL_law 350 = .ok (.iconst 3, 1) := by decide +kernel
theorem dL_law_351 : decode cL_law 351 = .ok (.invokevirtual 116, 3) := by decide +kernel
theorem dL_law_354 : decode cL_law 354 = .ok (.iconst 0, 1) := by decide +kernel
theorem dL_law_355 : decode cL_law 355 = .ok (.aload 8, 2) := by decide +kernel
theorem dL_law_357 : decode cL_law 357 = .ok (.iload 16, 2) := by decide +kernel
theorem dL_law_359 : decode cL_law 359 = .ok (.iaload, 1) := by decide +kernel
theorem dL_law_360 : decode cL_law 360 = .ok (.iconst 5, 1) := by decide +kernel
theorem dL_law_361 : decode cL_law 361 = .ok (.isub, 1) := by decide +kernel
theorem dL_law_362 : decode cL_law 362 = .ok (.invokestatic 125, 3) := by decide +kernel
theorem dL_law_365 : decode cL_law 365 = .ok (.if_icmp .ne 27, 3) := by decide +kernel
theorem dL_law_368 : decode cL_law 368 = .ok (.aload_n 1, 1) := by decide +kernel
theorem dL_law_369 : decode cL_law 369 = .ok (.iload 16, 2) := by decide +kernel
theorem dL_law_371 : decode cL_law 371 = .ok (.iconst 2, 1) := by decide +kernel
theorem dL_law_372 : decode cL_law 372 = .ok (.invokevirtual 116, 3) := by decide +kernel
theorem dL_law_375 : decode cL_law 375 = .ok (.aload 8, 2) := by decide +kernel
theorem dL_law_377 : decode cL_law 377 = .ok (.iload 16, 2) := by decide +kernel
theorem dL_law_379 : decode cL_law 379 = .ok (.iaload, 1) := by decide +kernel
theorem dL_law_380 : decode cL_law 380 = .ok (.iconst 5, 1) := by decide +kernel
theorem dL_law_381 : decode cL_law 381 = .ok (.if_icmp .le 7, 3) := by decide +kernel
theorem dL_law_384 : decode cL_law 384 = .ok (.iconst 1, 1) := by decide +kernel
theorem dL_law_385 : decode cL_law 385 = .ok (.goto 4, 3) := by decide +kernel
theorem dL_law_388 : decode cL_law 388 = .ok (.iconst 0, 1) := by decide +kernel
theorem dL_law_389 : decode cL_law 389 = .ok (.if_icmp .eq 5, 3) := by decide +kernel
theorem dL_law_392 : decode cL_law 392 = .ok (.iconst 0, 1) := by decide +kernel
theorem dL_law_393 : decode cL_law 393 = .ok (.ireturn, 1) := by decide +kernel
theorem dL_law_394 : decode cL_law 394 = .ok (.iinc 16 1, 3) := by decide +kernel
theorem dL_law_397 : decode cL_law 397 = .ok (.goto (-57), 3) := by decide +kernel
theorem dL_law_400 : decode cL_law 400 = .ok (.goto 15, 3) := by decide +kernel
theorem dL_law_403 : decode cL_law 403 = .ok (.aload_n 1, 1) := by decide +kernel
theorem dL_law_404 : decode cL_law 404 = .ok (.aload_n 2, 1) := by decide +kernel
theorem dL_law_405 : decode cL_law 405 = .ok (.iload 4, 2) := by decide +kernel
theorem dL_law_407 : decode cL_law 407 = .ok (.invokestatic 100, 3) := by decide +kernel
theorem dL_law_410 : decode cL_law 410 = .ok (.ifCond .ne 5, 3) := by decide +kernel
theorem dL_law_413 : decode cL_law 413 = .ok (.iconst 0, 1) := by decide +kernel
theorem dL_law_414 : decode cL_law 414 = .ok (.ireturn, 1) := by decide +kernel
theorem dL_law_415 : decode cL_law 415 = .ok (.iconst 0, 1) := by decide +kernel
theorem dL_law_416 : decode cL_law 416 = .ok (.istore 16, 2) := by decide +kernel
theorem dL_law_418 : decode cL_law 418 = .ok (.iload 16, 2) := by decide +kernel
theorem dL_law_420 : decode cL_law 420 = .ok (.bipush 30, 2) := by decide +kernel
theorem dL_law_422 : decode cL_law 422 = .ok (.if_icmp .ge 40, 3) := by decide +kernel
theorem dL_law_425 : decode cL_law 425 = .ok (.iload 6, 2) := by decide +kernel
theorem dL_law_427 : decode cL_law 427 = .ok (.ifCond .lt 35, 3) := by decide +kernel
theorem dL_law_430 : decode cL_law 430 = .ok (.aload_n 1, 1) := by decide +kernel
theorem dL_law_431 : decode cL_law 431 = .ok (.iload 6, 2) := by decide +kernel
theorem dL_law_433 : decode cL_law 433 = .ok (.iload 16, 2) := by decide +kernel
theorem dL_law_435 : decode cL_law 435 = .ok (.bipush 6, 2) := by decide +kernel
theorem dL_law_437 : decode cL_law 437 = .ok (.idiv, 1) := by decide +kernel
theorem dL_law_438 : decode cL_law 438 = .ok (.iload 16, 2) := by decide +kernel
theorem dL_law_440 : decode cL_law 440 = .ok (.bipush 6, 2) := by decide +kernel
theorem dL_law_442 : decode cL_law 442 = .ok (.irem, 1) := by decide +kernel
theorem dL_law_443 : decode cL_law 443 = .ok (.invokevirtual 113, 3) := by decide +kernel
theorem dL_law_446 : decode cL_law 446 = .ok (.aload 7, 2) := by decide +kernel
theorem dL_law_448 : decode cL_law 448 = .ok (.iload 16, 2) := by decide +kernel
theorem dL_law_450 : decode cL_law 450 = .ok (.iaload, 1) := by decide +kernel
theorem dL_law_451 : decode cL_law 451 = .ok (.if_icmp .eq 5, 3) := by decide +kernel
theorem dL_law_454 : decode cL_law 454 = .ok (.iconst 0, 1) := by decide +kernel
theorem dL_law_455 : decode cL_law 455 = .ok (.ireturn, 1) := by decide +kernel
theorem dL_law_456 : decode cL_law 456 = .ok (.iinc 16 1, 3) := by decide +kernel
theorem dL_law_459 : decode cL_law 459 = .ok (.goto (-41), 3) := by decide +kernel
theorem dL_law_462 : decode cL_law 462 = .ok (.aload_n 1, 1) := by decide +kernel
theorem dL_law_463 : decode cL_law 463 = .ok (.iconst 0, 1) := by decide +kernel
theorem dL_law_464 : decode cL_law 464 = .ok (.invokevirtual 109, 3) := by decide +kernel
theorem dL_law_467 : decode cL_law 467 = .ok (.istore 5, 2) := by decide +kernel
theorem dL_law_469 : decode cL_law 469 = .ok (.iconst 0, 1) := by decide +kernel
theorem dL_law_470 : decode cL_law 470 = .ok (.istore 16, 2) := by decide +kernel
theorem dL_law_472 : decode cL_law 472 = .ok (.iconst 0, 1) := by decide +kernel
theorem dL_law_473 : decode cL_law 473 = .ok (.istore 17, 2) := by decide +kernel
theorem dL_law_475 : decode cL_law 475 = .ok (.iconst 0, 1) := by decide +kernel
theorem dL_law_476 : decode cL_law 476 = .ok (.istore 18, 2) := by decide +kernel
theorem dL_law_478 : decode cL_law 478 = .ok (.iconst 0, 1) := by decide +kernel
theorem dL_law_479 : decode cL_law 479 = .ok (.istore 19, 2) := by decide +kernel
theorem dL_law_481 : decode cL_law 481 = .ok (.iload 19, 2) := by decide +kernel
theorem dL_law_483 : decode cL_law 483 = .ok (.iload 5, 2) := by decide +kernel
theorem dL_law_485 : decode cL_law 485 = .ok (.if_icmp .ge 174, 3) := by decide +kernel
theorem dL_law_488 : decode cL_law 488 = .ok (.iload 16, 2) := by decide +kernel
theorem dL_law_490 : decode cL_law 490 = .ok (.aload_n 1, 1) := by decide +kernel
theorem dL_law_491 : decode cL_law 491 = .ok (.iload 19, 2) := by decide +kernel
theorem dL_law_493 : decode cL_law 493 = .ok (.iconst 2, 1) := by decide +kernel
theorem dL_law_494 : decode cL_law 494 = .ok (.invokevirtual 122, 3) := by decide +kernel
theorem dL_law_497 : decode cL_law 497 = .ok (.iadd, 1) := by decide +kernel
theorem dL_law_498 : decode cL_law 498 = .ok (.istore 16, 2) := by decide +kernel
theorem dL_law_500 : decode cL_law 500 = .ok (.iload 17, 2) := by decide +kernel
theorem dL_law_502 : decode cL_law 502 = .ok (.aload_n 1, 1) := by decide +kernel
theorem dL_law_503 : decode cL_law 503 = .ok (.iload 19, 2) := by decide +kernel
theorem dL_law_505 : decode cL_law 505 = .ok (.iconst 0, 1) := by decide +kernel
theorem dL_law_506 : decode cL_law 506 = .ok (.invokevirtual 122, 3) := by decide +kernel
theorem dL_law_509 : decode cL_law 509 = .ok (.iadd, 1) := by decide +kernel
theorem dL_law_510 : decode cL_law 510 = .ok (.istore 17, 2) := by decide +kernel
theorem dL_law_512 : decode cL_law 512 = .ok (.iload 18, 2) := by decide +kernel
theorem dL_law_514 : decode cL_law 514 = .ok (.aload_n 1, 1) := by decide +kernel
theorem dL_law_515 : decode cL_law 515 = .ok (.iload 19, 2) := by decide +kernel
theorem dL_law_517 : decode cL_law 517 = .ok (.iconst 1, 1) := by decide +kernel
theorem dL_law_518 : decode cL_law 518 = .ok (.invokevirtual 122, 3) := by decide +kernel
theorem dL_law_521 : decode cL_law 521 = .ok (.iadd, 1) := by decide +kernel
theorem dL_law_522 : decode cL_law 522 = .ok (.istore 18, 2) := by decide +kernel
theorem dL_law_524 : decode cL_law 524 = .ok (.aload_n 1, 1) := by decide +kernel
theorem dL_law_525 : decode cL_law 525 = .ok (.iload 19, 2) := by decide +kernel
theorem dL_law_527 : decode cL_law 527 = .ok (.iconst 1, 1) := by decide +kernel
theorem dL_law_528 : decode cL_law 528 = .ok (.invokevirtual 122, 3) := by decide +kernel
theorem dL_law_531 : decode cL_law 531 = .ok (.aload_n 1, 1) := by decide +kernel
theorem dL_law_532 : decode cL_law 532 = .ok (.iload 19, 2) := by decide +kernel
theorem dL_law_534 : decode cL_law 534 = .ok (.iconst 0, 1) := by decide +kernel
theorem dL_law_535 : decode cL_law 535 = .ok (.invokevirtual 122, 3) := by decide +kernel
theorem dL_law_538 : decode cL_law 538 = .ok (.if_icmp .gt 113, 3) := by decide +kernel
theorem dL_law_541 : decode cL_law 541 = .ok (.aload_n 1, 1) := by decide +kernel
theorem dL_law_542 : decode cL_law 542 = .ok (.iload 19, 2) := by decide +kernel
theorem dL_law_544 : decode cL_law 544 = .ok (.iconst 5, 1) := by decide +kernel
theorem dL_law_545 : decode cL_law 545 = .ok (.invokevirtual 122, 3) := by decide +kernel
theorem dL_law_548 : decode cL_law 548 = .ok (.aload_n 1, 1) := by decide +kernel
theorem dL_law_549 : decode cL_law 549 = .ok (.iload 19, 2) := by decide +kernel
theorem dL_law_551 : decode cL_law 551 = .ok (.iconst 1, 1) := by decide +kernel
theorem dL_law_552 : decode cL_law 552 = .ok (.invokevirtual 122, 3) := by decide +kernel
theorem dL_law_555 : decode cL_law 555 = .ok (.if_icmp .gt 96, 3) := by decide +kernel
theorem dL_law_558 : decode cL_law 558 = .ok (.aload_n 1, 1) := by decide +kernel
theorem dL_law_559 : decode cL_law 559 = .ok (.iload 19, 2) := by decide +kernel
theorem dL_law_561 : decode cL_law 561 = .ok (.iconst 1, 1) := by decide +kernel
theorem dL_law_562 : decode cL_law 562 = .ok (.invokevirtual 122, 3) := by decide +kernel
theorem dL_law_565 : decode cL_law 565 = .ok (.ifCond .le 7, 3) := by decide +kernel
theorem dL_law_568 : decode cL_law 568 = .ok (.iconst 1, 1) := by decide +kernel
theorem dL_law_569 : decode cL_law 569 = .ok (.goto 4, 3) := by decide +kernel
theorem dL_law_572 : decode cL_law 572 = .ok (.iconst 0, 1) := by decide +kernel
theorem dL_law_573 : decode cL_law 573 = .ok (.aload_n 1, 1) := by decide +kernel
theorem dL_law_574 : decode cL_law 574 = .ok (.iload 19, 2) := by decide +kernel
theorem dL_law_576 : decode cL_law 576 = .ok (.iconst 5, 1) := by decide +kernel
theorem dL_law_577 : decode cL_law 577 = .ok (.invokevirtual 122, 3) := by decide +kernel
theorem dL_law_580 : decode cL_law 580 = .ok (.ifCond .le 7, 3) := by decide +kernel
theorem dL_law_583 : decode cL_law 583 = .ok (.iconst 1, 1) := by decide +kernel
theorem dL_law_584 : decode cL_law 584 = .ok (.goto 4, 3) := by decide +kernel
theorem dL_law_587 : decode cL_law 587 = .ok (.iconst 0, 1) := by decide +kernel
theorem dL_law_588 : decode cL_law 588 = .ok (.if_icmp .ne 63, 3) := by decide +kernel
theorem dL_law_591 : decode cL_law 591 = .ok (.aload_n 1, 1) := by decide +kernel
theorem dL_law_592 : decode cL_law 592 = .ok (.iload 19, 2) := by decide +kernel
theorem dL_law_594 : decode cL_law 594 = .ok (.iconst 2, 1) := by decide +kernel
theorem dL_law_595 : decode cL_law 595 = .ok (.invokevirtual 122, 3) := by decide +kernel
theorem dL_law_598 : decode cL_law 598 = .ok (.aload_n 1, 1) := by decide +kernel
theorem dL_law_599 : decode cL_law 599 = .ok (.iload 19, 2) := by decide +kernel
theorem dL_law_601 : decode cL_law 601 = .ok (.iconst 1, 1) := by decide +kernel
theorem dL_law_602 : decode cL_law 602 = .ok (.invokevirtual 122, 3) := by decide +kernel
theorem dL_law_605 : decode cL_law 605 = .ok (.if_icmp .lt 46, 3) := by decide +kernel
theorem dL_law_608 : decode cL_law 608 = .ok (.aload_n 1, 1) := by decide +kernel
theorem dL_law_609 : decode cL_law 609 = .ok (.iload 19, 2) := by decide +kernel
theorem dL_law_611 : decode cL_law 611 = .ok (.iconst 2, 1) := by decide +kernel
theorem dL_law_612 : decode cL_law 612 = .ok (.invokevirtual 122, 3) := by decide +kernel
theorem dL_law_615 : decode cL_law 615 = .ok (.bipush 25, 2) := by decide +kernel
theorem dL_law_617 : decode cL_law 617 = .ok (.aload_n 1, 1) := by decide +kernel
theorem dL_law_618 : decode cL_law 618 = .ok (.iload 19, 2) := by decide +kernel
theorem dL_law_620 : decode cL_law 620 = .ok (.iconst 0, 1) := by decide +kernel
theorem dL_law_621 : decode cL_law 621 = .ok (.invokevirtual 122, 3) := by decide +kernel
theorem dL_law_624 : decode cL_law 624 = .ok (.imul, 1) := by decide +kernel
theorem dL_law_625 : decode cL_law 625 = .ok (.if_icmp .gt 26, 3) := by decide +kernel
theorem dL_law_628 : decode cL_law 628 = .ok (.aload_n 1, 1) := by decide +kernel
theorem dL_law_629 : decode cL_law 629 = .ok (.iload 19, 2) := by decide +kernel
theorem dL_law_631 : decode cL_law 631 = .ok (.iconst 3, 1) := by decide +kernel
theorem dL_law_632 : decode cL_law 632 = .ok (.invokevirtual 122, 3) := by decide +kernel
theorem dL_law_635 : decode cL_law 635 = .ok (.bipush 25, 2) := by decide +kernel
theorem dL_law_637 : decode cL_law 637 = .ok (.if_icmp .gt 14, 3) := by decide +kernel
theorem dL_law_640 : decode cL_law 640 = .ok (.aload_n 1, 1) := by decide +kernel
theorem dL_law_641 : decode cL_law 641 = .ok (.iload 19, 2) := by decide +kernel
theorem dL_law_643 : decode cL_law 643 = .ok (.iconst 4, 1) := by decide +kernel
theorem dL_law_644 : decode cL_law 644 = .ok (.invokevirtual 122, 3) := by decide +kernel
theorem dL_law_647 : decode cL_law 647 = .ok (.iconst 5, 1) := by decide +kernel
theorem dL_law_648 : decode cL_law 648 = .ok (.if_icmp .le 5, 3) := by decide +kernel
theorem dL_law_651 : decode cL_law 651 = .ok (.iconst 0, 1) := by decide +kernel
theorem dL_law_652 : decode cL_law 652 = .ok (.ireturn, 1) := by decide +kernel
theorem dL_law_653 : decode cL_law 653 = .ok (.iinc 19 1, 3) := by decide +kernel
theorem dL_law_656 : decode cL_law 656 = .ok (.goto (-175), 3) := by decide +kernel
theorem dL_law_659 : decode cL_law 659 = .ok (.aload_n 1, 1) := by decide +kernel
theorem dL_law_660 : decode cL_law 660 = .ok (.bipush 9, 2) := by decide +kernel
theorem dL_law_662 : decode cL_law 662 = .ok (.invokevirtual 109, 3) := by decide +kernel
theorem dL_law_665 : decode cL_law 665 = .ok (.iload 16, 2) := by decide +kernel
theorem dL_law_667 : decode cL_law 667 = .ok (.if_icmp .ne 30, 3) := by decide +kernel
theorem dL_law_670 : decode cL_law 670 = .ok (.aload_n 1, 1) := by decide +kernel
theorem dL_law_671 : decode cL_law 671 = .ok (.invokevirtual 130, 3) := by decide +kernel
theorem dL_law_674 : decode cL_law 674 = .ok (.iload 5, 2) := by decide +kernel
theorem dL_law_676 : decode cL_law 676 = .ok (.ifCond .ne 7, 3) := by decide +kernel
theorem dL_law_679 : decode cL_law 679 = .ok (.dconst 0, 1) := by decide +kernel
theorem dL_law_680 : decode cL_law 680 = .ok (.goto 13, 3) := by decide +kernel
theorem dL_law_683 : decode cL_law 683 = .ok (.iload 18, 2) := by decide +kernel
theorem dL_law_685 : decode cL_law 685 = .ok (.i2d, 1) := by decide +kernel
theorem dL_law_686 : decode cL_law 686 = .ok (.bipush 30, 2) := by decide +kernel
theorem dL_law_688 : decode cL_law 688 = .ok (.iload 5, 2) := by decide +kernel
theorem dL_law_690 : decode cL_law 690 = .ok (.imul, 1) := by decide +kernel
theorem dL_law_691 : decode cL_law 691 = .ok (.i2d, 1) := by decide +kernel
theorem dL_law_692 : decode cL_law 692 = .ok (.ddiv, 1) := by decide +kernel
theorem dL_law_693 : decode cL_law 693 = .ok (.dcmp .l, 1) := by decide +kernel
theorem dL_law_694 : decode cL_law 694 = .ok (.ifCond .eq 5, 3) := by decide +kernel
theorem dL_law_697 : decode cL_law 697 = .ok (.iconst 0, 1) := by decide +kernel
theorem dL_law_698 : decode cL_law 698 = .ok (.ireturn, 1) := by decide +kernel
theorem dL_law_699 : decode cL_law 699 = .ok (.iconst 0, 1) := by decide +kernel
theorem dL_law_700 : decode cL_law 700 = .ok (.istore 19, 2) := by decide +kernel
theorem dL_law_702 : decode cL_law 702 = .ok (.iload 19, 2) := by decide +kernel
theorem dL_law_704 : decode cL_law 704 = .ok (.iconst 5, 1) := by decide +kernel
theorem dL_law_705 : decode cL_law 705 = .ok (.if_icmp .ge 83, 3) := by decide +kernel
theorem dL_law_708 : decode cL_law 708 = .ok (.iload 6, 2) := by decide +kernel
theorem dL_law_710 : decode cL_law 710 = .ok (.ifCond .lt 78, 3) := by decide +kernel
theorem dL_law_713 : decode cL_law 713 = .ok (.iconst 0, 1) := by decide +kernel
theorem dL_law_714 : decode cL_law 714 = .ok (.istore 20, 2) := by decide +kernel
theorem dL_law_716 : decode cL_law 716 = .ok (.iload 20, 2) := by decide +kernel
theorem dL_law_718 : decode cL_law 718 = .ok (.iconst 5, 1) := by decide +kernel
theorem dL_law_719 : decode cL_law 719 = .ok (.if_icmp .ge 63, 3) := by decide +kernel
theorem dL_law_722 : decode cL_law 722 = .ok (.aload_n 1, 1) := by decide +kernel
theorem dL_law_723 : decode cL_law 723 = .ok (.iload 6, 2) := by decide +kernel
theorem dL_law_725 : decode cL_law 725 = .ok (.iload 19, 2) := by decide +kernel
theorem dL_law_727 : decode cL_law 727 = .ok (.iload 20, 2) := by decide +kernel
theorem dL_law_729 : decode cL_law 729 = .ok (.invokevirtual 113, 3) := by decide +kernel
theorem dL_law_732 : decode cL_law 732 = .ok (.istore 21, 2) := by decide +kernel
theorem dL_law_734 : decode cL_law 734 = .ok (.aload_n 1, 1) := by decide +kernel
theorem dL_law_735 : decode cL_law 735 = .ok (.iload 6, 2) := by decide +kernel
theorem dL_law_737 : decode cL_law 737 = .ok (.iload 19, 2) := by decide +kernel
theorem dL_law_739 : decode cL_law 739 = .ok (.iload 20, 2) := by decide +kernel
theorem dL_law_741 : decode cL_law 741 = .ok (.iconst 1, 1) := by decide +kernel
theorem dL_law_742 : decode cL_law 742 = .ok (.iadd, 1) := by decide +kernel
theorem dL_law_743 : decode cL_law 743 = .ok (.invokevirtual 113, 3) := by decide +kernel
theorem dL_law_746 : decode cL_law 746 = .ok (.istore 22, 2) := by decide +kernel
theorem dL_law_748 : decode cL_law 748 = .ok (.iload 21, 2) := by decide +kernel
theorem dL_law_750 : decode cL_law 750 = .ok (.iconst 2, 1) := by decide +kernel
theorem dL_law_751 : decode cL_law 751 = .ok (.irem, 1) := by decide +kernel
theorem dL_law_752 : decode cL_law 752 = .ok (.iload 22, 2) := by decide +kernel
theorem dL_law_754 : decode cL_law 754 = .ok (.iconst 2, 1) := by decide +kernel
theorem dL_law_755 : decode cL_law 755 = .ok (.irem, 1) := by decide +kernel
theorem dL_law_756 : decode cL_law 756 = .ok (.if_icmp .ne 18, 3) := by decide +kernel
theorem dL_law_759 : decode cL_law 759 = .ok (.iload 21, 2) := by decide +kernel
theorem dL_law_761 : decode cL_law 761 = .ok (.iconst 4, 1) := by decide +kernel
theorem dL_law_762 : decode cL_law 762 = .ok (.idiv, 1) := by decide +kernel
theorem dL_law_763 : decode cL_law 763 = .ok (.iconst 2, 1) := by decide +kernel
theorem dL_law_764 : decode cL_law 764 = .ok (.irem, 1) := by decide +kernel
theorem dL_law_765 : decode cL_law 765 = .ok (.iload 22, 2) := by decide +kernel
theorem dL_law_767 : decode cL_law 767 = .ok (.iconst 2, 1) := by decide +kernel
theorem dL_law_768 : decode cL_law 768 = .ok (.idiv, 1) := by decide +kernel
theorem dL_law_769 : decode cL_law 769 = .ok (.iconst 2, 1) := by decide +kernel
theorem dL_law_770 : decode cL_law 770 = .ok (.irem, 1) := by decide +kernel
theorem dL_law_771 : decode cL_law 771 = .ok (.if_icmp .eq 5, 3) := by decide +kernel
theorem dL_law_774 : decode cL_law 774 = .ok (.iconst 0, 1) := by decide +kernel
theorem dL_law_775 : decode cL_law 775 = .ok (.ireturn, 1) := by decide +kernel
theorem dL_law_776 : decode cL_law 776 = .ok (.iinc 20 1, 3) := by decide +kernel
theorem dL_law_779 : decode cL_law 779 = .ok (.goto (-63), 3) := by decide +kernel
theorem dL_law_782 : decode cL_law 782 = .ok (.iinc 19 1, 3) := by decide +kernel
theorem dL_law_785 : decode cL_law 785 = .ok (.goto (-83), 3) := by decide +kernel
theorem dL_law_788 : decode cL_law 788 = .ok (.iconst 0, 1) := by decide +kernel
theorem dL_law_789 : decode cL_law 789 = .ok (.istore 19, 2) := by decide +kernel
theorem dL_law_791 : decode cL_law 791 = .ok (.iconst 0, 1) := by decide +kernel
theorem dL_law_792 : decode cL_law 792 = .ok (.istore 20, 2) := by decide +kernel
theorem dL_law_794 : decode cL_law 794 = .ok (.iload 20, 2) := by decide +kernel
theorem dL_law_796 : decode cL_law 796 = .ok (.bipush 32, 2) := by decide +kernel
theorem dL_law_798 : decode cL_law 798 = .ok (.if_icmp .ge 20, 3) := by decide +kernel
theorem dL_law_801 : decode cL_law 801 = .ok (.iload 19, 2) := by decide +kernel
theorem dL_law_803 : decode cL_law 803 = .ok (.aload_n 1, 1) := by decide +kernel
theorem dL_law_804 : decode cL_law 804 = .ok (.iload 20, 2) := by decide +kernel
theorem dL_law_806 : decode cL_law 806 = .ok (.invokevirtual 134, 3) := by decide +kernel
theorem dL_law_809 : decode cL_law 809 = .ok (.iadd, 1) := by decide +kernel
theorem dL_law_810 : decode cL_law 810 = .ok (.istore 19, 2) := by decide +kernel
theorem dL_law_812 : decode cL_law 812 = .ok (.iinc 20 1, 3) := by decide +kernel
theorem dL_law_815 : decode cL_law 815 = .ok (.goto (-21), 3) := by decide +kernel
theorem dL_law_818 : decode cL_law 818 = .ok (.iload 19, 2) := by decide +kernel
theorem dL_law_820 : decode cL_law 820 = .ok (.iload 17, 2) := by decide +kernel
theorem dL_law_822 : decode cL_law 822 = .ok (.if_icmp .ne 13, 3) := by decide +kernel
theorem dL_law_825 : decode cL_law 825 = .ok (.aload_n 1, 1) := by decide +kernel
theorem dL_law_826 : decode cL_law 826 = .ok (.iconst 0, 1) := by decide +kernel
theorem dL_law_827 : decode cL_law 827 = .ok (.invokevirtual 134, 3) := by decide +kernel
theorem dL_law_830 : decode cL_law 830 = .ok (.iload 18, 2) := by decide +kernel
theorem dL_law_832 : decode cL_law 832 = .ok (.if_icmp .eq 5, 3) := by decide +kernel
theorem dL_law_835 : decode cL_law 835 = .ok (.iconst 0, 1) := by decide +kernel
theorem dL_law_836 : decode cL_law 836 = .ok (.ireturn, 1) := by decide +kernel
theorem dL_law_837 : decode cL_law 837 = .ok (.iinc 3 1, 3) := by decide +kernel
theorem dL_law_840 : decode cL_law 840 = .ok (.goto (-818), 3) := by decide +kernel
theorem dL_law_843 : decode cL_law 843 = .ok (.aload_n 2, 1) := by decide +kernel
theorem dL_law_844 : decode cL_law 844 = .ok (.aload_n 1, 1) := by decide +kernel
theorem dL_law_845 : decode cL_law 845 = .ok (.invokevirtual 137, 3) := by decide +kernel
theorem dL_law_848 : decode cL_law 848 = .ok (.ireturn, 1) := by decide +kernel
abbrev vwCl : List vw_C := [(RX0, TX0, 7), (RX1, TX1, 2), (RX2, TX2, 2), (RX3, TX3, 4), (RX4, TX4, 5), (RX5, TX5, 12)]
end
