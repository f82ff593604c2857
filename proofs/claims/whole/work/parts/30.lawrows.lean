/-! ===== rows for the law: bodies with handlers, what is caught, calls of such bodies ===== -/
section GBH
variable {V : gT} {cc : ByteArray} {maxL : Nat} {ret : Option FieldType} {n : Nat} {ad : Nat → Nat} {el : Nat → va_E} {l : Launch} {y : MethodName} {ws ws' : List Cond} {rm : Room} {as : List Value} {Qf : (Nat → Prop) → Array Value → State → Outcome → State → Prop} {mc ms : Nat} {px : String → Prop}
theorem TX.bodyH {hh : List (Nat × Nat × Nat × Nat)} (hy : plainName y.cls = true) (hw : ws = Cond.codeWith y cc maxL ret hh :: ws') (hl : (lg_sl as).length ≤ maxL)
    (body : ∀ (p : Program) (e : Env) (s : State) (m : MethodId) (below : List Frame) (meth : Method) (c : Code), CX V (AA n ad s.heap.size) y.cls cc maxL ret ws p s m as.toArray meth c → c.exceptionTable.toList = tableOf hh →
      GW p l e rm s m as.toArray below meth c V (AA n ad s.heap.size) maxL (vx_MQ below (Qf (AA n ad s.heap.size)) (XF V n ad el px (AA n ad s.heap.size)) as.toArray s mc ms (AA n ad s.heap.size)) n ad el 0 0 0 (lv_args 0 as) []) : TX l V y ws rm n ad el as Qf px mc ms := by
  intro sz
  refine vx_ofWH hy hw ?_
  intro p e s m args below meth c s₁ B hml hv
  obtain ⟨rfl, hsz, hP, hI, hK⟩ := hv
  subst hsz
  rw [lg_entry_eq]
  have hpre := atoms_spec (ws := ws) B.pre
  exact body p e s m below meth c ⟨B.exec, B.bytes, hml, findClass_of_methodNamed B.named, hpre, B.notSynchronized, B.returns, hK, fun q h => Or.inr h⟩ (vx_table (x := y) B (hpre _ (by rw [hw]; exact List.mem_cons_self))) s.heap [] _ hP (wld_D0 hI) va_S.rf (lv_entry as hl)
end GBH
section GCT
variable {p : Program} {l : Launch} {e : Env} {R : Room} {s : State} {m : MethodId} {args : Array Value} {below : List Frame} {meth : Method} {c : Code} {V : gT} {A : Nat → Prop} {nL : Nat} {Q : State → Prop} {n : Nat} {ad : Nat → Nat} {el : Nat → va_E} {cells slots pc : Nat} {lv : List (Nat × Value)} {st : List Value} {own : String} {cc : ByteArray} {ret : Option FieldType} {Ts : List Cond}
theorem g_catch (C : CX V A own cc nL ret Ts p s m args meth c) {E : String} {hh : List (Nat × Nat × Nat × Nat)} (ht : c.exceptionTable.toList = tableOf hh) (pre : List ExceptionTableEntry) (x : ExceptionTableEntry) (suf : List ExceptionTableEntry) (hsplit : tableOf hh = pre ++ x :: suf)
    (hpass : ∀ z ∈ pre, covers z pc = false ∨ (z.catchType ≠ 0 ∧ ∃ nm : String, Cond.classLink own z.catchType nm ∈ Ts ∧ (E, nm) ∈ g_nc)) (hx : covers x pc = true) (h0 : x.catchType ≠ 0) (hlink : Cond.classLink own x.catchType E ∈ Ts) (hcast : Cond.castable E E ∈ g_nw) (hp : Nat) (hpe : x.handlerPc = hp)
    (kk : ∀ q : Nat, GW p l e R s m args below meth c V A nL Q n ad el cells slots hp lv [.ref q]) : GX p l e R s m args below meth c V A nL Q n ad el cells slots pc lv st E :=
  fun H locs ls q ce hP hD hS hl h1 h2 h3 => vx_catch C.ow pre x suf (ht.trans hsplit) (fun z hz => (hpass z hz).imp id (fun ⟨z0, nm, a, b⟩ => ⟨z0, nm, C.ts _ a, C.kx.2.2.2.2.2.1 _ b⟩)) hx h0 (C.ts _ hlink) (va_Nw.use rfl (C.kx.2.2.2.1 _ hcast)) h1 h2 h3 (hpe ▸ kk q H locs ls hP hD hS hl)
theorem r_xSH (C : CX V A own cc nL ret Ts p s m args meth c) {y : MethodName} {bytes : ByteArray} {maxL mc ms nA index : Nat} {ret2 : Option FieldType} {hh : List (Nat × Nat × Nat × Nat)} {ws : List Cond} {rm : Room} {Qf : (Nat → Prop) → Array Value → State → Outcome → State → Prop} {st0 : List Value} {px : String → Prop} {As : List Value} (hM : TX l V y ws rm n ad el (As) Qf px mc ms) (cw : vx_CSW R s args own index y bytes maxL ret2 hh ws rm mc ms nA) (hn : As.length = nA) (hst : st0 = As.reverse ++ st) (hw : (st.map fun v => v.category).sum ≤ 8) (hdg : decode cc pc = .ok (.invokestatic index, 3)) (hf : cells + mc ≤ R.cells ∧ slots + ms ≤ R.slots) : ∀ (H : Heap) (locs : List Loc) (ls : Array Slot), va_P V.1 vwCl (wld n ad el) H → va_D A (wld n ad el) → va_S A s.heap H locs → lv_has ls nL lv → vx_Run p l e R s m args below meth c H locs cells slots mc ms (F0 m pc ls st0) st (Qf (AA n ad H.size) (As).toArray) (XF V n ad el px (AA n ad H.size)) (AA n ad H.size) :=
  fun H locs ls hP hD hS hl => vx_runSX ⟨C.x, C.b, C.ml, C.ow, C.ts⟩ (hM H.size) cw ⟨PC.blind, fun U hU hW => PC.of C hP hD hS U hU hW⟩ rfl hn hl.1 hst (lv_room hw) hdg hf
end GCT
/-- the law's own long -/
def OutAt (V : gT) (el : Nat → va_E) (z : Int64) : Prop := ∃ g : Nat → Int64, el 92 = .inl (V.2 2, 1, .inr (.inl g)) ∧ g 0 = z
theorem OutAt.keep {V : gT} {el el' : Nat → va_E} {z : Int64} (h : OutAt V el z) (ho : el' 92 = el 92) : OutAt V el' z := by
  obtain ⟨g, h1, h2⟩ := h
  exact ⟨g, ho.trans h1, h2⟩
theorem updL_s (g : Nat → Int64) (z : Int64) : vp_updL g 0 z 0 = z := if_pos rfl
