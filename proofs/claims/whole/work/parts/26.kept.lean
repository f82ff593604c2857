/-! ===== arrays of int arrays: made, written, read, cloned; an answer that is a cell ===== -/
section GA2
variable {p : Program} {l : Launch} {e : Env} {R : Room} {s : State} {m : MethodId} {args : Array Value} {below : List Frame} {meth : Method} {c : Code} {V : gT} {A : Nat → Prop} {nL : Nat} {Q : State → Prop} {n : Nat} {ad : Nat → Nat} {el : Nat → va_E} {cells slots pc : Nat} {lv : List (Nat × Value)} {st : List Value} {own : String} {cc : ByteArray} {ret : Option FieldType} {Ts : List Cond}
theorem nm_I (K : va_K V.1 vwCl (g_tys V.2) s) : s.vm.findClass "[I" = some (V.2 0) := (K.2 0 _ rfl).2
theorem nm_II (K : va_K V.1 vwCl (g_tys V.2) s) : s.vm.findClass "[[I" = some (V.2 5) := (K.2 5 _ rfl).2
theorem kind_II {H : Heap} (K : KX V A s H) : ∃ kA kC : Class, s.vm.classes[V.2 5]? = some kA ∧ kA.kind = .array (V.2 0) (.array .int) ∧ s.vm.classes[V.2 0]? = some kC := by
  obtain ⟨comp, c5, k, h1, -, h3, h4, h5⟩ := arrayOverA_spec K.2.2.2.2.2.2.2
  have e0 : comp = V.2 0 := Option.some.inj (h1.symm.trans (nm_I K.1))
  have e5 : c5 = V.2 5 := Option.some.inj (h5.symm.trans (nm_II K.1))
  subst e0; subst e5
  obtain ⟨-, k0, hk0, -⟩ := (K.1.2 0 _ rfl).1 0 (fun _ => .null)
  exact ⟨k, k0, h3, h4, hk0⟩
theorem g_push (a : Nat) {x : va_E} (kk : ∀ (ad' : Nat → Nat) (el' : Nat → va_E), (∀ j, j < n → ad' j = ad j) → el' n = x → (∀ j, j < n → el' j = el j) → GW p l e R s m args below meth c V A nL Q (n + 1) ad' el' cells slots pc lv (.ref (ad' n) :: st)) : GW p l e R s m args below meth c V A nL Q (n + 1) (va_up ad n a) (va_up el n x) cells slots pc lv (.ref a :: st) := by
  have h := kk (va_up ad n a) (va_up el n x) (fun j hj => va_up_ne _ _ (by omega)) (va_up_self _ _ _) (fun j hj => va_up_ne _ _ (by omega))
  rw [va_up_self] at h
  exact h
theorem g_newAA (C : CX V A own cc nL ret Ts p s m args meth c) {index : Nat} (hcl : Cond.classLink own index "[I" ∈ Ts) {x : Int32} {N : Nat} (hn : ¬ x < 0) (hN : x.toNatClampNeg = N) (hbytes : N * 4 ≤ 536870912) (hcells : cells + 1 ≤ R.cells) (hslots : slots + N ≤ R.slots) (hdg : decode cc pc = .ok (.anewarray index, 3))
    (kk : ∀ (ad' : Nat → Nat) (el' : Nat → va_E), (∀ j, j < n → ad' j = ad j) → el' n = .inl (V.2 5, N, .inr (.inr (.inr (.inr (fun _ => none))))) → (∀ j, j < n → el' j = el j) → GW p l e R s m args below meth c V A nL Q (n + 1) ad' el' (cells + 1) (slots + N) (pc + 3) lv (.ref (ad' n) :: st)) : GW p l e R s m args below meth c V A nL Q n ad el cells slots pc lv (.int x :: st) := by
  subst hN
  intro H locs ls hP hD hS hl
  refine W.anewA (t := .int) C.x C.b C.ow (C.ts _ hcl) C.kx.2.2.2.2.2.2.2 rfl hdg rfl hn hbytes hcells hslots fun cA kA comp f1 f2 f3 f4 => ?_
  have e5 : cA = V.2 5 := Option.some.inj (f1.symm.trans (nm_II C.k))
  subst e5
  generalize hH1 : H.push ({ cls := V.2 5, slots := Array.replicate x.toNatClampNeg .null, vm := .none } : Cell) = H1
  have z1 : H1.size = H.size + 1 := by rw [← hH1, Array.size_push]
  have e1 : H1[H.size]? = some (arrV (V.2 5) x.toNatClampNeg (fun _ => .null)) := by rw [← hH1, Array.getElem?_push_size, ← arrV_new]
  have o1 : ∀ q : Nat, q < H.size → H1[q]? = H[q]? := fun q hq => by rw [← hH1, Array.getElem?_push, if_neg (Nat.ne_of_lt hq)]
  have hk : ∀ (k : Nat) (x : Nat × va_E), (wld n ad el)[k]? = some x → H1[x.1]? = H[x.1]? := fun k x hx => o1 x.1 ((hP k x hx).lt)
  have hP1 : va_P V.1 vwCl (wld n ad el ++ [(H.size, .inl (V.2 5, x.toNatClampNeg, .inr (.inr (.inr (.inr (fun _ => none))))))]) H1 := (hP.kept hk).app (fun k y hy => by
    have hz : k < 1 := (List.getElem?_eq_some_iff.mp hy).1
    rw [show k = 0 by omega] at hy
    cases hy
    show H1[H.size]? = some (vp_cell _ _)
    rw [vp_cell_q]
    exact e1)
  have hD1 : va_D A (wld n ad el ++ [(H.size, .inl (V.2 5, x.toNatClampNeg, .inr (.inr (.inr (.inr (fun _ => none))))))]) := hD.push hP rfl (C.ha _ hS.1)
  rw [wld_push] at hP1 hD1
  exact g_push H.size kk H1 locs ls hP1 hD1 ⟨Nat.le_trans hS.1 (by omega), fun y h1 h2 => (o1 y (Nat.lt_of_lt_of_le h1 hS.1)).trans (hS.2.1 y h1 h2), hS.2.2⟩ hl
theorem g_aaldA (C : CX V A own cc nL ret Ts p s m args meth c) (k : Nat) (hk : k < n) {N : Nat} {f : Nat → Option Nat} (he : el k = .inl (V.2 5, N, .inr (.inr (.inr (.inr f))))) (i : Nat) {x : Int32} (hx : x = nI i) (hi : i < N) (hN : N < 2 ^ 31) {q : Nat} (hf : f i = some q) (hdg : decode cc pc = .ok (.aaload, 1)) (kk : GW p l e R s m args below meth c V A nL Q n ad el cells slots (pc + 1) lv (.ref q :: st)) : GW p l e R s m args below meth c V A nL Q n ad el cells slots pc lv (.int x :: .ref (ad k) :: st) := by
  subst hx
  intro H locs ls hP hD hS hl
  have hin : vp_in (nI i) N := vp_in_nI hi hN
  refine W.aald (v := .ref q) (ty := .array .int) C.x C.b (hP k _ (wld_at hk he)) ((C.k.2 5 _ rfl).1 N (fun j => va_rf (f j))) rfl (fun q => by cases q) (by show ¬ (nI i < 0 ∨ (arrV _ _ _).slots.size ≤ _); rw [arrV_size]; exact hin) (by show (arrV _ _ _).slots[_]? = _; rw [nI_clamp (by omega), arrV_read _ _ hi, hf]; rfl) rfl rfl hdg ?_
  exact kk H locs ls hP hD hS hl
theorem g_aastA (C : CX V A own cc nL ret Ts p s m args meth c) (k : Nat) (hk : k < n) (kv : Nat) (hkv : kv < n) {xv : vp_A} (hv : el kv = .inl (V.2 0, xv)) {N : Nat} {f : Nat → Option Nat} (he : el k = .inl (V.2 5, N, .inr (.inr (.inr (.inr f))))) (i : Nat) {x : Int32} (hx : x = nI i) (hi : i < N) (hN : N < 2 ^ 31) (hdg : decode cc pc = .ok (.aastore, 1)) (kk : ∀ el' : Nat → va_E, el' k = .inl (V.2 5, N, .inr (.inr (.inr (.inr (va_up f i (some (ad kv))))))) → (∀ j, j ≠ k → el' j = el j) → GW p l e R s m args below meth c V A nL Q n ad el' cells slots (pc + 1) lv st) : GW p l e R s m args below meth c V A nL Q n ad el cells slots pc lv (.ref (ad kv) :: .int x :: .ref (ad k) :: st) := by
  subst hx
  intro H locs ls hP hD hS hl
  have hin : vp_in (nI i) N := vp_in_nI hi hN
  have h0 : ¬ nI i < 0 := fun q => hin (Or.inl q)
  obtain ⟨kA, kC, h1, h2, h3⟩ := kind_II C.kx
  have hvm0 : (vp_cell (V.2 0) xv).vm = .none := by
    obtain ⟨n, f | f | f | f | f⟩ := xv <;> rfl
  have hcl0 : (vp_cell (V.2 0) xv).cls = V.2 0 := by
    obtain ⟨n, f | f | f | f | f⟩ := xv <;> rfl
  have ha := wld_at (ad := ad) hk he
  refine W.aast C.x C.b (hP k _ ha) (fun q h => by cases h) (fun h => by cases h) h1 h2 rfl h3 ⟨h0, by show _ < (arrV _ _ _).slots.size; rw [arrV_size, nI_clamp (by omega)]; exact hi⟩ (hP kv _ (wld_at hkv hv)) (fun q h => by rw [hvm0] at h; cases h) (by rw [hcl0]; exact h3) (by rw [hcl0]; exact va_asg _ _) rfl rfl hdg fun H1 e z oq => ?_
  refine kk (va_up el k _) (va_up_self _ _ _) (fun j hj => va_up_ne _ _ hj) H1 _ ls ?_ (wld_sameD hD) (hS.put z oq (wld_A hD hk)) hl
  rw [← wld_set hk]
  refine hP.set hD ha ?_ oq
  show H1[ad k]? = some (vp_cell _ _)
  rw [e, vp_cell_q, vp_cell_q, nI_clamp (by omega), arrV_store]
  congr 2
  funext q
  by_cases hq : q = i
  · subst hq
    simp [updV, va_up, va_rf]
  · simp [updV, va_up, hq]
theorem g_cloneI (C : CX V A own cc nL ret Ts p s m args meth c) {index : Nat} (hin : ∀ w ∈ [Cond.methodLink own index ⟨"[I", "clone", "()Ljava/lang/Object;"⟩, .sameMethod "[I" "java/lang/Object" "clone" "()Ljava/lang/Object;", .native ⟨"java/lang/Object", "clone", "()Ljava/lang/Object;"⟩, .instanceMethod ⟨"java/lang/Object", "clone", "()Ljava/lang/Object;"⟩, .selects "[I" ⟨"[I", "clone", "()Ljava/lang/Object;"⟩ ⟨"java/lang/Object", "clone", "()Ljava/lang/Object;"⟩], w ∈ Ts) (k : Nat) (hk : k < n) {N : Nat} {f : Nat → Int32} (he : el k = .inl (V.2 0, N, .inl f)) (hf : 1 ≤ R.frames) (hlo : (st.map fun v => v.category).sum + 14 ≤ R.locals) (hcells : cells + 1 ≤ R.cells) (hslots : slots + N ≤ R.slots) (hdg : decode cc pc = .ok (.invokevirtual index, 3))
    (kk : ∀ (ad' : Nat → Nat) (el' : Nat → va_E), (∀ j, j < n → ad' j = ad j) → el' n = .inl (V.2 0, N, .inl f) → (∀ j, j < n → el' j = el j) → GW p l e R s m args below meth c V A nL Q (n + 1) ad' el' (cells + 1) (slots + N) (pc + 3) lv (.ref (ad' n) :: st)) : GW p l e R s m args below meth c V A nL Q n ad el cells slots pc lv (.ref (ad k) :: st) := by
  intro H locs ls hP hD hS hl
  refine va_clone (D := V.1) C.x C.b (C.ml.trans hl.1.symm) C.ow (C.ts _ (hin _ (List.mem_of_getElem? (i := 0) rfl))) (C.ts _ (hin _ (List.mem_of_getElem? (i := 1) rfl))) (C.ts _ (hin _ (List.mem_of_getElem? (i := 2) rfl))) (C.ts _ (hin _ (List.mem_of_getElem? (i := 3) rfl))) (C.ts _ (hin _ (List.mem_of_getElem? (i := 4) rfl))) (C.kx.2.2.2.1 _ (List.mem_of_getElem? (i := 26) rfl)) C.k hP hD hS C.ha k 0 (wld_at hk he) rfl (nm_I C.k) (fun i v hv => va_fit (F := fun j => .int (f j)) (fun _ _ => rfl) i v hv) hf hlo hcells hslots hdg (fun q H1 _ hP1 hD1 hS1 => ?_)
  rw [wld_push] at hP1 hD1
  exact g_push q kk H1 locs ls hP1 hD1 hS1 hl
theorem g_castI (C : CX V A own cc nL ret Ts p s m args meth c) {index : Nat} (hcl : Cond.classLink own index "[I" ∈ Ts) (k : Nat) (hk : k < n) {x : vp_A} (he : el k = .inl (V.2 0, x)) (hdg : decode cc pc = .ok (.checkcast index, 3)) (kk : GW p l e R s m args below meth c V A nL Q n ad el cells slots (pc + 3) lv (.ref (ad k) :: st)) : GW p l e R s m args below meth c V A nL Q n ad el cells slots pc lv (.ref (ad k) :: st) :=
  fun H locs ls hP hD hS hl => va_castA (D := V.1) C.x C.b C.ow (C.ts _ hcl) hP k (wld_at hk he) (nm_I C.k) hdg (kk H locs ls hP hD hS hl)
/-- the answer is the cell at place K of the world behind -/
def QRn (V : gT) (K : Nat) (post : gS → Prop) (A : Nat → Prop) : Array Value → State → Outcome → State → Prop := va_Qr post (fun u a t => va_P V.1 vwCl (wld u.1 u.2.1 u.2.2) t.heap ∧ va_D A (wld u.1 u.2.1 u.2.2) ∧ a = u.2.1 K) A
theorem g_aret {K mc ms : Nat} {post : gS → Prop} {t : FieldType} (C : CX V A own cc nL ret Ts p s m args meth c) (hr : ret = some (.array t)) (hdg : decode cc pc = .ok (.areturn, 1)) (h : post (n, ad, el)) (hc : cells ≤ mc) (hs : slots ≤ ms) :
    GW p l e R s m args below meth c V A nL (MQ below (QRn V K post A) args s mc ms A) n ad el cells slots pc lv [.ref (ad K)] :=
  fun H locs ls hP hD hS hl => W.widen hc hs (W.aret C.x C.b (C.rt.trans hr) (Or.inr ⟨t, rfl⟩) (Or.inr ⟨_, rfl⟩) (fun t ht _ => ⟨⟨(n, ad, el), ad K, rfl, h, by rw [ht]; exact hP, hD, rfl⟩, hS.F ht⟩) hS.2.2 hdg C.lk)
theorem g_callr (C : CX V A own cc nL ret Ts p s m args meth c) {K mc ms : Nat} {post : gS → Prop} {st0 : List Value} {a : Array Value} (hr : ∀ (H : Heap) (locs : List Loc) (ls : Array Slot), va_P V.1 vwCl (wld n ad el) H → va_D A (wld n ad el) → va_S A s.heap H locs → lv_has ls nL lv → va_Run p l e R s m args below meth c H locs cells slots mc ms (F0 m pc ls st0) st (QRn V K post (AA n ad H.size) a) (AA n ad H.size))
    (kk : ∀ (n1 : Nat) (ad1 : Nat → Nat) (u : Nat → va_E), post (n1, ad1, u) → GW p l e R s m args below meth c V A nL Q n1 ad1 u (cells + mc) (slots + ms) (pc + 3) lv (.ref (ad1 K) :: st)) : GW p l e R s m args below meth c V A nL Q n ad el cells slots pc lv st0 :=
  fun H locs ls hP hD hS hl => va_callr (hr H locs ls hP hD hS hl) hS (fun q _ h => wld_AA hD C.ha hS.1 q h) (fun q h => wld_AA hD C.ha hS.1 q h) (fun u ra t H1 locs1 ht _ hw hB _ _ hS1 => by
    obtain ⟨n1, ad1, u1⟩ := u
    rw [hB.2.2]
    exact kk n1 ad1 u1 hw H1 locs1 ls (ht ▸ hB.1) (hB.2.1.weaken (fun _ q _ h => wld_AA hD C.ha hS.1 q.1 h)) hS1 hl)
/-- the world behind, with fewer cells, by other places' names -/
theorem g_dropA {n' : Nat} {ad' : Nat → Nat} (h : n' ≤ n) (ha : ∀ k, k < n' → ad k = ad' k) (kk : GW p l e R s m args below meth c V A nL Q n' ad' el cells slots pc lv st) : GW p l e R s m args below meth c V A nL Q n ad el cells slots pc lv st := by
  have e1 : wld n' ad' el = wld n' ad el := by
    apply List.ext_getElem?
    intro i
    by_cases hi : i < n'
    · rw [wld_get hi, wld_get hi, ha i hi]
    · rw [wld_none hi, wld_none hi]
  refine g_drop h ?_
  intro H locs ls hP hD hS hl
  exact kk H locs ls (by rw [e1]; exact hP) (by rw [e1]; exact hD) hS hl
end GA2
