/-! ===== the layer: more instructions; the script; arrays of arrays; new T[n][m]; places in another order ===== -/
section GL2
variable {p : Program} {l : Launch} {e : Env} {R : Room} {s : State} {m : MethodId} {args : Array Value} {below : List Frame} {meth : Method} {c : Code} {V : gT} {A : Nat → Prop} {nL : Nat} {Q : State → Prop} {n : Nat} {ad : Nat → Nat} {el : Nat → va_E} {cells slots pc : Nat} {lv : List (Nat × Value)} {st : List Value} {own : String} {cc : ByteArray} {ret : Option FieldType} {Ts : List Cond}
theorem g_idiv (C : CX V A own cc nL ret Ts p s m args meth c) {x y v : Int32} (hdg : decode cc pc = .ok (.idiv, 1)) (hne : ¬ y = 0) (hv : x / y = v) (kk : GW p l e R s m args below meth c V A nL Q n ad el cells slots (pc + 1) lv (.int v :: st)) : GW p l e R s m args below meth c V A nL Q n ad el cells slots pc lv (.int y :: .int x :: st) := by subst hv; exact fun H locs ls hP hD hS hl => lv_idiv C.x C.b hdg hne (kk H locs ls hP hD hS hl)
theorem g_ishr (C : CX V A own cc nL ret Ts p s m args meth c) {x y v : Int32} (hdg : decode cc pc = .ok (.ishr, 1)) (hv : x >>> (y &&& 31) = v) (kk : GW p l e R s m args below meth c V A nL Q n ad el cells slots (pc + 1) lv (.int v :: st)) : GW p l e R s m args below meth c V A nL Q n ad el cells slots pc lv (.int y :: .int x :: st) := by subst hv; exact fun H locs ls hP hD hS hl => lv_ishr C.x C.b hdg (kk H locs ls hP hD hS hl)
theorem g_pop (C : CX V A own cc nL ret Ts p s m args meth c) {v : Value} (hdg : decode cc pc = .ok (.pop, 1)) (hv : v.category = 1) (kk : GW p l e R s m args below meth c V A nL Q n ad el cells slots (pc + 1) lv st) : GW p l e R s m args below meth c V A nL Q n ad el cells slots pc lv (v :: st) := fun H locs ls hP hD hS hl => lv_pop C.x C.b hdg hv (kk H locs ls hP hD hS hl)
theorem g_ldc (C : CX V A own cc nL ret Ts p s m args meth c) {index : Nat} {v : Int32} (hc : Jvm.Cond.constant own index v ∈ Ts) (hdg : decode cc pc = .ok (.ldc index, 2)) (kk : GW p l e R s m args below meth c V A nL Q n ad el cells slots (pc + 2) lv (.int v :: st)) : GW p l e R s m args below meth c V A nL Q n ad el cells slots pc lv st := fun H locs ls hP hD hS hl => lv_ldc C.x C.b C.ow (C.ts _ hc) hdg (kk H locs ls hP hD hS hl)
theorem g_ifnonnull (C : CX V A own cc nL ret Ts p s m args meth c) {x : Nat} {off : Int} {tgt : Nat} (hdg : decode cc pc = .ok (.ifnonnull off, 3)) (ht : (pc : Int) + off = (tgt : Int)) (kk : GW p l e R s m args below meth c V A nL Q n ad el cells slots tgt lv st) : GW p l e R s m args below meth c V A nL Q n ad el cells slots pc lv (.ref x :: st) := fun H locs ls hP hD hS hl => lv_ifnonnull C.x C.b hdg ht (kk H locs ls hP hD hS hl)
abbrev g_b (V : gT) : Nat := V.1.2.1
abbrev g_L (V : gT) : Nat := V.1.2.2.1
abbrev g_xs (V : gT) : Nat → Int32 := V.1.2.2.2
theorem CX.sc (C : CX V A own cc nL ret Ts p s m args meth c) : g_scr V A s s.heap := C.kx.2.2.2.2.2.2.2.2
theorem g_sld (C : CX V A own cc nL ret Ts p s m args meth c) (i : Nat) {x : Int32} (hx : x = nI i) (hi : i < g_L V) (hdg : decode cc pc = .ok (.iaload, 1)) (kk : GW p l e R s m args below meth c V A nL Q n ad el cells slots (pc + 1) lv (.int (g_xs V i) :: st)) : GW p l e R s m args below meth c V A nL Q n ad el cells slots pc lv (.int x :: .ref (g_b V) :: st) := by
  subst hx
  have hL : g_L V ≤ 260 := C.sc.2.1
  have hL2 : V.1.2.2.1 ≤ 260 := hL
  intro H locs ls hP hD hS hl
  refine va_sld C.x C.b C.sc.2.2 C.sc.lt C.sc.1 hS (vp_in_nI hi (by omega)) hdg ?_
  rw [nI_clamp (by omega)]
  exact kk H locs ls hP hD hS hl
theorem g_slen (C : CX V A own cc nL ret Ts p s m args meth c) (hdg : decode cc pc = .ok (.arraylength, 1)) (kk : GW p l e R s m args below meth c V A nL Q n ad el cells slots (pc + 1) lv (.int (nI (g_L V)) :: st)) : GW p l e R s m args below meth c V A nL Q n ad el cells slots pc lv (.ref (g_b V) :: st) :=
  fun H locs ls hP hD hS hl => va_slen C.x C.b C.sc.2.2 C.sc.lt C.sc.1 hS hdg (kk H locs ls hP hD hS hl)
theorem nm_A {ty : FieldType} {tv : Nat} (K : va_K V.1.1 vwCl (g_tys V.2) s) (hm : ty ∈ g_aat) (htv : (g_tys V.2)[tv]? = some (V.2 tv, ty)) : s.vm.findClass (FieldType.array ty).toString = some (V.2 tv) := by
  simp only [g_aat, List.mem_cons, List.not_mem_nil, or_false] at hm
  rcases hm with rfl | rfl | rfl | rfl <;> exact (K.2 tv _ htv).2
theorem nm_AA {ty : FieldType} {t : Nat} (K : va_K V.1.1 vwCl (g_tys V.2) s) (hm : ty ∈ g_aat) (ht : (g_tys V.2)[t]? = some (V.2 t, .array ty)) : s.vm.findClass ("[" ++ (FieldType.array ty).toString) = some (V.2 t) := by
  simp only [g_aat, List.mem_cons, List.not_mem_nil, or_false] at hm
  rcases hm with rfl | rfl | rfl | rfl <;> exact (K.2 t _ ht).2
theorem kind_A {ty : FieldType} {t tv : Nat} {H : Heap} (K : KX V A s H) (hm : ty ∈ g_aat) (ht : (g_tys V.2)[t]? = some (V.2 t, .array ty)) (htv : (g_tys V.2)[tv]? = some (V.2 tv, ty)) : ∃ kA kC : Class, s.vm.classes[V.2 t]? = some kA ∧ kA.kind = .array (V.2 tv) (.array ty) ∧ s.vm.classes[V.2 tv]? = some kC := by
  obtain ⟨comp, c5, k, h1, -, h3, h4, h5⟩ := arrayOverA_spec (K.2.2.2.2.2.2.2.1 ty hm)
  have e0 : comp = V.2 tv := Option.some.inj (h1.symm.trans (nm_A K.1 hm htv))
  have e5 : c5 = V.2 t := Option.some.inj (h5.symm.trans (nm_AA K.1 hm ht))
  subst e0; subst e5
  obtain ⟨-, k0, hk0, -⟩ := (K.1.2 tv _ htv).1 0 (fun _ => .null)
  exact ⟨k, k0, h3, h4, hk0⟩
theorem g_push (a : Nat) {x : va_E} (kk : ∀ (ad' : Nat → Nat) (el' : Nat → va_E), (∀ j, j < n → ad' j = ad j) → el' n = x → (∀ j, j < n → el' j = el j) → GW p l e R s m args below meth c V A nL Q (n + 1) ad' el' cells slots pc lv (.ref (ad' n) :: st)) : GW p l e R s m args below meth c V A nL Q (n + 1) (va_up ad n a) (va_up el n x) cells slots pc lv (.ref a :: st) := by
  have h := kk (va_up ad n a) (va_up el n x) (fun j hj => va_up_ne _ _ (by omega)) (va_up_self _ _ _) (fun j hj => va_up_ne _ _ (by omega))
  rw [va_up_self] at h
  exact h
theorem g_newAA (C : CX V A own cc nL ret Ts p s m args meth c) {index : Nat} (t : Nat) {ty : FieldType} (hm : ty ∈ g_aat) (ht : (g_tys V.2)[t]? = some (V.2 t, .array ty)) (hcl : Cond.classLink own index (FieldType.array ty).toString ∈ Ts) {x : Int32} {N : Nat} (hn : ¬ x < 0) (hN : x.toNatClampNeg = N) (hbytes : N * 4 ≤ 536870912) (hcells : cells + 1 ≤ R.cells) (hslots : slots + N ≤ R.slots) (hdg : decode cc pc = .ok (.anewarray index, 3))
    (kk : ∀ (ad' : Nat → Nat) (el' : Nat → va_E), (∀ j, j < n → ad' j = ad j) → el' n = .inl (V.2 t, N, .inr (.inr (.inr (.inr (fun _ => none))))) → (∀ j, j < n → el' j = el j) → GW p l e R s m args below meth c V A nL Q (n + 1) ad' el' (cells + 1) (slots + N) (pc + 3) lv (.ref (ad' n) :: st)) : GW p l e R s m args below meth c V A nL Q n ad el cells slots pc lv (.int x :: st) := by
  subst hN
  intro H locs ls hP hD hS hl
  refine W.anewA (t := ty) C.x C.b C.ow (C.ts _ hcl) (C.kx.2.2.2.2.2.2.2.1 ty hm) rfl hdg rfl hn hbytes hcells hslots fun cA kA comp f1 f2 f3 f4 => ?_
  have e5 : cA = V.2 t := Option.some.inj (f1.symm.trans (nm_AA C.k hm ht))
  subst e5
  generalize hH1 : H.push ({ cls := V.2 t, slots := Array.replicate x.toNatClampNeg .null, vm := .none } : Cell) = H1
  have z1 : H1.size = H.size + 1 := by rw [← hH1, Array.size_push]
  have e1 : H1[H.size]? = some (arrV (V.2 t) x.toNatClampNeg (fun _ => .null)) := by rw [← hH1, Array.getElem?_push_size, ← arrV_new]
  have o1 : ∀ q : Nat, q < H.size → H1[q]? = H[q]? := fun q hq => by rw [← hH1, Array.getElem?_push, if_neg (Nat.ne_of_lt hq)]
  have hk : ∀ (k : Nat) (x : Nat × va_E), (wld n ad el)[k]? = some x → H1[x.1]? = H[x.1]? := fun k x hx => o1 x.1 ((hP k x hx).lt)
  have hP1 : va_P V.1.1 vwCl (wld n ad el ++ [(H.size, .inl (V.2 t, x.toNatClampNeg, .inr (.inr (.inr (.inr (fun _ => none))))))]) H1 := (hP.kept hk).app (fun k y hy => by
    have hz : k < 1 := (List.getElem?_eq_some_iff.mp hy).1
    rw [show k = 0 by omega] at hy
    cases hy
    show H1[H.size]? = some (vp_cell _ _)
    rw [vp_cell_q]
    exact e1)
  have hD1 : va_D A (wld n ad el ++ [(H.size, .inl (V.2 t, x.toNatClampNeg, .inr (.inr (.inr (.inr (fun _ => none))))))]) := hD.push hP rfl (C.ha _ hS.1)
  rw [wld_push] at hP1 hD1
  exact g_push H.size kk H1 locs ls hP1 hD1 ⟨Nat.le_trans hS.1 (by omega), fun y h1 h2 => (o1 y (Nat.lt_of_lt_of_le h1 hS.1)).trans (hS.2.1 y h1 h2), hS.2.2⟩ hl
theorem g_aaldA (C : CX V A own cc nL ret Ts p s m args meth c) (k : Nat) (hk : k < n) (t : Nat) {ty : FieldType} (ht : (g_tys V.2)[t]? = some (V.2 t, .array ty)) {N : Nat} {f : Nat → Option Nat} (he : el k = .inl (V.2 t, N, .inr (.inr (.inr (.inr f))))) (i : Nat) {x : Int32} (hx : x = nI i) (hi : i < N) (hN : N < 2 ^ 31) {q : Nat} (hf : f i = some q) (hdg : decode cc pc = .ok (.aaload, 1)) (kk : GW p l e R s m args below meth c V A nL Q n ad el cells slots (pc + 1) lv (.ref q :: st)) : GW p l e R s m args below meth c V A nL Q n ad el cells slots pc lv (.int x :: .ref (ad k) :: st) := by
  subst hx
  intro H locs ls hP hD hS hl
  have hin : vp_in (nI i) N := vp_in_nI hi hN
  refine W.aald (v := .ref q) (ty := .array ty) C.x C.b (hP k _ (wld_at hk he)) ((C.k.2 t _ ht).1 N (fun j => va_rf (f j))) rfl (fun q => by cases q) (by show ¬ (nI i < 0 ∨ (arrV _ _ _).slots.size ≤ _); rw [arrV_size]; exact hin) (by show (arrV _ _ _).slots[_]? = _; rw [nI_clamp (by omega), arrV_read _ _ hi, hf]; rfl) rfl rfl hdg ?_
  exact kk H locs ls hP hD hS hl
theorem g_aastA (C : CX V A own cc nL ret Ts p s m args meth c) (k : Nat) (hk : k < n) (t tv : Nat) {ty : FieldType} (hm : ty ∈ g_aat) (ht : (g_tys V.2)[t]? = some (V.2 t, .array ty)) (htv : (g_tys V.2)[tv]? = some (V.2 tv, ty)) (kv : Nat) (hkv : kv < n) {xv : vp_A} (hv : el kv = .inl (V.2 tv, xv)) {N : Nat} {f : Nat → Option Nat} (he : el k = .inl (V.2 t, N, .inr (.inr (.inr (.inr f))))) (i : Nat) {x : Int32} (hx : x = nI i) (hi : i < N) (hN : N < 2 ^ 31) (hdg : decode cc pc = .ok (.aastore, 1)) (kk : ∀ el' : Nat → va_E, el' k = .inl (V.2 t, N, .inr (.inr (.inr (.inr (va_up f i (some (ad kv))))))) → (∀ j, j ≠ k → el' j = el j) → GW p l e R s m args below meth c V A nL Q n ad el' cells slots (pc + 1) lv st) : GW p l e R s m args below meth c V A nL Q n ad el cells slots pc lv (.ref (ad kv) :: .int x :: .ref (ad k) :: st) := by
  subst hx
  intro H locs ls hP hD hS hl
  have hin : vp_in (nI i) N := vp_in_nI hi hN
  have h0 : ¬ nI i < 0 := fun q => hin (Or.inl q)
  obtain ⟨kA, kC, h1, h2, h3⟩ := kind_A C.kx hm ht htv
  have hvm0 : (vp_cell (V.2 tv) xv).vm = .none := by
    obtain ⟨n, f | f | f | f | f⟩ := xv <;> rfl
  have hcl0 : (vp_cell (V.2 tv) xv).cls = V.2 tv := by
    obtain ⟨n, f | f | f | f | f⟩ := xv <;> rfl
  have ha := wld_at (ad := ad) hk he
  refine W.aast C.x C.b (hP k _ ha) (fun q h => by cases h) (fun h => by cases h) h1 h2 rfl h3 ⟨h0, by show _ < (arrV _ _ _).slots.size; rw [arrV_size, nI_clamp (by omega)]; exact hi⟩ (hP kv _ (wld_at hkv hv)) (fun q h => by rw [hvm0] at h; cases h) (by rw [hcl0]; exact h3) (by rw [hcl0]; exact va_asg _ _) rfl rfl hdg fun H1 e z oq => ?_
  refine kk (va_up el k _) (va_up_self _ _ _) (fun j hj => va_up_ne _ _ hj) H1 _ ls ?_ (wld_sameD hD) (hS.put z oq (wld_A hD hk)) hl
  rw [← wld_set hk]
  refine hP.set hD ha ?_ oq
  show H1[ad k]? = some (vp_cell _ _)
  rw [e, vp_cell_q, vp_cell_q, nI_clamp (by omega), arrV_store]
  congr 2
  funext q
  by_cases hq : q = i
  · subst hq
    simp [updV, va_up, va_rf]
  · simp [updV, va_up, hq]
theorem g_cloneI (C : CX V A own cc nL ret Ts p s m args meth c) {index : Nat} (hin : ∀ w ∈ [Cond.methodLink own index ⟨"[I", "clone", "()Ljava/lang/Object;"⟩, .sameMethod "[I" "java/lang/Object" "clone" "()Ljava/lang/Object;", .native ⟨"java/lang/Object", "clone", "()Ljava/lang/Object;"⟩, .instanceMethod ⟨"java/lang/Object", "clone", "()Ljava/lang/Object;"⟩, .selects "[I" ⟨"[I", "clone", "()Ljava/lang/Object;"⟩ ⟨"java/lang/Object", "clone", "()Ljava/lang/Object;"⟩], w ∈ Ts) (k : Nat) (hk : k < n) {N : Nat} {f : Nat → Int32} (he : el k = .inl (V.2 0, N, .inl f)) (hf : 1 ≤ R.frames) (hlo : (st.map fun v => v.category).sum + 14 ≤ R.locals) (hcells : cells + 1 ≤ R.cells) (hslots : slots + N ≤ R.slots) (hdg : decode cc pc = .ok (.invokevirtual index, 3))
    (kk : ∀ (ad' : Nat → Nat) (el' : Nat → va_E), (∀ j, j < n → ad' j = ad j) → el' n = .inl (V.2 0, N, .inl f) → (∀ j, j < n → el' j = el j) → GW p l e R s m args below meth c V A nL Q (n + 1) ad' el' (cells + 1) (slots + N) (pc + 3) lv (.ref (ad' n) :: st)) : GW p l e R s m args below meth c V A nL Q n ad el cells slots pc lv (.ref (ad k) :: st) := by
  intro H locs ls hP hD hS hl
  refine va_clone (D := V.1.1) C.x C.b (C.ml.trans hl.1.symm) C.ow (C.ts _ (hin _ (List.mem_of_getElem? (i := 0) rfl))) (C.ts _ (hin _ (List.mem_of_getElem? (i := 1) rfl))) (C.ts _ (hin _ (List.mem_of_getElem? (i := 2) rfl))) (C.ts _ (hin _ (List.mem_of_getElem? (i := 3) rfl))) (C.ts _ (hin _ (List.mem_of_getElem? (i := 4) rfl))) (C.kx.2.2.2.1 _ (List.mem_of_getElem? (i := 25) rfl)) C.k hP hD hS C.ha k 0 (wld_at hk he) rfl (nm_A C.k (by simp [g_aat]) (ty := .int) (tv := 0) rfl) (fun i v hv => va_fit (F := fun j => .int (f j)) (fun _ _ => rfl) i v hv) hf hlo hcells hslots hdg (fun q H1 _ hP1 hD1 hS1 => ?_)
  rw [wld_push] at hP1 hD1
  exact g_push q kk H1 locs ls hP1 hD1 hS1 hl
theorem g_castI (C : CX V A own cc nL ret Ts p s m args meth c) {index : Nat} (hcl : Cond.classLink own index "[I" ∈ Ts) (k : Nat) (hk : k < n) {x : vp_A} (he : el k = .inl (V.2 0, x)) (hdg : decode cc pc = .ok (.checkcast index, 3)) (kk : GW p l e R s m args below meth c V A nL Q n ad el cells slots (pc + 3) lv (.ref (ad k) :: st)) : GW p l e R s m args below meth c V A nL Q n ad el cells slots pc lv (.ref (ad k) :: st) :=
  fun H locs ls hP hD hS hl => va_castA (D := V.1.1) C.x C.b C.ow (C.ts _ hcl) hP k (wld_at hk he) (nm_A C.k (by simp [g_aat]) (ty := .int) (tv := 0) rfl) hdg (kk H locs ls hP hD hS hl)
/-- the answer is the cell at place K of the world behind -/
def QRn (V : gT) (K : Nat) (post : gS → Prop) (A : Nat → Prop) : Array Value → State → Outcome → State → Prop := va_Qr post (fun u a t => va_P V.1.1 vwCl (wld u.1 u.2.1 u.2.2) t.heap ∧ va_D A (wld u.1 u.2.1 u.2.2) ∧ a = u.2.1 K) A
theorem g_aret {K mc ms : Nat} {post : gS → Prop} {t : FieldType} (C : CX V A own cc nL ret Ts p s m args meth c) (hr : ret = some (.array t)) (hdg : decode cc pc = .ok (.areturn, 1)) (h : post (n, ad, el)) (hc : cells ≤ mc) (hs : slots ≤ ms) :
    GW p l e R s m args below meth c V A nL (MQ below (QRn V K post A) args s mc ms A) n ad el cells slots pc lv [.ref (ad K)] :=
  fun H locs ls hP hD hS hl => W.widen hc hs (W.aret C.x C.b (C.rt.trans hr) (Or.inr ⟨t, rfl⟩) (Or.inr ⟨_, rfl⟩) (fun t ht _ => ⟨⟨(n, ad, el), ad K, rfl, h, by rw [ht]; exact hP, hD, rfl⟩, hS.F ht⟩) hS.2.2 hdg C.lk)
theorem g_areto {K mc ms : Nat} {post : gS → Prop} {t : String} (C : CX V A own cc nL ret Ts p s m args meth c) (hr : ret = some (.object t)) (hdg : decode cc pc = .ok (.areturn, 1)) (h : post (n, ad, el)) (hc : cells ≤ mc) (hs : slots ≤ ms) :
    GW p l e R s m args below meth c V A nL (MQ below (QRn V K post A) args s mc ms A) n ad el cells slots pc lv [.ref (ad K)] :=
  fun H locs ls hP hD hS hl => W.widen hc hs (W.aret C.x C.b (C.rt.trans hr) (Or.inl ⟨t, rfl⟩) (Or.inr ⟨_, rfl⟩) (fun t ht _ => ⟨⟨(n, ad, el), ad K, rfl, h, by rw [ht]; exact hP, hD, rfl⟩, hS.F ht⟩) hS.2.2 hdg C.lk)
theorem g_callr (C : CX V A own cc nL ret Ts p s m args meth c) {K mc ms : Nat} {post : gS → Prop} {st0 : List Value} {a : Array Value} (hr : ∀ (H : Heap) (locs : List Loc) (ls : Array Slot), va_P V.1.1 vwCl (wld n ad el) H → va_D A (wld n ad el) → va_S A s.heap H locs → lv_has ls nL lv → va_Run p l e R s m args below meth c H locs cells slots mc ms (F0 m pc ls st0) st (QRn V K post (AA n ad H.size) a) (AA n ad H.size))
    (kk : ∀ (n1 : Nat) (ad1 : Nat → Nat) (u : Nat → va_E), post (n1, ad1, u) → GW p l e R s m args below meth c V A nL Q n1 ad1 u (cells + mc) (slots + ms) (pc + 3) lv (.ref (ad1 K) :: st)) : GW p l e R s m args below meth c V A nL Q n ad el cells slots pc lv st0 :=
  fun H locs ls hP hD hS hl => va_callr (hr H locs ls hP hD hS hl) hS (fun q _ h => wld_AA hD C.ha hS.1 q h) (fun q h => wld_AA hD C.ha hS.1 q h) (fun u ra t H1 locs1 ht _ hw hB _ _ hS1 => by
    obtain ⟨n1, ad1, u1⟩ := u
    rw [hB.2.2]
    exact kk n1 ad1 u1 hw H1 locs1 ls (ht ▸ hB.1) (hB.2.1.weaken (fun _ q _ h => wld_AA hD C.ha hS.1 q.1 h)) hS1 hl)
/-- the places in another order, or fewer of them -/
theorem g_perm (σ : Nat → Nat) {n' : Nat} {ad' : Nat → Nat} {el' : Nat → va_E} (hσ : ∀ k, k < n' → σ k < n) (hi : ∀ i j, i < n' → j < n' → σ i = σ j → i = j) (ha : ∀ k, k < n' → ad' k = ad (σ k)) (he : ∀ k, k < n' → el' k = el (σ k)) (kk : GW p l e R s m args below meth c V A nL Q n' ad' el' cells slots pc lv st) : GW p l e R s m args below meth c V A nL Q n ad el cells slots pc lv st := by
  intro H locs ls hP hD hS hl
  refine kk H locs ls ?_ ?_ hS hl
  · intro k q hq
    obtain ⟨hk, rfl⟩ := wld_lt hq
    rw [ha k hk, he k hk]
    exact hP (σ k) _ (wld_get (hσ k hk))
  · refine wld_D (fun i j hi1 hj1 h => hi i j hi1 hj1 (wld_inj hD _ _ (hσ i hi1) (hσ j hj1) ?_)) (fun k hk => ?_)
    · rw [← ha i hi1, ← ha j hj1]; exact h
    · rw [ha k hk]; exact wld_A hD (hσ k hk)
theorem g_outer (c : ClassId) (N h0 : Nat) : ∀ i : Nat, Jvm.Free.Multi.outerC c N h0 i = arrV c N (fun j => va_rf (if j < i then some (h0 + 1 + j) else none))
  | 0 => by
    show ({ cls := c, slots := Array.replicate N .null, vm := .none } : Cell) = _
    rw [arrV_new]
    exact congrArg (arrV c N) (funext fun j => by simp [va_rf])
  | i + 1 => by
    show (Jvm.Free.Multi.outerC c N h0 i).setSlot i (.ref (h0 + 1 + i)) = _
    rw [g_outer c N h0 i, arrV_store]
    refine congrArg (arrV c N) (funext fun j => ?_)
    by_cases e : j = i
    · subst e
      simp [updV, va_rf]
    · by_cases h : j < i
      · simp [updV, e, h, Nat.lt_succ_of_lt h]
      · simp [updV, e, h, show ¬ j < i + 1 by omega]
/-- new T[N][M] -/
theorem g_mna (C : CX V A own cc nL ret Ts p s m args meth c) (t tv : Nat) {ty : FieldType} (hm : ty ∈ g_aat) (ht : (g_tys V.2)[t]? = some (V.2 t, .array ty)) (htv : (g_tys V.2)[tv]? = some (V.2 tv, ty)) {index : Nat} (hcl : Cond.classLink own index ("[" ++ (FieldType.array ty).toString) ∈ Ts) (harr : Cond.arrayClass ty ∈ Ts) {x y : Int32} {N M : Nat} (hn : ¬ x < 0) (hk : ¬ y < 0) (hN : x.toNatClampNeg = N) (hM : y.toNatClampNeg = M) (hb1 : N * 4 ≤ 536870912) (hb2 : M * componentBytes ty ≤ 536870912) (hb3 : M ≤ 536870912) (hdf : fits ty (defaultValue ty) = true) (hdd : (defaultValue ty).isDefault = true) (hz : ∀ c : ClassId, Jvm.Free.Multi.innerC c M (defaultValue ty) = vp_cell c (M, .inl (fun _ => 0))) (hcells : cells + (1 + N) ≤ R.cells) (hslots : slots + (N + N * M) ≤ R.slots) (hdg : decode cc pc = .ok (.multianewarray index 2, 4))
    (kk : ∀ (ad' : Nat → Nat) (el' : Nat → va_E), (∀ j, j < n → ad' j = ad j) → el' n = .inl (V.2 t, N, .inr (.inr (.inr (.inr (fun i => if i < N then some (ad' (n + 1 + i)) else none))))) → (∀ i, i < N → el' (n + 1 + i) = .inl (V.2 tv, M, .inl (fun _ => 0))) → (∀ j, j < n → el' j = el j) → GW p l e R s m args below meth c V A nL Q (n + 1 + N) ad' el' (cells + 1 + N) (slots + N + N * M) (pc + 4) lv (.ref (ad' n) :: st)) : GW p l e R s m args below meth c V A nL Q n ad el cells slots pc lv (.int y :: .int x :: st) := by
  subst hN; subst hM
  intro H locs ls hP hD hS hl
  intro T hT Xs
  have hover : (Cond.arrayOver (.array ty)).before args s = true := C.kx.2.2.2.2.2.2.2.1 ty hm
  obtain ⟨vm₁, cA, comp, -, fA, fC, hO, -, X', step⟩ := Xs.multianewarray2F C.x C.ow (C.ts _ hcl) hover (C.ts _ harr) (g := F0 m pc ls (.int y :: .int x :: st)) rfl (by rw [C.b]; exact hdg) rfl hn hk hb1 hb2 hb3 hdf hdd hcells hslots
  have ec : comp = V.2 tv := Option.some.inj (fC.symm.trans (nm_A C.k hm htv))
  have ea : cA = V.2 t := Option.some.inj (fA.symm.trans (nm_AA C.k hm ht))
  subst ec; subst ea
  generalize hF : Jvm.Free.Multi.fill (T.setVm vm₁) (V.2 t) (V.2 tv) x.toNatClampNeg y.toNatClampNeg (defaultValue ty) x.toNatClampNeg = F at X' step
  have hTh : (T.setVm vm₁).heap = H := hT
  obtain ⟨f1, f2, -, -⟩ := Jvm.Free.Multi.fill_facts (T.setVm vm₁) (V.2 t) (V.2 tv) x.toNatClampNeg y.toNatClampNeg (defaultValue ty) x.toNatClampNeg
  rw [hF, hTh] at f1 f2
  have hold : ∀ x : Nat, x < H.size → F.heap[x]? = H[x]? := fun z hz => by
    have := Jvm.Free.Multi.fill_old (T.setVm vm₁) (V.2 t) (V.2 tv) x.toNatClampNeg y.toNatClampNeg (defaultValue ty) (a := z) (by rw [hTh]; exact hz) x.toNatClampNeg
    rw [hF, hTh] at this
    exact this
  have hrow : ∀ j : Nat, j < x.toNatClampNeg → F.heap[H.size + 1 + j]? = some (vp_cell (V.2 tv) (y.toNatClampNeg, .inl (fun _ => 0))) := fun j hj => by
    have := Jvm.Free.Multi.fill_inner (T.setVm vm₁) (V.2 t) (V.2 tv) x.toNatClampNeg y.toNatClampNeg (defaultValue ty) x.toNatClampNeg j hj
    rw [hF, hTh, hz] at this
    exact this
  have hlt : ∀ k, k < n → ad k < H.size := fun k hk => (hP k _ (wld_get hk)).lt
  have hP0 : va_P V.1.1 vwCl (wld n ad el) F.heap := hP.kept (fun k9 x hx => hold x.1 ((hP k9 x hx).lt))
  refine (fun q => ?_) (kk (fun j => if j < n then ad j else H.size + (j - n)) (fun j => if j < n then el j else if j = n then .inl (V.2 t, x.toNatClampNeg, .inr (.inr (.inr (.inr (fun i => if i < x.toNatClampNeg then some (H.size + 1 + i) else none))))) else .inl (V.2 tv, y.toNatClampNeg, .inl (fun _ => 0))) (fun j hj => if_pos hj) ?_ ?_ (fun j hj => if_pos hj) F.heap locs ls ?_ ?_ ?_ hl)
  · have e1 : (if n < n then ad n else H.size + (n - n)) = H.size := by rw [if_neg (Nat.lt_irrefl n)]; omega
    have q2 := q F rfl X'
    simp only [e1] at q2
    obtain ⟨t1, a1, b1⟩ := q2
    exact ⟨t1, step _ (by rw [hT]; exact a1), b1⟩
  · rw [if_neg (Nat.lt_irrefl n), if_pos rfl]
    refine congrArg (fun g => Sum.inl (V.2 t, x.toNatClampNeg, Sum.inr (Sum.inr (Sum.inr (Sum.inr g))))) (funext fun i => ?_)
    by_cases h : i < x.toNatClampNeg
    · rw [if_pos h, if_pos h, if_neg (by omega)]
      exact congrArg some (by omega)
    · rw [if_neg h, if_neg h]
  · intro i hi
    rw [if_neg (by omega), if_neg (by omega)]
  · intro k q hq
    obtain ⟨hk, rfl⟩ := wld_lt hq
    by_cases h1 : k < n
    · simp only [if_pos h1]
      exact hP0 k _ (wld_get h1)
    · by_cases h2 : k = n
      · subst h2
        simp only [if_neg (Nat.lt_irrefl k), if_true, Nat.sub_self, Nat.add_zero]
        show F.heap[H.size]? = some (vp_cell _ _)
        rw [f2, vp_cell_q]
        exact congrArg some (g_outer (V.2 t) x.toNatClampNeg H.size x.toNatClampNeg)
      · simp only [if_neg h1, if_neg h2]
        show F.heap[H.size + (k - n)]? = some (vp_cell _ _)
        have h3 := hrow (k - n - 1) (by omega)
        rw [show H.size + (k - n) = H.size + 1 + (k - n - 1) by omega]
        exact h3
  · refine wld_D (fun i j hi hj h => ?_) (fun k hk => ?_)
    · replace h : (if i < n then ad i else H.size + (i - n)) = (if j < n then ad j else H.size + (j - n)) := h
      by_cases h1 : i < n <;> by_cases h2 : j < n
      · rw [if_pos h1, if_pos h2] at h
        exact wld_inj hD i j h1 h2 h
      · rw [if_pos h1, if_neg h2] at h
        have := hlt i h1
        omega
      · rw [if_neg h1, if_pos h2] at h
        have := hlt j h2
        omega
      · rw [if_neg h1, if_neg h2] at h
        omega
    · by_cases h1 : k < n
      · simp only [if_pos h1]; exact wld_A hD h1
      · simp only [if_neg h1]; exact C.ha _ (Nat.le_trans hS.1 (by omega))
  · refine ⟨Nat.le_trans hS.1 (by rw [f1]; omega), fun y h1 h2 => (hold y (Nat.lt_of_lt_of_le h1 hS.1)).trans (hS.2.1 y h1 h2), hS.2.2⟩
end GL2
