/-! ===== the reference: rows, sheets, runs ===== -/
section GCP
variable {p : Program} {l : Launch} {e : Env} {R : Room} {s : State} {m : MethodId} {args : Array Value} {below : List Frame} {meth : Method} {c : Code} {V : gT} {A : Nat → Prop} {nL : Nat} {Q : State → Prop} {n : Nat} {ad : Nat → Nat} {el : Nat → va_E} {cells slots pc : Nat} {lv : List (Nat × Value)} {st : List Value} {own : String} {cc : ByteArray} {ret : Option FieldType} {Ts : List Cond}
theorem g_copyi (C : CX V A own cc nL ret Ts p s m args meth c) {index : Nat} (h1 : Cond.methodLink own index arraycopyName ∈ Ts) (h2 : Cond.native arraycopyName ∈ Ts) (h3 : Cond.static arraycopyName ∈ Ts) (h4 : Cond.initialized "java/lang/System" ∈ Ts) (k0 k1 : Nat) (hk0 : k0 < n) (hk1 : k1 < n) {n0 n1 : Nat} {f g : Nat → Int32} (he0 : el k0 = .inl (V.2 0, n0, .inl f)) (he1 : el k1 = .inl (V.2 0, n1, .inl g)) (sp dp N : Nat) {xs xd xn : Int32} (hxs : xs = nI sp) (hxd : xd = nI dp) (hxn : xn = nI N) (hb0 : sp + N ≤ n0) (hb1 : dp + N ≤ n1) (hN0 : n0 < 2 ^ 31) (hN1 : n1 < 2 ^ 31) (hf : 1 ≤ R.frames) (hlo : (st.map fun v => v.category).sum + (nativeFrameWords "java/lang/System" "arraycopy" 5 + 11) ≤ R.locals) (hdg : decode cc pc = .ok (.invokestatic index, 3))
    (kk : ∀ el' : Nat → va_E, el' k1 = .inl (V.2 0, n1, .inl (va_cpy f g sp dp N)) → (∀ j, j ≠ k1 → el' j = el j) → GW p l e R s m args below meth c V A nL Q n ad el' cells slots (pc + 3) lv st) : GW p l e R s m args below meth c V A nL Q n ad el cells slots pc lv (.int xn :: .int xd :: .ref (ad k1) :: .int xs :: .ref (ad k0) :: st) := by
  subst hxs; subst hxd; subst hxn
  intro H locs ls hP hD hS hl
  have e1 : (nI sp).toNatClampNeg = sp := nI_clamp (by omega)
  have e2 : (nI dp).toNatClampNeg = dp := nI_clamp (by omega)
  have e3 : (nI N).toNatClampNeg = N := nI_clamp (by omega)
  refine va_copyi (D := V.1) C.x C.b (C.ml.trans hl.1.symm) C.ow (C.ts _ h1) (C.ts _ h2) (C.ts _ h3) (C.ts _ h4) C.k hP hD hS k0 k1 0 0 (wld_at hk0 he0) (wld_at hk1 he1) rfl rfl rfl (nI_pos (by omega)) (nI_pos (by omega)) (nI_pos (by omega)) (by rw [e1, e3]; exact hb0) (by rw [e2, e3]; exact hb1) (fun i _ => rfl) hf hlo hdg (fun H1 locs1 hP1 hD1 hS1 => ?_)
  rw [e1, e2, e3] at hP1 hD1
  exact kk (va_up el k1 _) (va_up_self _ _ _) (fun j hj => va_up_ne _ _ hj) H1 locs1 ls (by rw [← wld_set hk1]; exact hP1) (by rw [← wld_set hk1]; exact hD1) hS1 hl
end GCP
theorem s_pl_1 {x y : Int32} (h : ¬ s_pl x y = 0) : (0 ≤ x ∧ x ≤ 4) ∧ 0 ≤ y ∧ y ≤ 5 := by
  by_cases q : (0 ≤ x ∧ x ≤ 4) ∧ 0 ≤ y ∧ y ≤ 5
  · exact q
  · rw [s_pl, if_neg q] at h; exact absurd rfl h
theorem s_pl_0 {x y : Int32} (h : s_pl x y = 0) : ¬ ((0 ≤ x ∧ x ≤ 4) ∧ 0 ≤ y ∧ y ≤ 5) := by
  intro q
  rw [s_pl, if_pos q] at h
  exact absurd h (by decide)
theorem strike_add (st we : Int32) : we + (if we ≤ st then 1 else 0) = s_strike st we := by
  unfold s_strike
  split
  · rfl
  · exact Int32.add_zero we
theorem enc_rem9 {f t : Int32} (h : F32 f) : enc f t - enc f t / 32 * 32 = f := enc_rem h
theorem enc_1 {f t : Int32} (h : t = 0) : enc f t + 32 = enc f 1 := by
  rw [enc_t0 f h]; rfl

set_option maxHeartbeats 4000000 in
set_option maxRecDepth 100000 in
theorem c_X5_fit (l : Launch) (V : gT) {n : Nat} {ad : Nat → Nat} {el : Nat → va_E} {thr : Int32} {cnt : Nat} {M St We pl sh : Nat → Int32} {F T : Nat → Nat → Int32} (hn : 92 ≤ n) (hc : cnt ≤ 20) (h : X5At V ad el thr cnt M St We pl sh F T) (x y : Int32) : TT l V yX5_fit wsX5_fit { frames := 1, cells := 0, slots := 0, locals := 22 } n ad el [.ref (ad 85), .int x, .int y] (QIw V n ad (fun r u => ((∃ i : Nat, i < 7 ∧ x = nI i ∧ (1 ≤ y ∧ y ≤ 500) ∧ r = We i ∧ X5At V ad u 0 cnt M (upd St i y) (upd We i 0) pl sh F T) ∨ (¬ (0 ≤ x ∧ x ≤ 6) ∧ X5At V ad u 1 cnt M St We pl sh F T) ∨ (((0 ≤ x ∧ x ≤ 6) ∧ ¬ (1 ≤ y ∧ y ≤ 500)) ∧ X5At V ad u 2 cnt M St We pl sh F T)) ∧ ∀ j, (j < 85 ∨ 92 ≤ j) → u j = el j)) 0 0 := by
  refine TT.body (cc := cX5_fit) (maxL := 4) (ret := (some .int)) (by decide) rfl (Nat.le_of_ble_eq_true rfl) ?_
  intro p e s m below meth c C hnm
  refine g_lv [0, 1, 2] (lv' := [(0, .ref (ad 85)), (1, .int x), (2, .int y)]) rfl ?_
  obtain ⟨m1, ⟨g16, m2, r9⟩, ⟨g17, m3, r10⟩, ⟨g18, m4, r11⟩, ⟨g19, m5, r12⟩, ⟨g20, m6, r13⟩, ⟨g21, m7, r14⟩⟩ := id h
  refine g_aload_n C 0 rfl dX5_fit_0 ?_
  refine g_iconst C (v := nI 0) dX5_fit_1 (by decide) ?_
  refine g_putf C 85 (by omega) m1 rfl 0 (by decide) (fun w h => (List.mem_cons_of_mem _ (List.mem_append_right _ h))) tyX5 tyX5_ok nmX5 (List.mem_of_getElem? (i := 1) rfl) rfl rfl rfl rfl (Nat.le_of_ble_eq_true rfl) dX5_fit_2 (fun el22 e23 o24 => ?_)
  replace e23 : el22 85 = .inr (5, [.int (nI 0), .int (nI cnt), .ref (ad 86), .ref (ad 87), .ref (ad 88), .ref (ad 89), .ref (ad 90), .ref (ad 91)]) := e23
  have m25 := (o24 86 (by omega)).trans m2
  have m26 := (o24 87 (by omega)).trans m3
  have m27 := (o24 88 (by omega)).trans m4
  have m28 := (o24 89 (by omega)).trans m5
  have m29 := (o24 90 (by omega)).trans m6
  have m30 := (o24 91 (by omega)).trans m7
  refine g_iload_n C 1 rfl dX5_fit_5 ?_
  refine g_iconst C (v := nI 0) dX5_fit_6 (by decide) ?_
  refine g_bipush C (v := nI 6) dX5_fit_7 (by decide) ?_
  refine g_calli C (r_S C (st := []) (c_X5_isIn l V x 0 6) (va_cwS 3 C.ts gX5_fit_X5_isIn rfl rfl rfl (by decide +kernel) ⟨(Nat.le_of_ble_eq_true rfl), (Nat.le_of_ble_eq_true rfl)⟩) rfl rfl (Nat.le_of_ble_eq_true rfl) dX5_fit_9 ⟨(Nat.le_of_ble_eq_true rfl), (Nat.le_of_ble_eq_true rfl)⟩) (fun r u hu => ?_)
  subst hu
  refine g_if_ne C (tgt := 21) dX5_fit_12 (by decide) (fun c12 => ?_) (fun c12 => ?_)
  · -- 21
    refine g_iload_n C 2 rfl dX5_fit_21 ?_
    refine g_iconst C (v := nI 1) dX5_fit_22 (by decide) ?_
    refine g_sipush C (v := nI 500) dX5_fit_23 (by decide) ?_
    refine g_calli C (r_S C (st := []) (c_X5_isIn l V y 1 500) (va_cwS 3 C.ts gX5_fit_X5_isIn rfl rfl rfl (by decide +kernel) ⟨(Nat.le_of_ble_eq_true rfl), (Nat.le_of_ble_eq_true rfl)⟩) rfl rfl (Nat.le_of_ble_eq_true rfl) dX5_fit_26 ⟨(Nat.le_of_ble_eq_true rfl), (Nat.le_of_ble_eq_true rfl)⟩) (fun r u hu => ?_)
    subst hu
    refine g_if_ne C (tgt := 38) dX5_fit_29 (by decide) (fun c29 => ?_) (fun c29 => ?_)
    · -- 38
      obtain ⟨i, hi, rfl⟩ := in_nat 6 (s_in_1 c12) (by decide)
      have hi : i < 7 := by omega
      refine g_aload_n C 0 rfl dX5_fit_38 ?_
      refine g_getf C 85 (by omega) e23 rfl 5 (by decide) (fun w h => (List.mem_cons_of_mem _ (List.mem_append_right _ h))) (List.mem_of_getElem? (i := 2) rfl) rfl rfl dX5_fit_39 ?_
      refine g_iload_n C 1 rfl dX5_fit_42 ?_
      refine g_iald C 89 (by omega) m28 i rfl (by omega) (by decide) dX5_fit_43 ?_
      refine g_top (r12 i (by omega) : g19 i = We i) ?_
      refine g_istore_n C (lv' := [(3, .int (We i)), (0, .ref (ad 85)), (1, .int (nI i)), (2, .int y)]) dX5_fit_44 (by decide) rfl ?_
      refine g_aload_n C 1 rfl dX5_fit_45 ?_
      refine g_getf C 85 (by omega) e23 rfl 5 (by decide) (fun w h => (List.mem_cons_of_mem _ (List.mem_append_right _ h))) (List.mem_of_getElem? (i := 2) rfl) rfl rfl dX5_fit_46 ?_
      refine g_iload_n C 2 rfl dX5_fit_49 ?_
      refine g_iconst C (v := nI 0) dX5_fit_50 (by decide) ?_
      refine g_iast C 89 (by omega) m28 i rfl (by omega) (by decide) dX5_fit_51 (fun el31 e32 o33 => ?_)
      have r34 : ∀ j, j < 7 → upd g19 i (nI 0) j = (upd We i 0) j := upd_rel r12 i _
      have m35 := (o33 86 (by omega)).trans m25
      have m36 := (o33 87 (by omega)).trans m26
      have m37 := (o33 88 (by omega)).trans m27
      have m38 := (o33 90 (by omega)).trans m29
      have m39 := (o33 91 (by omega)).trans m30
      have m40 := (o33 85 (by omega)).trans e23
      refine g_aload_n C 1 rfl dX5_fit_52 ?_
      refine g_getf C 85 (by omega) m40 rfl 4 (by decide) (fun w h => (List.mem_cons_of_mem _ (List.mem_append_right _ h))) (List.mem_of_getElem? (i := 3) rfl) rfl rfl dX5_fit_53 ?_
      refine g_iload_n C 2 rfl dX5_fit_56 ?_
      refine g_iload_n C 3 rfl dX5_fit_57 ?_
      refine g_iast C 88 (by omega) m37 i rfl (by omega) (by decide) dX5_fit_58 (fun el41 e42 o43 => ?_)
      have r44 : ∀ j, j < 7 → upd g18 i (y) j = (upd St i y) j := upd_rel r11 i _
      have m45 := (o43 86 (by omega)).trans m35
      have m46 := (o43 87 (by omega)).trans m36
      have m47 := (o43 90 (by omega)).trans m38
      have m48 := (o43 91 (by omega)).trans m39
      have m49 := (o43 85 (by omega)).trans m40
      have m50 := (o43 89 (by omega)).trans e32
      refine g_iload_n C 0 rfl dX5_fit_59 ?_
      exact g_iret C rfl dX5_fit_60 el41 rfl rfl rfl ⟨Or.inl ⟨i, hi, rfl, s_in_1 c29, rfl, ⟨m49, ⟨_, m45, r9⟩, ⟨_, m46, r10⟩, ⟨_, e42, r44⟩, ⟨_, m50, r34⟩, ⟨_, m47, r13⟩, ⟨_, m48, r14⟩⟩⟩, fun j hj => (o43 j (by omega)).trans ((o33 j (by omega)).trans ((o24 j (by omega)).trans (rfl)))⟩ (Nat.le_of_ble_eq_true rfl) (Nat.le_of_ble_eq_true rfl)
    · -- 32
      refine g_aload_n C 0 rfl dX5_fit_32 ?_
      refine g_iconst C (v := nI 2) dX5_fit_33 (by decide) ?_
      refine g_calli C (r_V C (st := []) (c_X5_fail l V (by omega) (by omega) ⟨e23, ⟨_, m25, r9⟩, ⟨_, m26, r10⟩, ⟨_, m27, r11⟩, ⟨_, m28, r12⟩, ⟨_, m29, r13⟩, ⟨_, m30, r14⟩⟩ 2) (cwV 1 C.ts gX5_fit_X5_fail rfl rfl rfl (by decide +kernel) ⟨(Nat.le_of_ble_eq_true rfl), (Nat.le_of_ble_eq_true rfl)⟩) (by omega) e23 rfl rfl rfl (Nat.le_of_ble_eq_true rfl) dX5_fit_34 ⟨(Nat.le_of_ble_eq_true rfl), (Nat.le_of_ble_eq_true rfl)⟩) (fun r9 u hu => ?_)
      exact g_iret C rfl dX5_fit_37 u rfl rfl rfl ⟨Or.inr (Or.inr (⟨⟨s_in_1 c12, s_in_0 c29⟩, hu.2.1⟩)), fun j hj => (hu.2.2 j (by omega)).trans ((o24 j (by omega)).trans (rfl))⟩ (Nat.le_of_ble_eq_true rfl) (Nat.le_of_ble_eq_true rfl)
  · -- 15
    refine g_aload_n C 0 rfl dX5_fit_15 ?_
    refine g_iconst C (v := nI 1) dX5_fit_16 (by decide) ?_
    refine g_calli C (r_V C (st := []) (c_X5_fail l V (by omega) (by omega) ⟨e23, ⟨_, m25, r9⟩, ⟨_, m26, r10⟩, ⟨_, m27, r11⟩, ⟨_, m28, r12⟩, ⟨_, m29, r13⟩, ⟨_, m30, r14⟩⟩ 1) (cwV 1 C.ts gX5_fit_X5_fail rfl rfl rfl (by decide +kernel) ⟨(Nat.le_of_ble_eq_true rfl), (Nat.le_of_ble_eq_true rfl)⟩) (by omega) e23 rfl rfl rfl (Nat.le_of_ble_eq_true rfl) dX5_fit_17 ⟨(Nat.le_of_ble_eq_true rfl), (Nat.le_of_ble_eq_true rfl)⟩) (fun r9 u hu => ?_)
    exact g_iret C rfl dX5_fit_20 u rfl rfl rfl ⟨Or.inr (Or.inl (⟨s_in_0 c12, hu.2.1⟩)), fun j hj => (hu.2.2 j (by omega)).trans ((o24 j (by omega)).trans (rfl))⟩ (Nat.le_of_ble_eq_true rfl) (Nat.le_of_ble_eq_true rfl)

set_option maxHeartbeats 4000000 in
set_option maxRecDepth 100000 in
theorem c_X5_turn (l : Launch) (V : gT) {n : Nat} {ad : Nat → Nat} {el : Nat → va_E} {thr : Int32} {cnt : Nat} {M St We pl sh : Nat → Int32} {F T : Nat → Nat → Int32} (hn : 92 ≤ n) (hc : cnt ≤ 20) (h : X5At V ad el thr cnt M St We pl sh F T) (x y : Int32) : TT l V yX5_turn wsX5_turn { frames := 2, cells := 0, slots := 0, locals := 43 } n ad el [.ref (ad 85), .int x, .int y] (QIw V n ad (fun z u => ((∃ r cl : Nat, r < 5 ∧ cl < 6 ∧ x = nI r ∧ y = nI cl ∧ z = (if pl (6 * r + cl) = 0 then 1 else 0) ∧ X5At V ad u 0 cnt M St We (upd pl (6 * r + cl) (if pl (6 * r + cl) = 0 then 1 else 0)) sh F T) ∨ (¬ ((0 ≤ x ∧ x ≤ 4) ∧ 0 ≤ y ∧ y ≤ 5) ∧ X5At V ad u 1 cnt M St We pl sh F T)) ∧ ∀ j, (j < 85 ∨ 92 ≤ j) → u j = el j)) 0 0 := by
  refine TT.body (cc := cX5_turn) (maxL := 3) (ret := (some .boolean)) (by decide) rfl (Nat.le_of_ble_eq_true rfl) ?_
  intro p e s m below meth c C hnm
  refine g_lv [0, 1, 2] (lv' := [(0, .ref (ad 85)), (1, .int x), (2, .int y)]) rfl ?_
  obtain ⟨m1, ⟨g16, m2, r9⟩, ⟨g17, m3, r10⟩, ⟨g18, m4, r11⟩, ⟨g19, m5, r12⟩, ⟨g20, m6, r13⟩, ⟨g21, m7, r14⟩⟩ := id h
  refine g_aload_n C 0 rfl dX5_turn_0 ?_
  refine g_iload_n C 1 rfl dX5_turn_1 ?_
  refine g_iload_n C 2 rfl dX5_turn_2 ?_
  refine g_calli C (r_S C (st := [.ref (ad 85)]) (c_X5_isPlace l V x y) (va_cwS 2 C.ts gX5_turn_X5_isPlace rfl rfl rfl (by decide +kernel) ⟨(Nat.le_of_ble_eq_true rfl), (Nat.le_of_ble_eq_true rfl)⟩) rfl rfl (Nat.le_of_ble_eq_true rfl) dX5_turn_3 ⟨(Nat.le_of_ble_eq_true rfl), (Nat.le_of_ble_eq_true rfl)⟩) (fun r u hu => ?_)
  subst hu
  refine g_if_eq C (tgt := 13) dX5_turn_6 (by decide) (fun c6 => ?_) (fun c6 => ?_)
  · -- 13
    refine g_iconst C (v := nI 1) dX5_turn_13 (by decide) ?_
    refine g_putf C 85 (by omega) m1 rfl 0 (by decide) (fun w h => (List.mem_cons_of_mem _ (List.mem_append_right _ h))) tyX5 tyX5_ok nmX5 (List.mem_of_getElem? (i := 1) rfl) rfl rfl rfl rfl (Nat.le_of_ble_eq_true rfl) dX5_turn_14 (fun el22 e23 o24 => ?_)
    replace e23 : el22 85 = .inr (5, [.int (nI 1), .int (nI cnt), .ref (ad 86), .ref (ad 87), .ref (ad 88), .ref (ad 89), .ref (ad 90), .ref (ad 91)]) := e23
    have m25 := (o24 86 (by omega)).trans m2
    have m26 := (o24 87 (by omega)).trans m3
    have m27 := (o24 88 (by omega)).trans m4
    have m28 := (o24 89 (by omega)).trans m5
    have m29 := (o24 90 (by omega)).trans m6
    have m30 := (o24 91 (by omega)).trans m7
    refine g_aload_n C 0 rfl dX5_turn_17 ?_
    refine g_getf C 85 (by omega) e23 rfl 0 (by decide) (fun w h => (List.mem_cons_of_mem _ (List.mem_append_right _ h))) (List.mem_of_getElem? (i := 1) rfl) rfl rfl dX5_turn_18 ?_
    refine g_if_eq C (tgt := 26) dX5_turn_21 (by decide) (fun c21 => ?_) (fun c21 => ?_)
    · -- 26
      exact absurd c21 (by decide)
    · -- 24
      refine g_iconst C (v := nI 0) dX5_turn_24 (by decide) ?_
      exact g_zret C rfl rfl dX5_turn_25 el22 rfl rfl rfl ⟨Or.inr ⟨s_pl_0 c6, ⟨e23, ⟨_, m25, r9⟩, ⟨_, m26, r10⟩, ⟨_, m27, r11⟩, ⟨_, m28, r12⟩, ⟨_, m29, r13⟩, ⟨_, m30, r14⟩⟩⟩, fun j hj => (o24 j (by omega)).trans (rfl)⟩ (Nat.le_of_ble_eq_true rfl) (Nat.le_of_ble_eq_true rfl)
  · -- 9
    refine g_iconst C (v := nI 0) dX5_turn_9 (by decide) ?_
    refine g_goto C (tgt := 14) dX5_turn_10 (by decide) ?_
    refine g_putf C 85 (by omega) m1 rfl 0 (by decide) (fun w h => (List.mem_cons_of_mem _ (List.mem_append_right _ h))) tyX5 tyX5_ok nmX5 (List.mem_of_getElem? (i := 1) rfl) rfl rfl rfl rfl (Nat.le_of_ble_eq_true rfl) dX5_turn_14 (fun el31 e32 o33 => ?_)
    replace e32 : el31 85 = .inr (5, [.int (nI 0), .int (nI cnt), .ref (ad 86), .ref (ad 87), .ref (ad 88), .ref (ad 89), .ref (ad 90), .ref (ad 91)]) := e32
    have m34 := (o33 86 (by omega)).trans m2
    have m35 := (o33 87 (by omega)).trans m3
    have m36 := (o33 88 (by omega)).trans m4
    have m37 := (o33 89 (by omega)).trans m5
    have m38 := (o33 90 (by omega)).trans m6
    have m39 := (o33 91 (by omega)).trans m7
    refine g_aload_n C 0 rfl dX5_turn_17 ?_
    refine g_getf C 85 (by omega) e32 rfl 0 (by decide) (fun w h => (List.mem_cons_of_mem _ (List.mem_append_right _ h))) (List.mem_of_getElem? (i := 1) rfl) rfl rfl dX5_turn_18 ?_
    refine g_if_eq C (tgt := 26) dX5_turn_21 (by decide) (fun c21 => ?_) (fun c21 => ?_)
    · -- 26
      obtain ⟨r, hr, rfl⟩ := in_nat 4 (s_pl_1 c6).1 (by decide)
      obtain ⟨cl, hcl, rfl⟩ := in_nat 5 (s_pl_1 c6).2 (by decide)
      have hr : r < 5 := by omega
      have hcl : cl < 6 := by omega
      refine g_aload_n C 0 rfl dX5_turn_26 ?_
      refine g_getf C 85 (by omega) e32 rfl 6 (by decide) (fun w h => (List.mem_cons_of_mem _ (List.mem_append_right _ h))) (List.mem_of_getElem? (i := 2) rfl) rfl rfl dX5_turn_27 ?_
      refine g_bipush C (v := nI 6) dX5_turn_30 (by decide) ?_
      refine g_iload_n C 1 rfl dX5_turn_32 ?_
      refine g_imul C (v := nI (6 * r)) dX5_turn_33 (pk_mul _ _) ?_
      refine g_iload_n C 2 rfl dX5_turn_34 ?_
      refine g_iadd C (v := nI ((6 * r) + cl)) dX5_turn_35 (nI_add _ _) ?_
      refine g_aload_n C 0 rfl dX5_turn_36 ?_
      refine g_getf C 85 (by omega) e32 rfl 6 (by decide) (fun w h => (List.mem_cons_of_mem _ (List.mem_append_right _ h))) (List.mem_of_getElem? (i := 2) rfl) rfl rfl dX5_turn_37 ?_
      refine g_bipush C (v := nI 6) dX5_turn_40 (by decide) ?_
      refine g_iload_n C 1 rfl dX5_turn_42 ?_
      refine g_imul C (v := nI (6 * r)) dX5_turn_43 (pk_mul _ _) ?_
      refine g_iload_n C 2 rfl dX5_turn_44 ?_
      refine g_iadd C (v := nI ((6 * r) + cl)) dX5_turn_45 (nI_add _ _) ?_
      refine g_zald C 90 (by omega) m38 ((6 * r) + cl) rfl (by omega) (by decide) dX5_turn_46 ?_
      refine g_top (r13 ((6 * r) + cl) (by omega) : g20 ((6 * r) + cl) = pl ((6 * r) + cl)) ?_
      refine g_via (fun v : Int32 => v = if pl (6 * r + cl) = 0 then 1 else 0) 55 (fun _ => [(0, .ref (ad 85)), (1, .int (nI r)), (2, .int (nI cl))]) (fun v => .int v :: [.int (nI ((6 * r) + cl)), .ref (ad 90)]) (fun v hv => ?_) (fun J => ?_)
      · -- join
        subst hv
        refine g_zast C 90 (by omega) m38 ((6 * r) + cl) rfl (by omega) (by decide) (if01_nar _ _) dX5_turn_55 (fun el40 e41 o42 => ?_)
        have r43 : ∀ j, j < 30 → upd g20 ((6 * r) + cl) (if pl (6 * r + cl) = 0 then 1 else 0) j = (upd pl ((6 * r) + cl) (if pl (6 * r + cl) = 0 then 1 else 0)) j := upd_rel r13 ((6 * r) + cl) _
        have m44 := (o42 86 (by omega)).trans m34
        have m45 := (o42 87 (by omega)).trans m35
        have m46 := (o42 88 (by omega)).trans m36
        have m47 := (o42 89 (by omega)).trans m37
        have m48 := (o42 91 (by omega)).trans m39
        have m49 := (o42 85 (by omega)).trans e32
        refine g_aload_n C 0 rfl dX5_turn_56 ?_
        refine g_getf C 85 (by omega) m49 rfl 6 (by decide) (fun w h => (List.mem_cons_of_mem _ (List.mem_append_right _ h))) (List.mem_of_getElem? (i := 2) rfl) rfl rfl dX5_turn_57 ?_
        refine g_bipush C (v := nI 6) dX5_turn_60 (by decide) ?_
        refine g_iload_n C 1 rfl dX5_turn_62 ?_
        refine g_imul C (v := nI (6 * r)) dX5_turn_63 (pk_mul _ _) ?_
        refine g_iload_n C 2 rfl dX5_turn_64 ?_
        refine g_iadd C (v := nI ((6 * r) + cl)) dX5_turn_65 (nI_add _ _) ?_
        refine g_zald C 90 (by omega) e41 ((6 * r) + cl) rfl (by omega) (by decide) dX5_turn_66 ?_
        refine g_top (r43 ((6 * r) + cl) (by omega) : (upd g20 ((6 * r) + cl) (if pl (6 * r + cl) = 0 then 1 else 0)) ((6 * r) + cl) = ((upd pl ((6 * r) + cl) (if pl (6 * r + cl) = 0 then 1 else 0))) ((6 * r) + cl)) ?_
        exact g_zret C rfl (by rw [pk_us]; exact if01_nr _ _) dX5_turn_67 el40 rfl rfl rfl ⟨Or.inl ⟨r, cl, hr, hcl, rfl, rfl, pk_us, ⟨m49, ⟨_, m44, r9⟩, ⟨_, m45, r10⟩, ⟨_, m46, r11⟩, ⟨_, m47, r12⟩, ⟨_, e41, r43⟩, ⟨_, m48, r14⟩⟩⟩, fun j hj => (o42 j (by omega)).trans ((o33 j (by omega)).trans (rfl))⟩ (Nat.le_of_ble_eq_true rfl) (Nat.le_of_ble_eq_true rfl)
      · -- ways
        refine g_if_ne C (tgt := 54) dX5_turn_47 (by decide) (fun c47 => ?_) (fun c47 => ?_)
        · -- 54
          refine g_iconst C (v := nI 0) dX5_turn_54 (by decide) ?_
          exact J _ ((if_neg c47).symm)
        · -- 50
          refine g_iconst C (v := nI 1) dX5_turn_50 (by decide) ?_
          refine g_goto C (tgt := 55) dX5_turn_51 (by decide) ?_
          exact J _ ((if_pos c47).symm)
    · -- 24
      exact absurd rfl c21

set_option maxHeartbeats 4000000 in
set_option maxRecDepth 100000 in
theorem c_X5_runRow (l : Launch) (V : gT) {n : Nat} {ad : Nat → Nat} {el : Nat → va_E} {thr : Int32} {cnt : Nat} {M St We pl sh : Nat → Int32} {F T : Nat → Nat → Int32} (hn : 92 ≤ n) (hc : cnt ≤ 20) (h : X5At V ad el thr cnt M St We pl sh F T) (hstep : 0 < M 4) (r : Nat) (hr : r < 5) : TT l V yX5_runRow wsX5_runRow { frames := 1, cells := 0, slots := 0, locals := 22 } n ad el [.ref (ad 85), .int (nI r)] (QVw V n ad (fun u => ∃ sh1 : Nat → Int32, X5At V ad u thr cnt (s_rowM M) St (s_rowW St We) pl sh1 F T ∧ (∀ q, q < 6 → sh1 (6 * r + q) = s_stamp (s_err M) St We pl r q) ∧ (∀ j, j < 6 * r → sh1 j = sh j) ∧ ∀ j, (j < 85 ∨ 92 ≤ j) → u j = el j)) 0 0 := by
  refine TT.body (cc := cX5_runRow) (maxL := 4) (ret := none) (by decide) rfl (Nat.le_of_ble_eq_true rfl) ?_
  intro p e s m below meth c C hnm
  refine g_lv [0, 1] (lv' := [(0, .ref (ad 85)), (1, .int (nI r))]) rfl ?_
  obtain ⟨m1, ⟨g16, m2, r9⟩, ⟨g17, m3, r10⟩, ⟨g18, m4, r11⟩, ⟨g19, m5, r12⟩, ⟨g20, m6, r13⟩, ⟨g21, m7, r14⟩⟩ := id h
  refine g_aload_n C 0 rfl dX5_runRow_0 ?_
  refine g_getf C 85 (by omega) m1 rfl 3 (by decide) (fun w h => (List.mem_cons_of_mem _ (List.mem_append_right _ h))) (List.mem_of_getElem? (i := 1) rfl) rfl rfl dX5_runRow_1 ?_
  refine g_iconst C (v := nI 2) dX5_runRow_4 (by decide) ?_
  refine g_dup2 C dX5_runRow_5 rfl rfl ?_
  refine g_iald C 87 (by omega) m3 2 rfl (by omega) (by decide) dX5_runRow_6 ?_
  refine g_top (r10 2 (by omega) : g17 2 = M 2) ?_
  refine g_aload_n C 0 rfl dX5_runRow_7 ?_
  refine g_getf C 85 (by omega) m1 rfl 3 (by decide) (fun w h => (List.mem_cons_of_mem _ (List.mem_append_right _ h))) (List.mem_of_getElem? (i := 1) rfl) rfl rfl dX5_runRow_8 ?_
  refine g_iconst C (v := nI 0) dX5_runRow_11 (by decide) ?_
  refine g_iald C 87 (by omega) m3 0 rfl (by omega) (by decide) dX5_runRow_12 ?_
  refine g_top (r10 0 (by omega) : g17 0 = M 0) ?_
  refine g_bipush C (v := nI 20) dX5_runRow_13 (by decide) ?_
  refine g_isub C (v := (M 0) - 20) dX5_runRow_15 rfl ?_
  refine g_iadd C (v := (M 2) + ((M 0) - 20)) dX5_runRow_16 rfl ?_
  refine g_iast C 87 (by omega) m3 2 rfl (by omega) (by decide) dX5_runRow_17 (fun el22 e23 o24 => ?_)
  have r25 : ∀ j, j < 6 → upd g17 2 ((M 2) + ((M 0) - 20)) j = (s_err M) j := upd_rel r10 2 _
  have m26 := (o24 85 (by omega)).trans m1
  have m27 := (o24 86 (by omega)).trans m2
  have m28 := (o24 88 (by omega)).trans m4
  have m29 := (o24 89 (by omega)).trans m5
  have m30 := (o24 90 (by omega)).trans m6
  have m31 := (o24 91 (by omega)).trans m7
  refine g_aload_n C 0 rfl dX5_runRow_18 ?_
  refine g_getf C 85 (by omega) m26 rfl 3 (by decide) (fun w h => (List.mem_cons_of_mem _ (List.mem_append_right _ h))) (List.mem_of_getElem? (i := 1) rfl) rfl rfl dX5_runRow_19 ?_
  refine g_iconst C (v := nI 2) dX5_runRow_22 (by decide) ?_
  refine g_iald C 87 (by omega) e23 2 rfl (by omega) (by decide) dX5_runRow_23 ?_
  refine g_top (r25 2 (by omega) : (upd g17 2 ((M 2) + ((M 0) - 20))) 2 = ((s_err M)) 2) ?_
  refine g_bipush C (v := (-6)) dX5_runRow_24 (by decide) ?_
  refine g_bipush C (v := nI 6) dX5_runRow_26 (by decide) ?_
  refine g_calli C (r_S C (st := []) (c_X5_isIn l V (((s_err M)) 2) ((-6)) 6) (va_cwS 3 C.ts gX5_runRow_X5_isIn rfl rfl rfl (by decide +kernel) ⟨(Nat.le_of_ble_eq_true rfl), (Nat.le_of_ble_eq_true rfl)⟩) rfl rfl (Nat.le_of_ble_eq_true rfl) dX5_runRow_28 ⟨(Nat.le_of_ble_eq_true rfl), (Nat.le_of_ble_eq_true rfl)⟩) (fun r u hu => ?_)
  subst hu
  refine g_via (fun v : Int32 => v = s_offF (s_err M)) 39 (fun _ => [(0, .ref (ad 85)), (1, .int (nI r))]) (fun v => .int v :: []) (fun v hv => ?_) (fun J => ?_)
  · -- join
    subst hv
    refine g_istore_n C (lv' := [(2, .int (s_offF (s_err M))), (0, .ref (ad 85)), (1, .int (nI r))]) dX5_runRow_39 (by decide) rfl ?_
    refine g_iconst C (v := nI 0) dX5_runRow_40 (by decide) ?_
    refine g_istore_n C (lv' := [(3, .int (nI 0)), (2, .int (s_offF (s_err M))), (0, .ref (ad 85)), (1, .int (nI r))]) dX5_runRow_41 (by decide) rfl ?_
    refine g_lv [0, 1, 2, 3] (lv' := [(3, .int (nI 0)), (2, .int (s_offF (s_err M))), (0, .ref (ad 85)), (1, .int (nI r))]) rfl ?_
    refine g_forE 6 (fun (i : Nat) => [(3, .int (nI i)), (2, .int (s_offF (s_err M))), (0, .ref (ad 85)), (1, .int (nI r))]) (fun i el1 => ∃ sh1 : Nat → Int32, X5At V ad el1 thr cnt (s_err M) St We pl sh1 F T ∧ (∀ q, q < i → sh1 (6 * r + q) = s_stamp (s_err M) St We pl r q) ∧ (∀ j, j < 6 * r → sh1 j = sh j) ∧ ∀ j, (j < 85 ∨ 92 ≤ j) → el1 j = el j) ⟨sh, ⟨m26, ⟨_, m27, r9⟩, ⟨_, e23, r25⟩, ⟨_, m28, r11⟩, ⟨_, m29, r12⟩, ⟨_, m30, r13⟩, ⟨_, m31, r14⟩⟩, fun q hq => absurd hq (by omega), fun j _ => rfl, fun j hj => (o24 j (by omega)).trans (rfl)⟩ (fun el1 h1 => ?_) (fun i el1 hi h1 ih => ?_)
    · -- loop 42: its end
      obtain ⟨sh1, a1, a2, a3, a4⟩ := id h1
      obtain ⟨m32, ⟨g47, m33, r40⟩, ⟨g48, m34, r41⟩, ⟨g49, m35, r42⟩, ⟨g50, m36, r43⟩, ⟨g51, m37, r44⟩, ⟨g52, m38, r45⟩⟩ := id a1
      refine g_iload_n C 0 rfl dX5_runRow_42 ?_
      refine g_bipush C (v := nI 6) dX5_runRow_43 (by decide) ?_
      refine g_icmp_ge C (tgt := 150) dX5_runRow_45 (by decide) (fun c45 => ?_) (fun c45 => ?_)
      · -- 150
        have c45 : 6 ≤ 6 := (nI_leI (by omega) (by omega)).mp c45
        refine g_iconst C (v := nI 0) dX5_runRow_150 (by decide) ?_
        refine g_istore_n C (lv' := [(3, .int (nI 0)), (2, .int (s_offF (s_err M))), (0, .ref (ad 85)), (1, .int (nI r))]) dX5_runRow_151 (by decide) rfl ?_
        refine g_lv [0, 2] (lv' := [(3, .int (nI 0)), (0, .ref (ad 85))]) rfl ?_
        refine g_forE 7 (fun (i : Nat) => [(3, .int (nI i)), (0, .ref (ad 85))]) (fun i el2 => ∃ w1 : Nat → Int32, X5At V ad el2 thr cnt (s_err M) St w1 pl sh1 F T ∧ (∀ q, q < i → w1 q = s_rowW St We q) ∧ (∀ q, i ≤ q → w1 q = We q) ∧ ∀ j, (j < 85 ∨ 92 ≤ j) → el2 j = el j) ⟨We, ⟨m32, ⟨_, m33, r40⟩, ⟨_, m34, r41⟩, ⟨_, m35, r42⟩, ⟨_, m36, r43⟩, ⟨_, m37, r44⟩, ⟨_, m38, r45⟩⟩, fun q hq => absurd hq (by omega), fun q _ => rfl, fun j hj => a4 j hj⟩ (fun el2 h2 => ?_) (fun i el2 hi h2 ih => ?_)
        · -- loop 152: its end
          obtain ⟨w1, b1, b2, b3, b4⟩ := id h2
          obtain ⟨m53, ⟨g68, m54, r61⟩, ⟨g69, m55, r62⟩, ⟨g70, m56, r63⟩, ⟨g71, m57, r64⟩, ⟨g72, m58, r65⟩, ⟨g73, m59, r66⟩⟩ := id b1
          refine g_iload_n C 0 rfl dX5_runRow_152 ?_
          refine g_bipush C (v := nI 7) dX5_runRow_153 (by decide) ?_
          refine g_icmp_ge C (tgt := 186) dX5_runRow_155 (by decide) (fun c155 => ?_) (fun c155 => ?_)
          · -- 186
            have c155 : 7 ≤ 7 := (nI_leI (by omega) (by omega)).mp c155
            refine g_aload_n C 1 rfl dX5_runRow_186 ?_
            refine g_getf C 85 (by omega) m53 rfl 3 (by decide) (fun w h => (List.mem_cons_of_mem _ (List.mem_append_right _ h))) (List.mem_of_getElem? (i := 1) rfl) rfl rfl dX5_runRow_187 ?_
            refine g_iconst C (v := nI 3) dX5_runRow_190 (by decide) ?_
            refine g_dup2 C dX5_runRow_191 rfl rfl ?_
            refine g_iald C 87 (by omega) m55 3 rfl (by omega) (by decide) dX5_runRow_192 ?_
            refine g_top (r62 3 (by omega) : g69 3 = (s_err M) 3) ?_
            refine g_iconst C (v := nI 1) dX5_runRow_193 (by decide) ?_
            refine g_isub C (v := ((s_err M) 3) - 1) dX5_runRow_194 rfl ?_
            refine g_iast C 87 (by omega) m55 3 rfl (by omega) (by decide) dX5_runRow_195 (fun el74 e75 o76 => ?_)
            have r77 : ∀ j, j < 6 → upd g69 3 (((s_err M) 3) - 1) j = (upd (s_err M) 3 (((s_err M) 3) - 1)) j := upd_rel r62 3 _
            have m78 := (o76 85 (by omega)).trans m53
            have m79 := (o76 86 (by omega)).trans m54
            have m80 := (o76 88 (by omega)).trans m56
            have m81 := (o76 89 (by omega)).trans m57
            have m82 := (o76 90 (by omega)).trans m58
            have m83 := (o76 91 (by omega)).trans m59
            refine g_aload_n C 1 rfl dX5_runRow_196 ?_
            refine g_getf C 85 (by omega) m78 rfl 3 (by decide) (fun w h => (List.mem_cons_of_mem _ (List.mem_append_right _ h))) (List.mem_of_getElem? (i := 1) rfl) rfl rfl dX5_runRow_197 ?_
            refine g_iconst C (v := nI 5) dX5_runRow_200 (by decide) ?_
            refine g_dup2 C dX5_runRow_201 rfl rfl ?_
            refine g_iald C 87 (by omega) e75 5 rfl (by omega) (by decide) dX5_runRow_202 ?_
            refine g_top (r77 5 (by omega) : (upd g69 3 (((s_err M) 3) - 1)) 5 = ((upd (s_err M) 3 (((s_err M) 3) - 1))) 5) ?_
            refine g_iconst C (v := nI 1) dX5_runRow_203 (by decide) ?_
            refine g_iadd C (v := (((upd (s_err M) 3 (((s_err M) 3) - 1))) 5) + 1) dX5_runRow_204 rfl ?_
            refine g_iast C 87 (by omega) e75 5 rfl (by omega) (by decide) dX5_runRow_205 (fun el84 e85 o86 => ?_)
            have r87 : ∀ j, j < 6 → upd (upd g69 3 (((s_err M) 3) - 1)) 5 ((((upd (s_err M) 3 (((s_err M) 3) - 1))) 5) + 1) j = (s_rowM M) j := upd_rel r77 5 _
            have m88 := (o86 85 (by omega)).trans m78
            have m89 := (o86 86 (by omega)).trans m79
            have m90 := (o86 88 (by omega)).trans m80
            have m91 := (o86 89 (by omega)).trans m81
            have m92 := (o86 90 (by omega)).trans m82
            have m93 := (o86 91 (by omega)).trans m83
            have hW9 : ∀ j, j < 7 → g71 j = s_rowW St We j := fun j hj => (r64 j hj).trans (b2 j hj)
            exact g_vret C rfl dX5_runRow_206 el84 rfl rfl rfl ⟨sh1, ⟨m88, ⟨_, m89, r61⟩, ⟨_, e85, r87⟩, ⟨_, m90, r63⟩, ⟨_, m91, hW9⟩, ⟨_, m92, r65⟩, ⟨_, m93, r66⟩⟩, a2, a3, fun j hj => (o86 j (by omega)).trans ((o76 j (by omega)).trans (b4 j hj))⟩ (Nat.le_of_ble_eq_true rfl) (Nat.le_of_ble_eq_true rfl)
          · -- 158
            have c155 : 7 < 7 := Nat.lt_of_not_le (fun z => c155 ((nI_leI (by omega) (by omega)).mpr z))
            exact absurd c155 (by omega)
        · -- loop 152: its body
          obtain ⟨w1, b1, b2, b3, b4⟩ := id h2
          obtain ⟨m94, ⟨g109, m95, r102⟩, ⟨g110, m96, r103⟩, ⟨g111, m97, r104⟩, ⟨g112, m98, r105⟩, ⟨g113, m99, r106⟩, ⟨g114, m100, r107⟩⟩ := id b1
          refine g_iload_n C 0 rfl dX5_runRow_152 ?_
          refine g_bipush C (v := nI 7) dX5_runRow_153 (by decide) ?_
          refine g_icmp_ge C (tgt := 186) dX5_runRow_155 (by decide) (fun c155 => ?_) (fun c155 => ?_)
          · -- 186
            have c155 : 7 ≤ i := (nI_leI (by omega) (by omega)).mp c155
            exact absurd c155 (by omega)
          · -- 158
            have c155 : i < 7 := Nat.lt_of_not_le (fun z => c155 ((nI_leI (by omega) (by omega)).mpr z))
            refine g_aload_n C 1 rfl dX5_runRow_158 ?_
            refine g_getf C 85 (by omega) m94 rfl 5 (by decide) (fun w h => (List.mem_cons_of_mem _ (List.mem_append_right _ h))) (List.mem_of_getElem? (i := 4) rfl) rfl rfl dX5_runRow_159 ?_
            refine g_iload_n C 0 rfl dX5_runRow_162 ?_
            refine g_dup2 C dX5_runRow_163 rfl rfl ?_
            refine g_iald C 89 (by omega) m98 i rfl (by omega) (by decide) dX5_runRow_164 ?_
            refine g_top (r105 i (by omega) : g112 i = w1 i) ?_
            refine g_aload_n C 1 rfl dX5_runRow_165 ?_
            refine g_iload_n C 0 rfl dX5_runRow_166 ?_
            refine g_calli C (r_V C (st := [.int (w1 i), .int (nI i), .ref (ad 89)]) (c_X5_isWhole l V (by omega) (by omega) ⟨m94, ⟨_, m95, r102⟩, ⟨_, m96, r103⟩, ⟨_, m97, r104⟩, ⟨_, m98, r105⟩, ⟨_, m99, r106⟩, ⟨_, m100, r107⟩⟩ i (by omega)) (cwV 1 C.ts gX5_runRow_X5_isWhole rfl rfl rfl (by decide +kernel) ⟨(Nat.le_of_ble_eq_true rfl), (Nat.le_of_ble_eq_true rfl)⟩) (by omega) m94 rfl rfl rfl (Nat.le_of_ble_eq_true rfl) dX5_runRow_167 ⟨(Nat.le_of_ble_eq_true rfl), (Nat.le_of_ble_eq_true rfl)⟩) (fun r u hu => ?_)
            subst hu
            refine g_via (fun v : Int32 => v = if w1 i ≤ St i then 1 else 0) 178 (fun _ => [(3, .int (nI i)), (0, .ref (ad 85))]) (fun v => .int v :: [.int (w1 i), .int (nI i), .ref (ad 89)]) (fun v hv => ?_) (fun J => ?_)
            · -- join
              subst hv
              refine g_iadd C (v := (w1 i) + (if w1 i ≤ St i then 1 else 0)) dX5_runRow_178 rfl ?_
              refine g_iast C 89 (by omega) m98 i rfl (by omega) (by decide) dX5_runRow_179 (fun el115 e116 o117 => ?_)
              have r118 : ∀ j, j < 7 → upd g112 i ((w1 i) + (if w1 i ≤ St i then 1 else 0)) j = (upd w1 i ((w1 i) + (if w1 i ≤ St i then 1 else 0))) j := upd_rel r105 i _
              have m119 := (o117 85 (by omega)).trans m94
              have m120 := (o117 86 (by omega)).trans m95
              have m121 := (o117 87 (by omega)).trans m96
              have m122 := (o117 88 (by omega)).trans m97
              have m123 := (o117 90 (by omega)).trans m99
              have m124 := (o117 91 (by omega)).trans m100
              refine g_iinc C 0 rfl (v := nI (i + 1)) (lv' := [(3, .int (nI (i + 1))), (0, .ref (ad 85))]) dX5_runRow_180 (nI_add _ _) (by decide) rfl ?_
              refine g_goto C (tgt := 152) dX5_runRow_183 (by decide) ?_
              refine g_lv [0, 1] (lv' := [(3, .int (nI (i + 1))), (0, .ref (ad 85))]) rfl ?_
              have e8 : w1 i + (if w1 i ≤ St i then 1 else 0) = s_rowW St We i := by rw [b3 i (by omega)]; exact strike_add _ _
              exact ih _ ⟨_, ⟨m119, ⟨_, m120, r102⟩, ⟨_, m121, r103⟩, ⟨_, m122, r104⟩, ⟨_, e116, r118⟩, ⟨_, m123, r106⟩, ⟨_, m124, r107⟩⟩, fun q hq => by
                  by_cases e : q = i
                  · subst e; exact pk_us.trans e8
                  · exact (pk_un (by omega)).trans (b2 q (by omega)), fun q hq => (pk_un (by omega)).trans (b3 q (by omega)), fun j hj => (o117 j (by omega)).trans (b4 j hj)⟩
            · -- ways
              refine g_if_eq C (tgt := 177) dX5_runRow_170 (by decide) (fun c170 => ?_) (fun c170 => ?_)
              · -- 177
                refine g_iconst C (v := nI 0) dX5_runRow_177 (by decide) ?_
                exact J _ ((if_neg (fun z => by rw [if_pos z] at c170; exact absurd c170 (by decide))).symm)
              · -- 173
                refine g_iconst C (v := nI 1) dX5_runRow_173 (by decide) ?_
                refine g_goto C (tgt := 178) dX5_runRow_174 (by decide) ?_
                exact J _ ((if_pos (Classical.byContradiction (fun z => c170 (if_neg z)))).symm)
      · -- 48
        have c45 : 6 < 6 := Nat.lt_of_not_le (fun z => c45 ((nI_leI (by omega) (by omega)).mpr z))
        exact absurd c45 (by omega)
    · -- loop 42: its body
      obtain ⟨sh1, a1, a2, a3, a4⟩ := id h1
      obtain ⟨m125, ⟨g140, m126, r133⟩, ⟨g141, m127, r134⟩, ⟨g142, m128, r135⟩, ⟨g143, m129, r136⟩, ⟨g144, m130, r137⟩, ⟨g145, m131, r138⟩⟩ := id a1
      refine g_iload_n C 0 rfl dX5_runRow_42 ?_
      refine g_bipush C (v := nI 6) dX5_runRow_43 (by decide) ?_
      refine g_icmp_ge C (tgt := 150) dX5_runRow_45 (by decide) (fun c45 => ?_) (fun c45 => ?_)
      · -- 150
        have c45 : 6 ≤ i := (nI_leI (by omega) (by omega)).mp c45
        exact absurd c45 (by omega)
      · -- 48
        have c45 : i < 6 := Nat.lt_of_not_le (fun z => c45 ((nI_leI (by omega) (by omega)).mpr z))
        refine g_aload_n C 2 rfl dX5_runRow_48 ?_
        refine g_getf C 85 (by omega) m125 rfl 7 (by decide) (fun w h => (List.mem_cons_of_mem _ (List.mem_append_right _ h))) (List.mem_of_getElem? (i := 2) rfl) rfl rfl dX5_runRow_49 ?_
        refine g_bipush C (v := nI 6) dX5_runRow_52 (by decide) ?_
        refine g_iload_n C 3 rfl dX5_runRow_54 ?_
        refine g_imul C (v := nI (6 * r)) dX5_runRow_55 (pk_mul _ _) ?_
        refine g_iload_n C 0 rfl dX5_runRow_56 ?_
        refine g_iadd C (v := nI ((6 * r) + i)) dX5_runRow_57 (nI_add _ _) ?_
        refine g_iload_n C 1 rfl dX5_runRow_58 ?_
        refine g_via (fun v : Int32 => v = s_offF (s_err M)) 67 (fun _ => [(3, .int (nI i)), (2, .int (s_offF (s_err M))), (0, .ref (ad 85)), (1, .int (nI r))]) (fun v => .int v :: [.int (nI ((6 * r) + i)), .ref (ad 91)]) (fun v hv => ?_) (fun J => ?_)
        · -- join
          subst hv
          refine g_aload_n C 2 rfl dX5_runRow_67 ?_
          refine g_iload_n C 0 rfl dX5_runRow_68 ?_
          refine g_calli C (r_V C (st := [.int (s_offF (s_err M)), .int (nI ((6 * r) + i)), .ref (ad 91)]) (c_X5_isWhole l V (by omega) (by omega) ⟨m125, ⟨_, m126, r133⟩, ⟨_, m127, r134⟩, ⟨_, m128, r135⟩, ⟨_, m129, r136⟩, ⟨_, m130, r137⟩, ⟨_, m131, r138⟩⟩ i (by omega)) (cwV 1 C.ts gX5_runRow_X5_isWhole rfl rfl rfl (by decide +kernel) ⟨(Nat.le_of_ble_eq_true rfl), (Nat.le_of_ble_eq_true rfl)⟩) (by omega) m125 rfl rfl rfl (Nat.le_of_ble_eq_true rfl) dX5_runRow_69 ⟨(Nat.le_of_ble_eq_true rfl), (Nat.le_of_ble_eq_true rfl)⟩) (fun r u hu => ?_)
          subst hu
          refine g_via (fun v : Int32 => v = if We i ≤ St i then 0 else 2) 80 (fun _ => [(3, .int (nI i)), (2, .int (s_offF (s_err M))), (0, .ref (ad 85)), (1, .int (nI r))]) (fun v => .int v :: [.int (s_offF (s_err M)), .int (nI ((6 * r) + i)), .ref (ad 91)]) (fun v hv => ?_) (fun J => ?_)
          · -- join
            subst hv
            refine g_ior C (v := (s_offF (s_err M)) ||| (if We i ≤ St i then 0 else 2)) dX5_runRow_80 rfl ?_
            refine g_aload_n C 2 rfl dX5_runRow_81 ?_
            refine g_iload_n C 0 rfl dX5_runRow_82 ?_
            refine g_iconst C (v := nI 1) dX5_runRow_83 (by decide) ?_
            refine g_iadd C (v := nI (i + 1)) dX5_runRow_84 (nI_add _ _) ?_
            refine g_calli C (r_V C (st := [.int ((s_offF (s_err M)) ||| (if We i ≤ St i then 0 else 2)), .int (nI ((6 * r) + i)), .ref (ad 91)]) (c_X5_isWhole l V (by omega) (by omega) ⟨m125, ⟨_, m126, r133⟩, ⟨_, m127, r134⟩, ⟨_, m128, r135⟩, ⟨_, m129, r136⟩, ⟨_, m130, r137⟩, ⟨_, m131, r138⟩⟩ (i + 1) (by omega)) (cwV 1 C.ts gX5_runRow_X5_isWhole rfl rfl rfl (by decide +kernel) ⟨(Nat.le_of_ble_eq_true rfl), (Nat.le_of_ble_eq_true rfl)⟩) (by omega) m125 rfl rfl rfl (Nat.le_of_ble_eq_true rfl) dX5_runRow_85 ⟨(Nat.le_of_ble_eq_true rfl), (Nat.le_of_ble_eq_true rfl)⟩) (fun r u hu => ?_)
            subst hu
            refine g_via (fun v : Int32 => v = if We (i + 1) ≤ St (i + 1) then 0 else 4) 96 (fun _ => [(3, .int (nI i)), (2, .int (s_offF (s_err M))), (0, .ref (ad 85)), (1, .int (nI r))]) (fun v => .int v :: [.int ((s_offF (s_err M)) ||| (if We i ≤ St i then 0 else 2)), .int (nI ((6 * r) + i)), .ref (ad 91)]) (fun v hv => ?_) (fun J => ?_)
            · -- join
              subst hv
              refine g_ior C (v := ((s_offF (s_err M)) ||| (if We i ≤ St i then 0 else 2)) ||| (if We (i + 1) ≤ St (i + 1) then 0 else 4)) dX5_runRow_96 rfl ?_
              refine g_aload_n C 2 rfl dX5_runRow_97 ?_
              refine g_getf C 85 (by omega) m125 rfl 6 (by decide) (fun w h => (List.mem_cons_of_mem _ (List.mem_append_right _ h))) (List.mem_of_getElem? (i := 3) rfl) rfl rfl dX5_runRow_98 ?_
              refine g_bipush C (v := nI 6) dX5_runRow_101 (by decide) ?_
              refine g_iload_n C 3 rfl dX5_runRow_103 ?_
              refine g_imul C (v := nI (6 * r)) dX5_runRow_104 (pk_mul _ _) ?_
              refine g_iload_n C 0 rfl dX5_runRow_105 ?_
              refine g_iadd C (v := nI ((6 * r) + i)) dX5_runRow_106 (nI_add _ _) ?_
              refine g_zald C 90 (by omega) m130 ((6 * r) + i) rfl (by omega) (by decide) dX5_runRow_107 ?_
              refine g_top (r137 ((6 * r) + i) (by omega) : g144 ((6 * r) + i) = pl ((6 * r) + i)) ?_
              refine g_via (fun v : Int32 => v = if pl (6 * r + i) = 0 then 0 else 8) 117 (fun _ => [(3, .int (nI i)), (2, .int (s_offF (s_err M))), (0, .ref (ad 85)), (1, .int (nI r))]) (fun v => .int v :: [.int (((s_offF (s_err M)) ||| (if We i ≤ St i then 0 else 2)) ||| (if We (i + 1) ≤ St (i + 1) then 0 else 4)), .int (nI ((6 * r) + i)), .ref (ad 91)]) (fun v hv => ?_) (fun J => ?_)
              · -- join
                subst hv
                refine g_ior C (v := (((s_offF (s_err M)) ||| (if We i ≤ St i then 0 else 2)) ||| (if We (i + 1) ≤ St (i + 1) then 0 else 4)) ||| (if pl (6 * r + i) = 0 then 0 else 8)) dX5_runRow_117 rfl ?_
                refine g_aload_n C 2 rfl dX5_runRow_118 ?_
                refine g_getf C 85 (by omega) m125 rfl 3 (by decide) (fun w h => (List.mem_cons_of_mem _ (List.mem_append_right _ h))) (List.mem_of_getElem? (i := 1) rfl) rfl rfl dX5_runRow_119 ?_
                refine g_iconst C (v := nI 5) dX5_runRow_122 (by decide) ?_
                refine g_iald C 87 (by omega) m127 5 rfl (by omega) (by decide) dX5_runRow_123 ?_
                refine g_top (r134 5 (by omega) : g141 5 = (s_err M) 5) ?_
                refine g_iload_n C 0 rfl dX5_runRow_124 ?_
                refine g_iadd C (v := ((s_err M) 5) + (nI i)) dX5_runRow_125 rfl ?_
                refine g_aload_n C 2 rfl dX5_runRow_126 ?_
                refine g_getf C 85 (by omega) m125 rfl 3 (by decide) (fun w h => (List.mem_cons_of_mem _ (List.mem_append_right _ h))) (List.mem_of_getElem? (i := 1) rfl) rfl rfl dX5_runRow_127 ?_
                refine g_iconst C (v := nI 4) dX5_runRow_130 (by decide) ?_
                refine g_iald C 87 (by omega) m127 4 rfl (by omega) (by decide) dX5_runRow_131 ?_
                refine g_top (r134 4 (by omega) : g141 4 = (s_err M) 4) ?_
                refine g_irem C (v := (((s_err M) 5) + (nI i)) - (((s_err M) 5) + (nI i)) / ((s_err M) 4) * ((s_err M) 4)) dX5_runRow_132 (fun z => by have h9 := hstep; rw [show M 4 = 0 from z] at h9; exact absurd h9 (by decide)) rfl ?_
                refine g_via (fun v : Int32 => v = if s_err M 5 + nI i - (s_err M 5 + nI i) / s_err M 4 * s_err M 4 = 0 then 0 else 16) 142 (fun _ => [(3, .int (nI i)), (2, .int (s_offF (s_err M))), (0, .ref (ad 85)), (1, .int (nI r))]) (fun v => .int v :: [.int ((((s_offF (s_err M)) ||| (if We i ≤ St i then 0 else 2)) ||| (if We (i + 1) ≤ St (i + 1) then 0 else 4)) ||| (if pl (6 * r + i) = 0 then 0 else 8)), .int (nI ((6 * r) + i)), .ref (ad 91)]) (fun v hv => ?_) (fun J => ?_)
                · -- join
                  subst hv
                  refine g_ior C (v := ((((s_offF (s_err M)) ||| (if We i ≤ St i then 0 else 2)) ||| (if We (i + 1) ≤ St (i + 1) then 0 else 4)) ||| (if pl (6 * r + i) = 0 then 0 else 8)) ||| (if s_err M 5 + nI i - (s_err M 5 + nI i) / s_err M 4 * s_err M 4 = 0 then 0 else 16)) dX5_runRow_142 rfl ?_
                  refine g_top (s_stamp_m (s_err M) St We pl r i hstep) ?_
                  refine g_iast C 91 (by omega) m131 ((6 * r) + i) rfl (by omega) (by decide) dX5_runRow_143 (fun el146 e147 o148 => ?_)
                  have r149 : ∀ j, j < 30 → upd g145 ((6 * r) + i) (s_stamp (s_err M) St We pl r i) j = (upd sh1 ((6 * r) + i) (s_stamp (s_err M) St We pl r i)) j := upd_rel r138 ((6 * r) + i) _
                  have m150 := (o148 85 (by omega)).trans m125
                  have m151 := (o148 86 (by omega)).trans m126
                  have m152 := (o148 87 (by omega)).trans m127
                  have m153 := (o148 88 (by omega)).trans m128
                  have m154 := (o148 89 (by omega)).trans m129
                  have m155 := (o148 90 (by omega)).trans m130
                  refine g_iinc C 0 rfl (v := nI (i + 1)) (lv' := [(3, .int (nI (i + 1))), (2, .int (s_offF (s_err M))), (0, .ref (ad 85)), (1, .int (nI r))]) dX5_runRow_144 (nI_add _ _) (by decide) rfl ?_
                  refine g_goto C (tgt := 42) dX5_runRow_147 (by decide) ?_
                  refine g_lv [0, 1, 2, 3] (lv' := [(3, .int (nI (i + 1))), (2, .int (s_offF (s_err M))), (0, .ref (ad 85)), (1, .int (nI r))]) rfl ?_
                  exact ih _ ⟨_, ⟨m150, ⟨_, m151, r133⟩, ⟨_, m152, r134⟩, ⟨_, m153, r135⟩, ⟨_, m154, r136⟩, ⟨_, m155, r137⟩, ⟨_, e147, r149⟩⟩, fun q hq => by
                      by_cases e : q = i
                      · subst e; exact pk_us
                      · exact (pk_un (by omega)).trans (a2 q (by omega)), fun j hj => (pk_un (by omega)).trans (a3 j hj), fun j hj => (o148 j (by omega)).trans (a4 j hj)⟩
                · -- ways
                  refine g_if_ne C (tgt := 140) dX5_runRow_133 (by decide) (fun c133 => ?_) (fun c133 => ?_)
                  · -- 140
                    refine g_bipush C (v := nI 16) dX5_runRow_140 (by decide) ?_
                    exact J _ ((if_neg c133).symm)
                  · -- 136
                    refine g_iconst C (v := nI 0) dX5_runRow_136 (by decide) ?_
                    refine g_goto C (tgt := 142) dX5_runRow_137 (by decide) ?_
                    exact J _ ((if_pos c133).symm)
              · -- ways
                refine g_if_eq C (tgt := 116) dX5_runRow_108 (by decide) (fun c108 => ?_) (fun c108 => ?_)
                · -- 116
                  refine g_iconst C (v := nI 0) dX5_runRow_116 (by decide) ?_
                  exact J _ ((if_pos c108).symm)
                · -- 111
                  refine g_bipush C (v := nI 8) dX5_runRow_111 (by decide) ?_
                  refine g_goto C (tgt := 117) dX5_runRow_113 (by decide) ?_
                  exact J _ ((if_neg c108).symm)
            · -- ways
              refine g_if_eq C (tgt := 95) dX5_runRow_88 (by decide) (fun c88 => ?_) (fun c88 => ?_)
              · -- 95
                refine g_iconst C (v := nI 4) dX5_runRow_95 (by decide) ?_
                exact J _ ((if_neg (fun z => by rw [if_pos z] at c88; exact absurd c88 (by decide))).symm)
              · -- 91
                refine g_iconst C (v := nI 0) dX5_runRow_91 (by decide) ?_
                refine g_goto C (tgt := 96) dX5_runRow_92 (by decide) ?_
                exact J _ ((if_pos (Classical.byContradiction (fun z => c88 (if_neg z)))).symm)
          · -- ways
            refine g_if_eq C (tgt := 79) dX5_runRow_72 (by decide) (fun c72 => ?_) (fun c72 => ?_)
            · -- 79
              refine g_iconst C (v := nI 2) dX5_runRow_79 (by decide) ?_
              exact J _ ((if_neg (fun z => by rw [if_pos z] at c72; exact absurd c72 (by decide))).symm)
            · -- 75
              refine g_iconst C (v := nI 0) dX5_runRow_75 (by decide) ?_
              refine g_goto C (tgt := 80) dX5_runRow_76 (by decide) ?_
              exact J _ ((if_pos (Classical.byContradiction (fun z => c72 (if_neg z)))).symm)
        · -- ways
          refine g_if_eq C (tgt := 66) dX5_runRow_59 (by decide) (fun c59 => ?_) (fun c59 => ?_)
          · -- 66
            refine g_iconst C (v := nI 0) dX5_runRow_66 (by decide) ?_
            exact J _ (c59.symm)
          · -- 62
            refine g_iconst C (v := nI 1) dX5_runRow_62 (by decide) ?_
            refine g_goto C (tgt := 67) dX5_runRow_63 (by decide) ?_
            exact J _ ((s_offF_1 c59).symm)
  · -- ways
    refine g_if_ne C (tgt := 38) dX5_runRow_31 (by decide) (fun c31 => ?_) (fun c31 => ?_)
    · -- 38
      refine g_iconst C (v := nI 0) dX5_runRow_38 (by decide) ?_
      exact J _ ((if_neg c31).symm)
    · -- 34
      refine g_iconst C (v := nI 1) dX5_runRow_34 (by decide) ?_
      refine g_goto C (tgt := 39) dX5_runRow_35 (by decide) ?_
      exact J _ ((if_pos c31).symm)

set_option maxHeartbeats 4000000 in
set_option maxRecDepth 100000 in
theorem c_X5_runSheet (l : Launch) (V : gT) {n : Nat} {ad : Nat → Nat} {el : Nat → va_E} {thr : Int32} {cnt : Nat} {M St We pl sh : Nat → Int32} {F T : Nat → Nat → Int32} (hn : 92 ≤ n) (hc : cnt ≤ 20) (h : X5At V ad el thr cnt M St We pl sh F T) (hstep : 0 < M 4) : TT l V yX5_runSheet wsX5_runSheet { frames := 2, cells := 0, slots := 0, locals := 45 } n ad el [.ref (ad 85)] (QVw V n ad (fun u => ∃ sh1 : Nat → Int32, X5At V ad u thr cnt (s_end M) St (s_W St We 5) pl sh1 F T ∧ (∀ j, j < 30 → sh1 j = s_fault M St We pl j) ∧ ∀ j, (j < 85 ∨ 92 ≤ j) → u j = el j)) 0 0 := by
  refine TT.body (cc := cX5_runSheet) (maxL := 2) (ret := none) (by decide) rfl (Nat.le_of_ble_eq_true rfl) ?_
  intro p e s m below meth c C hnm
  refine g_lv [0] (lv' := [(0, .ref (ad 85))]) rfl ?_
  obtain ⟨m1, ⟨g16, m2, r9⟩, ⟨g17, m3, r10⟩, ⟨g18, m4, r11⟩, ⟨g19, m5, r12⟩, ⟨g20, m6, r13⟩, ⟨g21, m7, r14⟩⟩ := id h
  refine g_iconst C (v := nI 0) dX5_runSheet_0 (by decide) ?_
  refine g_istore_n C (lv' := [(1, .int (nI 0)), (0, .ref (ad 85))]) dX5_runSheet_1 (by decide) rfl ?_
  refine g_lv [0, 1] (lv' := [(1, .int (nI 0)), (0, .ref (ad 85))]) rfl ?_
  refine g_forE 5 (fun (i : Nat) => [(1, .int (nI i)), (0, .ref (ad 85))]) (fun i el1 => ∃ sh1 : Nat → Int32, X5At V ad el1 thr cnt (s_M M i) St (s_W St We i) pl sh1 F T ∧ (∀ j, j < 6 * i → sh1 j = s_fault M St We pl j) ∧ ∀ j, (j < 85 ∨ 92 ≤ j) → el1 j = el j) ⟨sh, h, fun j hj => absurd hj (by omega), fun j _ => rfl⟩ (fun el1 h1 => ?_) (fun i el1 hi h1 ih => ?_)
  · -- loop 2: its end
    obtain ⟨sh1, a1, a2, a4⟩ := id h1
    obtain ⟨m22, ⟨g37, m23, r30⟩, ⟨g38, m24, r31⟩, ⟨g39, m25, r32⟩, ⟨g40, m26, r33⟩, ⟨g41, m27, r34⟩, ⟨g42, m28, r35⟩⟩ := id a1
    refine g_iload_n C 0 rfl dX5_runSheet_2 ?_
    refine g_iconst C (v := nI 5) dX5_runSheet_3 (by decide) ?_
    refine g_icmp_ge C (tgt := 18) dX5_runSheet_4 (by decide) (fun c4 => ?_) (fun c4 => ?_)
    · -- 18
      have c4 : 5 ≤ 5 := (nI_leI (by omega) (by omega)).mp c4
      refine g_aload_n C 1 rfl dX5_runSheet_18 ?_
      refine g_getf C 85 (by omega) m22 rfl 3 (by decide) (fun w h => (List.mem_cons_of_mem _ (List.mem_append_right _ h))) (List.mem_of_getElem? (i := 1) rfl) rfl rfl dX5_runSheet_19 ?_
      refine g_iconst C (v := nI 0) dX5_runSheet_22 (by decide) ?_
      refine g_bipush C (v := nI 10) dX5_runSheet_23 (by decide) ?_
      refine g_bipush C (v := nI 30) dX5_runSheet_25 (by decide) ?_
      refine g_aload_n C 1 rfl dX5_runSheet_27 ?_
      refine g_getf C 85 (by omega) m22 rfl 3 (by decide) (fun w h => (List.mem_cons_of_mem _ (List.mem_append_right _ h))) (List.mem_of_getElem? (i := 1) rfl) rfl rfl dX5_runSheet_28 ?_
      refine g_iconst C (v := nI 0) dX5_runSheet_31 (by decide) ?_
      refine g_iald C 87 (by omega) m24 0 rfl (by omega) (by decide) dX5_runSheet_32 ?_
      refine g_top (r31 0 (by omega) : g38 0 = (s_M M 5) 0) ?_
      refine g_aload_n C 1 rfl dX5_runSheet_33 ?_
      refine g_getf C 85 (by omega) m22 rfl 3 (by decide) (fun w h => (List.mem_cons_of_mem _ (List.mem_append_right _ h))) (List.mem_of_getElem? (i := 1) rfl) rfl rfl dX5_runSheet_34 ?_
      refine g_iconst C (v := nI 1) dX5_runSheet_37 (by decide) ?_
      refine g_iald C 87 (by omega) m24 1 rfl (by omega) (by decide) dX5_runSheet_38 ?_
      refine g_top (r31 1 (by omega) : g38 1 = (s_M M 5) 1) ?_
      refine g_iadd C (v := ((s_M M 5) 0) + ((s_M M 5) 1)) dX5_runSheet_39 rfl ?_
      refine g_mmin C (v := s_min 30 (((s_M M 5) 0) + ((s_M M 5) 1))) rfl (List.mem_of_getElem? (i := 2) rfl) (List.mem_of_getElem? (i := 3) rfl) (List.mem_of_getElem? (i := 4) rfl) (List.mem_of_getElem? (i := 5) rfl) (Nat.le_of_ble_eq_true rfl) (Nat.le_of_ble_eq_true rfl) (Nat.le_of_ble_eq_true rfl) (Nat.le_of_ble_eq_true rfl) dX5_runSheet_40 ?_
      refine g_mmax C (v := s_max 10 (s_min 30 (((s_M M 5) 0) + ((s_M M 5) 1)))) rfl (List.mem_of_getElem? (i := 6) rfl) (List.mem_of_getElem? (i := 7) rfl) (List.mem_of_getElem? (i := 4) rfl) (List.mem_of_getElem? (i := 8) rfl) (Nat.le_of_ble_eq_true rfl) (Nat.le_of_ble_eq_true rfl) (Nat.le_of_ble_eq_true rfl) (Nat.le_of_ble_eq_true rfl) dX5_runSheet_43 ?_
      refine g_iast C 87 (by omega) m24 0 rfl (by omega) (by decide) dX5_runSheet_46 (fun el43 e44 o45 => ?_)
      have r46 : ∀ j, j < 6 → upd g38 0 (s_max 10 (s_min 30 (((s_M M 5) 0) + ((s_M M 5) 1)))) j = (s_end M) j := upd_rel r31 0 _
      have m47 := (o45 85 (by omega)).trans m22
      have m48 := (o45 86 (by omega)).trans m23
      have m49 := (o45 88 (by omega)).trans m25
      have m50 := (o45 89 (by omega)).trans m26
      have m51 := (o45 90 (by omega)).trans m27
      have m52 := (o45 91 (by omega)).trans m28
      exact g_vret C rfl dX5_runSheet_47 el43 rfl rfl rfl ⟨sh1, ⟨m47, ⟨_, m48, r30⟩, ⟨_, e44, r46⟩, ⟨_, m49, r32⟩, ⟨_, m50, r33⟩, ⟨_, m51, r34⟩, ⟨_, m52, r35⟩⟩, fun j hj => a2 j (by omega), fun j hj => (o45 j (by omega)).trans (a4 j hj)⟩ (Nat.le_of_ble_eq_true rfl) (Nat.le_of_ble_eq_true rfl)
    · -- 7
      have c4 : 5 < 5 := Nat.lt_of_not_le (fun z => c4 ((nI_leI (by omega) (by omega)).mpr z))
      exact absurd c4 (by omega)
  · -- loop 2: its body
    obtain ⟨sh1, a1, a2, a4⟩ := id h1
    obtain ⟨m53, ⟨g68, m54, r61⟩, ⟨g69, m55, r62⟩, ⟨g70, m56, r63⟩, ⟨g71, m57, r64⟩, ⟨g72, m58, r65⟩, ⟨g73, m59, r66⟩⟩ := id a1
    refine g_iload_n C 0 rfl dX5_runSheet_2 ?_
    refine g_iconst C (v := nI 5) dX5_runSheet_3 (by decide) ?_
    refine g_icmp_ge C (tgt := 18) dX5_runSheet_4 (by decide) (fun c4 => ?_) (fun c4 => ?_)
    · -- 18
      have c4 : 5 ≤ i := (nI_leI (by omega) (by omega)).mp c4
      exact absurd c4 (by omega)
    · -- 7
      have c4 : i < 5 := Nat.lt_of_not_le (fun z => c4 ((nI_leI (by omega) (by omega)).mpr z))
      refine g_aload_n C 1 rfl dX5_runSheet_7 ?_
      refine g_iload_n C 0 rfl dX5_runSheet_8 ?_
      refine g_callv C (r_V C (st := []) (c_X5_runRow l V (by omega) (by omega) ⟨m53, ⟨_, m54, r61⟩, ⟨_, m55, r62⟩, ⟨_, m56, r63⟩, ⟨_, m57, r64⟩, ⟨_, m58, r65⟩, ⟨_, m59, r66⟩⟩ (by rw [s_M_4]; exact hstep) i hi) (cwV 1 C.ts gX5_runSheet_X5_runRow rfl rfl rfl (by decide +kernel) ⟨(Nat.le_of_ble_eq_true rfl), (Nat.le_of_ble_eq_true rfl)⟩) (by omega) m53 rfl rfl rfl (Nat.le_of_ble_eq_true rfl) dX5_runSheet_9 ⟨(Nat.le_of_ble_eq_true rfl), (Nat.le_of_ble_eq_true rfl)⟩) (fun u hu => ?_)
      obtain ⟨sh2, u1, u2, u3, u4⟩ := hu
      refine g_iinc C 0 rfl (v := nI (i + 1)) (lv' := [(1, .int (nI (i + 1))), (0, .ref (ad 85))]) dX5_runSheet_12 (nI_add _ _) (by decide) rfl ?_
      refine g_goto C (tgt := 2) dX5_runSheet_15 (by decide) ?_
      refine g_lv [0, 1] (lv' := [(1, .int (nI (i + 1))), (0, .ref (ad 85))]) rfl ?_
      exact ih _ ⟨sh2, u1, fun j hj => by
          by_cases e : j < 6 * i
          · rw [u3 j e]; exact a2 j e
          · obtain ⟨q, rfl⟩ : ∃ q, j = 6 * i + q := ⟨j - 6 * i, by omega⟩
            rw [u2 q (by omega), s_fault_at (by omega)], fun j hj => (u4 j hj).trans (a4 j hj)⟩

set_option maxHeartbeats 4000000 in
set_option maxRecDepth 100000 in
theorem c_X5_run (l : Launch) (V : gT) {n : Nat} {ad : Nat → Nat} {el : Nat → va_E} {thr : Int32} {cnt : Nat} {M St We pl sh : Nat → Int32} {F T : Nat → Nat → Int32} (hn : 92 ≤ n) (hc : cnt ≤ 20) (h : X5At V ad el thr cnt M St We pl sh F T) (hstep : 0 < M 4) (hT : ∀ k, k < 30 → T cnt k = 0) : TT l V yX5_run wsX5_run { frames := 3, cells := 0, slots := 0, locals := 66 } n ad el [.ref (ad 85)] (QIw V n ad (fun r u => (((cnt < 20 ∧ 5 ≤ M 3) ∧ r = nI cnt ∧ ∃ sh1 : Nat → Int32, ∀ F1 : Nat → Int32, (∀ j, j < 30 → F1 j = s_fault M St We pl j) → X5At V ad u 0 (cnt + 1) (s_end M) St (s_W St We 5) pl sh1 (va_up F cnt F1) T) ∨ (¬ (cnt < 20 ∧ 5 ≤ M 3) ∧ X5At V ad u 1 cnt M St We pl sh F T)) ∧ ∀ j, (j < 85 ∨ 92 ≤ j) → u j = el j)) 0 0 := by
  refine TT.body (cc := cX5_run) (maxL := 1) (ret := (some .int)) (by decide) rfl (Nat.le_of_ble_eq_true rfl) ?_
  intro p e s m below meth c C hnm
  refine g_lv [0] (lv' := [(0, .ref (ad 85))]) rfl ?_
  obtain ⟨m1, ⟨g16, m2, r9⟩, ⟨g17, m3, r10⟩, ⟨g18, m4, r11⟩, ⟨g19, m5, r12⟩, ⟨g20, m6, r13⟩, ⟨g21, m7, r14⟩⟩ := id h
  refine g_aload_n C 0 rfl dX5_run_0 ?_
  refine g_iconst C (v := nI 0) dX5_run_1 (by decide) ?_
  refine g_putf C 85 (by omega) m1 rfl 0 (by decide) (fun w h => (List.mem_cons_of_mem _ (List.mem_append_right _ h))) tyX5 tyX5_ok nmX5 (List.mem_of_getElem? (i := 1) rfl) rfl rfl rfl rfl (Nat.le_of_ble_eq_true rfl) dX5_run_2 (fun el22 e23 o24 => ?_)
  replace e23 : el22 85 = .inr (5, [.int (nI 0), .int (nI cnt), .ref (ad 86), .ref (ad 87), .ref (ad 88), .ref (ad 89), .ref (ad 90), .ref (ad 91)]) := e23
  have m25 := (o24 86 (by omega)).trans m2
  have m26 := (o24 87 (by omega)).trans m3
  have m27 := (o24 88 (by omega)).trans m4
  have m28 := (o24 89 (by omega)).trans m5
  have m29 := (o24 90 (by omega)).trans m6
  have m30 := (o24 91 (by omega)).trans m7
  refine g_aload_n C 0 rfl dX5_run_5 ?_
  refine g_getf C 85 (by omega) e23 rfl 1 (by decide) (fun w h => (List.mem_cons_of_mem _ (List.mem_append_right _ h))) (List.mem_of_getElem? (i := 2) rfl) rfl rfl dX5_run_6 ?_
  refine g_bipush C (v := nI 20) dX5_run_9 (by decide) ?_
  refine g_icmp_eq C (tgt := 24) dX5_run_11 (by decide) (fun c11 => ?_) (fun c11 => ?_)
  · -- 24
    refine g_aload_n C 0 rfl dX5_run_24 ?_
    refine g_iconst C (v := nI 1) dX5_run_25 (by decide) ?_
    refine g_calli C (r_V C (st := []) (c_X5_fail l V (by omega) (by omega) ⟨e23, ⟨_, m25, r9⟩, ⟨_, m26, r10⟩, ⟨_, m27, r11⟩, ⟨_, m28, r12⟩, ⟨_, m29, r13⟩, ⟨_, m30, r14⟩⟩ 1) (cwV 1 C.ts gX5_run_X5_fail rfl rfl rfl (by decide +kernel) ⟨(Nat.le_of_ble_eq_true rfl), (Nat.le_of_ble_eq_true rfl)⟩) (by omega) e23 rfl rfl rfl (Nat.le_of_ble_eq_true rfl) dX5_run_26 ⟨(Nat.le_of_ble_eq_true rfl), (Nat.le_of_ble_eq_true rfl)⟩) (fun r9 u hu => ?_)
    exact g_iret C rfl dX5_run_29 u rfl rfl rfl ⟨Or.inr ⟨fun z => absurd c11 (fun e => absurd ((nI_eq (by omega) (by omega)).mp e) (by omega)), hu.2.1⟩, fun j hj => (hu.2.2 j (by omega)).trans ((o24 j (by omega)).trans (rfl))⟩ (Nat.le_of_ble_eq_true rfl) (Nat.le_of_ble_eq_true rfl)
  · -- 14
    refine g_aload_n C 0 rfl dX5_run_14 ?_
    refine g_getf C 85 (by omega) e23 rfl 3 (by decide) (fun w h => (List.mem_cons_of_mem _ (List.mem_append_right _ h))) (List.mem_of_getElem? (i := 3) rfl) rfl rfl dX5_run_15 ?_
    refine g_iconst C (v := nI 3) dX5_run_18 (by decide) ?_
    refine g_iald C 87 (by omega) m26 3 rfl (by omega) (by decide) dX5_run_19 ?_
    refine g_top (r10 3 (by omega) : g17 3 = M 3) ?_
    refine g_iconst C (v := nI 5) dX5_run_20 (by decide) ?_
    refine g_icmp_ge C (tgt := 30) dX5_run_21 (by decide) (fun c21 => ?_) (fun c21 => ?_)
    · -- 30
      refine g_aload_n C 0 rfl dX5_run_30 ?_
      have hlt : cnt < 20 := by
          rcases Nat.lt_or_ge cnt 20 with z | z
          · exact z
          · exact absurd (congrArg nI (show cnt = 20 by omega)) c11
      refine g_callv C (r_V C (st := []) (c_X5_runSheet l V (by omega) (by omega) ⟨e23, ⟨_, m25, r9⟩, ⟨_, m26, r10⟩, ⟨_, m27, r11⟩, ⟨_, m28, r12⟩, ⟨_, m29, r13⟩, ⟨_, m30, r14⟩⟩ hstep) (cwV 0 C.ts gX5_run_X5_runSheet rfl rfl rfl (by decide +kernel) ⟨(Nat.le_of_ble_eq_true rfl), (Nat.le_of_ble_eq_true rfl)⟩) (by omega) e23 rfl rfl rfl (Nat.le_of_ble_eq_true rfl) dX5_run_31 ⟨(Nat.le_of_ble_eq_true rfl), (Nat.le_of_ble_eq_true rfl)⟩) (fun u hu => ?_)
      obtain ⟨sh1, u1, u2, u4⟩ := hu
      obtain ⟨m31, ⟨g46, m32, r39⟩, ⟨g47, m33, r40⟩, ⟨g48, m34, r41⟩, ⟨g49, m35, r42⟩, ⟨g50, m36, r43⟩, ⟨g51, m37, r44⟩⟩ := id u1
      refine g_aload_n C 0 rfl dX5_run_34 ?_
      refine g_getf C 85 (by omega) m31 rfl 7 (by decide) (fun w h => (List.mem_cons_of_mem _ (List.mem_append_right _ h))) (List.mem_of_getElem? (i := 4) rfl) rfl rfl dX5_run_35 ?_
      refine g_iconst C (v := nI 0) dX5_run_38 (by decide) ?_
      refine g_aload_n C 0 rfl dX5_run_39 ?_
      refine g_getf C 85 (by omega) m31 rfl 2 (by decide) (fun w h => (List.mem_cons_of_mem _ (List.mem_append_right _ h))) (List.mem_of_getElem? (i := 5) rfl) rfl rfl dX5_run_40 ?_
      refine g_bipush C (v := nI 30) dX5_run_43 (by decide) ?_
      refine g_aload_n C 0 rfl dX5_run_45 ?_
      refine g_getf C 85 (by omega) m31 rfl 1 (by decide) (fun w h => (List.mem_cons_of_mem _ (List.mem_append_right _ h))) (List.mem_of_getElem? (i := 2) rfl) rfl rfl dX5_run_46 ?_
      refine g_imul C (v := nI (30 * cnt)) dX5_run_49 (pk_mul _ _) ?_
      refine g_bipush C (v := nI 30) dX5_run_50 (by decide) ?_
      refine g_copyi C (List.mem_of_getElem? (i := 6) rfl) (List.mem_of_getElem? (i := 7) rfl) (List.mem_of_getElem? (i := 8) rfl) (List.mem_of_getElem? (i := 9) rfl) 91 86 (by omega) (by omega) m37 m32 0 (30 * cnt) 30 rfl rfl rfl (by omega) (by omega) (by decide) (by decide) (Nat.le_of_ble_eq_true rfl) (Nat.le_of_ble_eq_true rfl) dX5_run_52 (fun el52 e53 o54 => ?_)
      have m55 := (o54 85 (by omega)).trans m31
      have m56 := (o54 87 (by omega)).trans m33
      have m57 := (o54 88 (by omega)).trans m34
      have m58 := (o54 89 (by omega)).trans m35
      have m59 := (o54 90 (by omega)).trans m36
      have m60 := (o54 91 (by omega)).trans m37
      refine g_aload_n C 0 rfl dX5_run_55 ?_
      refine g_dup C dX5_run_56 rfl ?_
      refine g_getf C 85 (by omega) m55 rfl 1 (by decide) (fun w h => (List.mem_cons_of_mem _ (List.mem_append_right _ h))) (List.mem_of_getElem? (i := 2) rfl) rfl rfl dX5_run_57 ?_
      refine g_iconst C (v := nI 1) dX5_run_60 (by decide) ?_
      refine g_iadd C (v := nI (cnt + 1)) dX5_run_61 (nI_add _ _) ?_
      refine g_putf C 85 (by omega) m55 rfl 1 (by decide) (fun w h => (List.mem_cons_of_mem _ (List.mem_append_right _ h))) tyX5 tyX5_ok nmX5 (List.mem_of_getElem? (i := 2) rfl) rfl rfl rfl rfl (Nat.le_of_ble_eq_true rfl) dX5_run_62 (fun el61 e62 o63 => ?_)
      replace e62 : el61 85 = .inr (5, [.int 0, .int (nI (cnt + 1)), .ref (ad 86), .ref (ad 87), .ref (ad 88), .ref (ad 89), .ref (ad 90), .ref (ad 91)]) := e62
      have m64 := (o63 87 (by omega)).trans m56
      have m65 := (o63 88 (by omega)).trans m57
      have m66 := (o63 89 (by omega)).trans m58
      have m67 := (o63 90 (by omega)).trans m59
      have m68 := (o63 91 (by omega)).trans m60
      have m69 := (o63 86 (by omega)).trans e53
      refine g_aload_n C 0 rfl dX5_run_65 ?_
      refine g_getf C 85 (by omega) e62 rfl 1 (by decide) (fun w h => (List.mem_cons_of_mem _ (List.mem_append_right _ h))) (List.mem_of_getElem? (i := 2) rfl) rfl rfl dX5_run_66 ?_
      refine g_iconst C (v := nI 1) dX5_run_69 (by decide) ?_
      refine g_isub C (v := nI cnt) dX5_run_70 (by rw [pk_sub (by omega)]; exact congrArg nI (by omega)) ?_
      exact g_iret C rfl dX5_run_71 el61 rfl rfl rfl ⟨Or.inl ⟨⟨hlt, c21⟩, rfl, sh1, fun F1 hF1 => ⟨e62, ⟨_, m69, fun q hq k hk => by
          by_cases e : q = cnt
          · subst e
            rw [pk_cpy_in (by omega) (by omega), va_up_self, hT k hk, enc_t0 _ rfl, hF1 k hk, show 0 + (30 * q + k - 30 * q) = k by omega, r44 k hk, u2 k hk]
          · rw [pk_cpy_out (by omega), va_up_ne _ _ e]
            exact r39 q (by omega) k hk⟩, ⟨_, m64, r40⟩, ⟨_, m65, r41⟩, ⟨_, m66, r42⟩, ⟨_, m67, r43⟩, ⟨_, m68, r44⟩⟩⟩, fun j hj => (o63 j (by omega)).trans ((o54 j (by omega)).trans ((u4 j hj).trans ((o24 j (by omega)).trans (rfl))))⟩ (Nat.le_of_ble_eq_true rfl) (Nat.le_of_ble_eq_true rfl)
    · -- 24
      refine g_aload_n C 0 rfl dX5_run_24 ?_
      refine g_iconst C (v := nI 1) dX5_run_25 (by decide) ?_
      refine g_calli C (r_V C (st := []) (c_X5_fail l V (by omega) (by omega) ⟨e23, ⟨_, m25, r9⟩, ⟨_, m26, r10⟩, ⟨_, m27, r11⟩, ⟨_, m28, r12⟩, ⟨_, m29, r13⟩, ⟨_, m30, r14⟩⟩ 1) (cwV 1 C.ts gX5_run_X5_fail rfl rfl rfl (by decide +kernel) ⟨(Nat.le_of_ble_eq_true rfl), (Nat.le_of_ble_eq_true rfl)⟩) (by omega) e23 rfl rfl rfl (Nat.le_of_ble_eq_true rfl) dX5_run_26 ⟨(Nat.le_of_ble_eq_true rfl), (Nat.le_of_ble_eq_true rfl)⟩) (fun r9 u hu => ?_)
      exact g_iret C rfl dX5_run_29 u rfl rfl rfl ⟨Or.inr ⟨fun z => c21 z.2, hu.2.1⟩, fun j hj => (hu.2.2 j (by omega)).trans ((o24 j (by omega)).trans (rfl))⟩ (Nat.le_of_ble_eq_true rfl) (Nat.le_of_ble_eq_true rfl)
