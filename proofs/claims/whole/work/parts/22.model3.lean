/-! ===== the reference: what is told of sheets ===== -/
set_option maxHeartbeats 4000000 in
set_option maxRecDepth 100000 in
theorem c_X5_faults (l : Launch) (V : gT) {n : Nat} {ad : Nat → Nat} {el : Nat → va_E} {thr : Int32} {cnt : Nat} {M St We pl sh : Nat → Int32} {F T : Nat → Nat → Int32} (hn : 92 ≤ n) (hc : cnt ≤ 20) (h : X5At V ad el thr cnt M St We pl sh F T) (hF : ∀ q, q < cnt → ∀ k, k < 30 → F32 (F q k)) (x y z : Int32) : TT l V yX5_faults wsX5_faults { frames := 2, cells := 0, slots := 0, locals := 43 } n ad el [.ref (ad 85), .int x, .int y, .int z] (QIw V n ad (fun v u => ((∃ i r cl : Nat, i < cnt ∧ r < 5 ∧ cl < 6 ∧ x = nI i ∧ y = nI r ∧ z = nI cl ∧ v = F i (6 * r + cl) ∧ X5At V ad u 0 cnt M St We pl sh F T) ∨ (¬ ((0 ≤ x ∧ x ≤ nI cnt - nI 1) ∧ (0 ≤ y ∧ y ≤ 4) ∧ 0 ≤ z ∧ z ≤ 5) ∧ X5At V ad u 1 cnt M St We pl sh F T)) ∧ ∀ j, (j < 85 ∨ 92 ≤ j) → u j = el j)) 0 0 := by
  refine TT.body (cc := cX5_faults) (maxL := 4) (ret := (some .int)) (by decide) rfl (Nat.le_of_ble_eq_true rfl) ?_
  intro p e s m below meth c C hnm
  refine g_lv [0, 1, 2, 3] (lv' := [(0, .ref (ad 85)), (1, .int x), (2, .int y), (3, .int z)]) rfl ?_
  obtain ⟨m1, ⟨g16, m2, r9⟩, ⟨g17, m3, r10⟩, ⟨g18, m4, r11⟩, ⟨g19, m5, r12⟩, ⟨g20, m6, r13⟩, ⟨g21, m7, r14⟩⟩ := id h
  refine g_aload_n C 0 rfl dX5_faults_0 ?_
  refine g_iconst C (v := nI 0) dX5_faults_1 (by decide) ?_
  refine g_putf C 85 (by omega) m1 rfl 0 (by decide) (fun w h => (List.mem_cons_of_mem _ (List.mem_append_right _ h))) tyX5 tyX5_ok nmX5 (List.mem_of_getElem? (i := 1) rfl) rfl rfl rfl rfl (Nat.le_of_ble_eq_true rfl) dX5_faults_2 (fun el22 e23 o24 => ?_)
  replace e23 : el22 85 = .inr (5, [.int (nI 0), .int (nI cnt), .ref (ad 86), .ref (ad 87), .ref (ad 88), .ref (ad 89), .ref (ad 90), .ref (ad 91)]) := e23
  have m25 := (o24 86 (by omega)).trans m2
  have m26 := (o24 87 (by omega)).trans m3
  have m27 := (o24 88 (by omega)).trans m4
  have m28 := (o24 89 (by omega)).trans m5
  have m29 := (o24 90 (by omega)).trans m6
  have m30 := (o24 91 (by omega)).trans m7
  refine g_aload_n C 0 rfl dX5_faults_5 ?_
  refine g_iload_n C 1 rfl dX5_faults_6 ?_
  refine g_calli C (r_V C (st := []) (c_X5_isSheet l V (by omega) (by omega) ⟨e23, ⟨_, m25, r9⟩, ⟨_, m26, r10⟩, ⟨_, m27, r11⟩, ⟨_, m28, r12⟩, ⟨_, m29, r13⟩, ⟨_, m30, r14⟩⟩ x) (cwV 1 C.ts gX5_faults_X5_isSheet rfl rfl rfl (by decide +kernel) ⟨(Nat.le_of_ble_eq_true rfl), (Nat.le_of_ble_eq_true rfl)⟩) (by omega) e23 rfl rfl rfl (Nat.le_of_ble_eq_true rfl) dX5_faults_7 ⟨(Nat.le_of_ble_eq_true rfl), (Nat.le_of_ble_eq_true rfl)⟩) (fun r u hu => ?_)
  subst hu
  refine g_if_eq C (tgt := 43) dX5_faults_10 (by decide) (fun c10 => ?_) (fun c10 => ?_)
  · -- 43
    refine g_aload_n C 0 rfl dX5_faults_43 ?_
    refine g_iconst C (v := nI 1) dX5_faults_44 (by decide) ?_
    refine g_calli C (r_V C (st := []) (c_X5_fail l V (by omega) (by omega) ⟨e23, ⟨_, m25, r9⟩, ⟨_, m26, r10⟩, ⟨_, m27, r11⟩, ⟨_, m28, r12⟩, ⟨_, m29, r13⟩, ⟨_, m30, r14⟩⟩ 1) (cwV 1 C.ts gX5_faults_X5_fail rfl rfl rfl (by decide +kernel) ⟨(Nat.le_of_ble_eq_true rfl), (Nat.le_of_ble_eq_true rfl)⟩) (by omega) e23 rfl rfl rfl (Nat.le_of_ble_eq_true rfl) dX5_faults_45 ⟨(Nat.le_of_ble_eq_true rfl), (Nat.le_of_ble_eq_true rfl)⟩) (fun r9 u hu => ?_)
    exact g_iret C rfl dX5_faults_48 u rfl rfl rfl ⟨Or.inr (⟨fun z => s_in_0 c10 z.1, hu.2.1⟩), fun j hj => (hu.2.2 j (by omega)).trans ((o24 j (by omega)).trans (rfl))⟩ (Nat.le_of_ble_eq_true rfl) (Nat.le_of_ble_eq_true rfl)
  · -- 13
    refine g_iload_n C 2 rfl dX5_faults_13 ?_
    refine g_iload_n C 3 rfl dX5_faults_14 ?_
    refine g_calli C (r_S C (st := []) (c_X5_isPlace l V y z) (va_cwS 2 C.ts gX5_faults_X5_isPlace rfl rfl rfl (by decide +kernel) ⟨(Nat.le_of_ble_eq_true rfl), (Nat.le_of_ble_eq_true rfl)⟩) rfl rfl (Nat.le_of_ble_eq_true rfl) dX5_faults_15 ⟨(Nat.le_of_ble_eq_true rfl), (Nat.le_of_ble_eq_true rfl)⟩) (fun r u hu => ?_)
    subst hu
    refine g_if_eq C (tgt := 43) dX5_faults_18 (by decide) (fun c18 => ?_) (fun c18 => ?_)
    · -- 43
      refine g_aload_n C 0 rfl dX5_faults_43 ?_
      refine g_iconst C (v := nI 1) dX5_faults_44 (by decide) ?_
      refine g_calli C (r_V C (st := []) (c_X5_fail l V (by omega) (by omega) ⟨e23, ⟨_, m25, r9⟩, ⟨_, m26, r10⟩, ⟨_, m27, r11⟩, ⟨_, m28, r12⟩, ⟨_, m29, r13⟩, ⟨_, m30, r14⟩⟩ 1) (cwV 1 C.ts gX5_faults_X5_fail rfl rfl rfl (by decide +kernel) ⟨(Nat.le_of_ble_eq_true rfl), (Nat.le_of_ble_eq_true rfl)⟩) (by omega) e23 rfl rfl rfl (Nat.le_of_ble_eq_true rfl) dX5_faults_45 ⟨(Nat.le_of_ble_eq_true rfl), (Nat.le_of_ble_eq_true rfl)⟩) (fun r9 u hu => ?_)
      exact g_iret C rfl dX5_faults_48 u rfl rfl rfl ⟨Or.inr (⟨fun z => s_pl_0 c18 z.2, hu.2.1⟩), fun j hj => (hu.2.2 j (by omega)).trans ((o24 j (by omega)).trans (rfl))⟩ (Nat.le_of_ble_eq_true rfl) (Nat.le_of_ble_eq_true rfl)
    · -- 21
      obtain ⟨i, hi, rfl⟩ := in_sheet hc (s_in_1 c10)
      obtain ⟨r, hr, rfl⟩ := in_nat 4 (s_pl_1 c18).1 (by decide)
      obtain ⟨cl, hcl, rfl⟩ := in_nat 5 (s_pl_1 c18).2 (by decide)
      have hr : r < 5 := by omega
      have hcl : cl < 6 := by omega
      refine g_aload_n C 0 rfl dX5_faults_21 ?_
      refine g_getf C 85 (by omega) e23 rfl 2 (by decide) (fun w h => (List.mem_cons_of_mem _ (List.mem_append_right _ h))) (List.mem_of_getElem? (i := 2) rfl) rfl rfl dX5_faults_22 ?_
      refine g_bipush C (v := nI 30) dX5_faults_25 (by decide) ?_
      refine g_iload_n C 1 rfl dX5_faults_27 ?_
      refine g_imul C (v := nI (30 * i)) dX5_faults_28 (pk_mul _ _) ?_
      refine g_bipush C (v := nI 6) dX5_faults_29 (by decide) ?_
      refine g_iload_n C 2 rfl dX5_faults_31 ?_
      refine g_imul C (v := nI (6 * r)) dX5_faults_32 (pk_mul _ _) ?_
      refine g_iadd C (v := nI ((30 * i) + (6 * r))) dX5_faults_33 (nI_add _ _) ?_
      refine g_iload_n C 3 rfl dX5_faults_34 ?_
      refine g_iadd C (v := nI (((30 * i) + (6 * r)) + cl)) dX5_faults_35 (nI_add _ _) ?_
      refine g_iald C 86 (by omega) m25 (30 * i + (6 * r + cl)) (congrArg nI (by omega)) (by omega) (by decide) dX5_faults_36 ?_
      refine g_top (r9 i (by omega) (6 * r + cl) (by omega)) ?_
      refine g_bipush C (v := nI 32) dX5_faults_37 (by decide) ?_
      refine g_irem C (v := (enc (F i (6 * r + cl)) (T i (6 * r + cl))) - (enc (F i (6 * r + cl)) (T i (6 * r + cl))) / 32 * 32) dX5_faults_39 (by decide) rfl ?_
      refine g_goto C (tgt := 48) dX5_faults_40 (by decide) ?_
      exact g_iret C rfl dX5_faults_48 el22 rfl rfl rfl ⟨Or.inl ⟨i, r, cl, hi, hr, hcl, rfl, rfl, rfl, enc_rem9 (hF i hi _ (by omega)), ⟨e23, ⟨_, m25, r9⟩, ⟨_, m26, r10⟩, ⟨_, m27, r11⟩, ⟨_, m28, r12⟩, ⟨_, m29, r13⟩, ⟨_, m30, r14⟩⟩⟩, fun j hj => (o24 j (by omega)).trans (rfl)⟩ (Nat.le_of_ble_eq_true rfl) (Nat.le_of_ble_eq_true rfl)

set_option maxHeartbeats 4000000 in
set_option maxRecDepth 100000 in
theorem c_X5_tear (l : Launch) (V : gT) {n : Nat} {ad : Nat → Nat} {el : Nat → va_E} {thr : Int32} {cnt : Nat} {M St We pl sh : Nat → Int32} {F T : Nat → Nat → Int32} (hn : 92 ≤ n) (hc : cnt ≤ 20) (h : X5At V ad el thr cnt M St We pl sh F T) (hF : ∀ q, q < cnt → ∀ k, k < 30 → F32 (F q k)) (x y z : Int32) : TT l V yX5_tear wsX5_tear { frames := 2, cells := 0, slots := 0, locals := 43 } n ad el [.ref (ad 85), .int x, .int y, .int z] (QIw V n ad (fun v u => ((∃ i r cl : Nat, i < cnt ∧ r < 5 ∧ cl < 6 ∧ x = nI i ∧ y = nI r ∧ z = nI cl ∧ T i (6 * r + cl) = 0 ∧ v = s_worth (F i (6 * r + cl)) (T i (6 * r + cl)) ∧ X5At V ad u 0 cnt M St We pl sh F (va_up T i (upd (T i) (6 * r + cl) 1))) ∨ (¬ ((0 ≤ x ∧ x ≤ nI cnt - nI 1) ∧ (0 ≤ y ∧ y ≤ 4) ∧ 0 ≤ z ∧ z ≤ 5) ∧ X5At V ad u 1 cnt M St We pl sh F T) ∨ ((∃ i r cl : Nat, i < cnt ∧ r < 5 ∧ cl < 6 ∧ x = nI i ∧ y = nI r ∧ z = nI cl ∧ ¬ T i (6 * r + cl) = 0) ∧ X5At V ad u 2 cnt M St We pl sh F T)) ∧ ∀ j, (j < 85 ∨ 92 ≤ j) → u j = el j)) 0 0 := by
  refine TT.body (cc := cX5_tear) (maxL := 6) (ret := (some .int)) (by decide) rfl (Nat.le_of_ble_eq_true rfl) ?_
  intro p e s m below meth c C hnm
  refine g_lv [0, 1, 2, 3] (lv' := [(0, .ref (ad 85)), (1, .int x), (2, .int y), (3, .int z)]) rfl ?_
  obtain ⟨m1, ⟨g16, m2, r9⟩, ⟨g17, m3, r10⟩, ⟨g18, m4, r11⟩, ⟨g19, m5, r12⟩, ⟨g20, m6, r13⟩, ⟨g21, m7, r14⟩⟩ := id h
  refine g_aload_n C 0 rfl dX5_tear_0 ?_
  refine g_iconst C (v := nI 0) dX5_tear_1 (by decide) ?_
  refine g_putf C 85 (by omega) m1 rfl 0 (by decide) (fun w h => (List.mem_cons_of_mem _ (List.mem_append_right _ h))) tyX5 tyX5_ok nmX5 (List.mem_of_getElem? (i := 1) rfl) rfl rfl rfl rfl (Nat.le_of_ble_eq_true rfl) dX5_tear_2 (fun el22 e23 o24 => ?_)
  replace e23 : el22 85 = .inr (5, [.int (nI 0), .int (nI cnt), .ref (ad 86), .ref (ad 87), .ref (ad 88), .ref (ad 89), .ref (ad 90), .ref (ad 91)]) := e23
  have m25 := (o24 86 (by omega)).trans m2
  have m26 := (o24 87 (by omega)).trans m3
  have m27 := (o24 88 (by omega)).trans m4
  have m28 := (o24 89 (by omega)).trans m5
  have m29 := (o24 90 (by omega)).trans m6
  have m30 := (o24 91 (by omega)).trans m7
  refine g_aload_n C 0 rfl dX5_tear_5 ?_
  refine g_iload_n C 1 rfl dX5_tear_6 ?_
  refine g_calli C (r_V C (st := []) (c_X5_isSheet l V (by omega) (by omega) ⟨e23, ⟨_, m25, r9⟩, ⟨_, m26, r10⟩, ⟨_, m27, r11⟩, ⟨_, m28, r12⟩, ⟨_, m29, r13⟩, ⟨_, m30, r14⟩⟩ x) (cwV 1 C.ts gX5_tear_X5_isSheet rfl rfl rfl (by decide +kernel) ⟨(Nat.le_of_ble_eq_true rfl), (Nat.le_of_ble_eq_true rfl)⟩) (by omega) e23 rfl rfl rfl (Nat.le_of_ble_eq_true rfl) dX5_tear_7 ⟨(Nat.le_of_ble_eq_true rfl), (Nat.le_of_ble_eq_true rfl)⟩) (fun r u hu => ?_)
  subst hu
  refine g_if_eq C (tgt := 21) dX5_tear_10 (by decide) (fun c10 => ?_) (fun c10 => ?_)
  · -- 21
    refine g_aload_n C 0 rfl dX5_tear_21 ?_
    refine g_iconst C (v := nI 1) dX5_tear_22 (by decide) ?_
    refine g_calli C (r_V C (st := []) (c_X5_fail l V (by omega) (by omega) ⟨e23, ⟨_, m25, r9⟩, ⟨_, m26, r10⟩, ⟨_, m27, r11⟩, ⟨_, m28, r12⟩, ⟨_, m29, r13⟩, ⟨_, m30, r14⟩⟩ 1) (cwV 1 C.ts gX5_tear_X5_fail rfl rfl rfl (by decide +kernel) ⟨(Nat.le_of_ble_eq_true rfl), (Nat.le_of_ble_eq_true rfl)⟩) (by omega) e23 rfl rfl rfl (Nat.le_of_ble_eq_true rfl) dX5_tear_23 ⟨(Nat.le_of_ble_eq_true rfl), (Nat.le_of_ble_eq_true rfl)⟩) (fun r9 u hu => ?_)
    exact g_iret C rfl dX5_tear_26 u rfl rfl rfl ⟨Or.inr (Or.inl (⟨fun z => s_in_0 c10 z.1, hu.2.1⟩)), fun j hj => (hu.2.2 j (by omega)).trans ((o24 j (by omega)).trans (rfl))⟩ (Nat.le_of_ble_eq_true rfl) (Nat.le_of_ble_eq_true rfl)
  · -- 13
    refine g_iload_n C 2 rfl dX5_tear_13 ?_
    refine g_iload_n C 3 rfl dX5_tear_14 ?_
    refine g_calli C (r_S C (st := []) (c_X5_isPlace l V y z) (va_cwS 2 C.ts gX5_tear_X5_isPlace rfl rfl rfl (by decide +kernel) ⟨(Nat.le_of_ble_eq_true rfl), (Nat.le_of_ble_eq_true rfl)⟩) rfl rfl (Nat.le_of_ble_eq_true rfl) dX5_tear_15 ⟨(Nat.le_of_ble_eq_true rfl), (Nat.le_of_ble_eq_true rfl)⟩) (fun r u hu => ?_)
    subst hu
    refine g_if_ne C (tgt := 27) dX5_tear_18 (by decide) (fun c18 => ?_) (fun c18 => ?_)
    · -- 27
      obtain ⟨i, hi, rfl⟩ := in_sheet hc (s_in_1 c10)
      obtain ⟨r, hr, rfl⟩ := in_nat 4 (s_pl_1 c18).1 (by decide)
      obtain ⟨cl, hcl, rfl⟩ := in_nat 5 (s_pl_1 c18).2 (by decide)
      have hr : r < 5 := by omega
      have hcl : cl < 6 := by omega
      refine g_bipush C (v := nI 30) dX5_tear_27 (by decide) ?_
      refine g_iload_n C 1 rfl dX5_tear_29 ?_
      refine g_imul C (v := nI (30 * i)) dX5_tear_30 (pk_mul _ _) ?_
      refine g_bipush C (v := nI 6) dX5_tear_31 (by decide) ?_
      refine g_iload_n C 2 rfl dX5_tear_33 ?_
      refine g_imul C (v := nI (6 * r)) dX5_tear_34 (pk_mul _ _) ?_
      refine g_iadd C (v := nI ((30 * i) + (6 * r))) dX5_tear_35 (nI_add _ _) ?_
      refine g_iload_n C 3 rfl dX5_tear_36 ?_
      refine g_iadd C (v := nI (((30 * i) + (6 * r)) + cl)) dX5_tear_37 (nI_add _ _) ?_
      refine g_istore C (lv' := [(4, .int (nI (((30 * i) + (6 * r)) + cl))), (0, .ref (ad 85)), (1, .int (nI i)), (2, .int (nI r)), (3, .int (nI cl))]) dX5_tear_38 (by decide) rfl ?_
      refine g_aload_n C 1 rfl dX5_tear_40 ?_
      refine g_getf C 85 (by omega) e23 rfl 2 (by decide) (fun w h => (List.mem_cons_of_mem _ (List.mem_append_right _ h))) (List.mem_of_getElem? (i := 2) rfl) rfl rfl dX5_tear_41 ?_
      refine g_iload C 0 rfl dX5_tear_44 ?_
      refine g_iald C 86 (by omega) m25 (30 * i + (6 * r + cl)) (congrArg nI (by omega)) (by omega) (by decide) dX5_tear_46 ?_
      refine g_top (r9 i (by omega) (6 * r + cl) (by omega)) ?_
      refine g_bipush C (v := nI 32) dX5_tear_47 (by decide) ?_
      refine g_icmp_lt C (tgt := 58) dX5_tear_49 (by decide) (fun c49 => ?_) (fun c49 => ?_)
      · -- 58
        refine g_aload_n C 1 rfl dX5_tear_58 ?_
        refine g_getf C 85 (by omega) e23 rfl 2 (by decide) (fun w h => (List.mem_cons_of_mem _ (List.mem_append_right _ h))) (List.mem_of_getElem? (i := 2) rfl) rfl rfl dX5_tear_59 ?_
        refine g_iload C 0 rfl dX5_tear_62 ?_
        refine g_iald C 86 (by omega) m25 (30 * i + (6 * r + cl)) (congrArg nI (by omega)) (by omega) (by decide) dX5_tear_64 ?_
        refine g_top (r9 i (by omega) (6 * r + cl) (by omega)) ?_
        refine g_calli C (r_S C (st := []) (c_X5_worth l V (enc (F i (6 * r + cl)) (T i (6 * r + cl)))) (va_cwS 1 C.ts gX5_tear_X5_worth rfl rfl rfl (by decide +kernel) ⟨(Nat.le_of_ble_eq_true rfl), (Nat.le_of_ble_eq_true rfl)⟩) rfl rfl (Nat.le_of_ble_eq_true rfl) dX5_tear_65 ⟨(Nat.le_of_ble_eq_true rfl), (Nat.le_of_ble_eq_true rfl)⟩) (fun r u hu => ?_)
        subst hu
        refine g_istore C (lv' := [(5, .int (s_mw (enc (F i (6 * r + cl)) (T i (6 * r + cl))))), (4, .int (nI (((30 * i) + (6 * r)) + cl))), (0, .ref (ad 85)), (1, .int (nI i)), (2, .int (nI r)), (3, .int (nI cl))]) dX5_tear_68 (by decide) rfl ?_
        refine g_aload_n C 2 rfl dX5_tear_70 ?_
        refine g_getf C 85 (by omega) e23 rfl 2 (by decide) (fun w h => (List.mem_cons_of_mem _ (List.mem_append_right _ h))) (List.mem_of_getElem? (i := 2) rfl) rfl rfl dX5_tear_71 ?_
        refine g_iload C 1 rfl dX5_tear_74 ?_
        refine g_dup2 C dX5_tear_76 rfl rfl ?_
        refine g_iald C 86 (by omega) m25 (30 * i + (6 * r + cl)) (congrArg nI (by omega)) (by omega) (by decide) dX5_tear_77 ?_
        refine g_top (r9 i (by omega) (6 * r + cl) (by omega)) ?_
        refine g_bipush C (v := nI 32) dX5_tear_78 (by decide) ?_
        refine g_iadd C (v := (enc (F i (6 * r + cl)) (T i (6 * r + cl))) + 32) dX5_tear_80 rfl ?_
        refine g_iast C 86 (by omega) m25 (30 * i + (6 * r + cl)) (congrArg nI (by omega)) (by omega) (by decide) dX5_tear_81 (fun el31 e32 o33 => ?_)
        have r34 : ∀ q, q < cnt → ∀ k, k < 30 → upd g16 (30 * i + (6 * r + cl)) ((enc (F i (6 * r + cl)) (T i (6 * r + cl))) + 32) (30 * q + k) = enc (F q k) (va_up T i (upd (T i) (6 * r + cl) 1) q k) := by
            intro q hq k hk
            by_cases e : q = i
            · subst e
              rw [va_up_self]
              by_cases e2 : k = 6 * r + cl
              · subst e2
                rw [pk_us, pk_us]
                exact enc_1 ((enc_lt (hF q hq _ (by omega))).mp c49)
              · rw [pk_un e2, pk_un (by omega)]
                exact r9 q hq k hk
            · rw [va_up_ne _ _ e, pk_un (by omega)]
              exact r9 q hq k hk
        have m35 := (o33 87 (by omega)).trans m26
        have m36 := (o33 88 (by omega)).trans m27
        have m37 := (o33 89 (by omega)).trans m28
        have m38 := (o33 90 (by omega)).trans m29
        have m39 := (o33 91 (by omega)).trans m30
        have m40 := (o33 85 (by omega)).trans e23
        refine g_iload C 0 rfl dX5_tear_82 ?_
        exact g_iret C rfl dX5_tear_84 el31 rfl rfl rfl ⟨Or.inl ⟨i, r, cl, hi, hr, hcl, rfl, rfl, rfl, (enc_lt (hF i hi _ (by omega))).mp c49, mw_enc (hF i hi _ (by omega)), ⟨m40, ⟨_, e32, r34⟩, ⟨_, m35, r10⟩, ⟨_, m36, r11⟩, ⟨_, m37, r12⟩, ⟨_, m38, r13⟩, ⟨_, m39, r14⟩⟩⟩, fun j hj => (o33 j (by omega)).trans ((o24 j (by omega)).trans (rfl))⟩ (Nat.le_of_ble_eq_true rfl) (Nat.le_of_ble_eq_true rfl)
      · -- 52
        refine g_aload_n C 1 rfl dX5_tear_52 ?_
        refine g_iconst C (v := nI 2) dX5_tear_53 (by decide) ?_
        refine g_calli C (r_V C (st := []) (c_X5_fail l V (by omega) (by omega) ⟨e23, ⟨_, m25, r9⟩, ⟨_, m26, r10⟩, ⟨_, m27, r11⟩, ⟨_, m28, r12⟩, ⟨_, m29, r13⟩, ⟨_, m30, r14⟩⟩ 2) (cwV 1 C.ts gX5_tear_X5_fail rfl rfl rfl (by decide +kernel) ⟨(Nat.le_of_ble_eq_true rfl), (Nat.le_of_ble_eq_true rfl)⟩) (by omega) e23 rfl rfl rfl (Nat.le_of_ble_eq_true rfl) dX5_tear_54 ⟨(Nat.le_of_ble_eq_true rfl), (Nat.le_of_ble_eq_true rfl)⟩) (fun r9 u hu => ?_)
        exact g_iret C rfl dX5_tear_57 u rfl rfl rfl ⟨Or.inr (Or.inr (⟨⟨i, r, cl, hi, hr, hcl, rfl, rfl, rfl, fun z => c49 ((enc_lt (hF i hi _ (by omega))).mpr z)⟩, hu.2.1⟩)), fun j hj => (hu.2.2 j (by omega)).trans ((o24 j (by omega)).trans (rfl))⟩ (Nat.le_of_ble_eq_true rfl) (Nat.le_of_ble_eq_true rfl)
    · -- 21
      refine g_aload_n C 0 rfl dX5_tear_21 ?_
      refine g_iconst C (v := nI 1) dX5_tear_22 (by decide) ?_
      refine g_calli C (r_V C (st := []) (c_X5_fail l V (by omega) (by omega) ⟨e23, ⟨_, m25, r9⟩, ⟨_, m26, r10⟩, ⟨_, m27, r11⟩, ⟨_, m28, r12⟩, ⟨_, m29, r13⟩, ⟨_, m30, r14⟩⟩ 1) (cwV 1 C.ts gX5_tear_X5_fail rfl rfl rfl (by decide +kernel) ⟨(Nat.le_of_ble_eq_true rfl), (Nat.le_of_ble_eq_true rfl)⟩) (by omega) e23 rfl rfl rfl (Nat.le_of_ble_eq_true rfl) dX5_tear_23 ⟨(Nat.le_of_ble_eq_true rfl), (Nat.le_of_ble_eq_true rfl)⟩) (fun r9 u hu => ?_)
      exact g_iret C rfl dX5_tear_26 u rfl rfl rfl ⟨Or.inr (Or.inl (⟨fun z => s_pl_0 c18 z.2, hu.2.1⟩)), fun j hj => (hu.2.2 j (by omega)).trans ((o24 j (by omega)).trans (rfl))⟩ (Nat.le_of_ble_eq_true rfl) (Nat.le_of_ble_eq_true rfl)

def s_pk (f t : Nat → Int32) (k : Nat) : Int32 := if k % 6 = 5 then 0 else s_pr (f k) (t k) (f (k + 1)) (t (k + 1))
set_option maxRecDepth 100000 in
theorem s_pk_sum (f t : Nat → Int32) : s_sum (s_pk f t) 30 = s_pairs f t := by
  simp [s_sum, s_pairs, s_prs, s_acc, s_pk]

set_option maxHeartbeats 4000000 in
set_option maxRecDepth 100000 in
theorem c_X5_pairs (l : Launch) (V : gT) {n : Nat} {ad : Nat → Nat} {el : Nat → va_E} {thr : Int32} {cnt : Nat} {M St We pl sh : Nat → Int32} {F T : Nat → Nat → Int32} (hn : 92 ≤ n) (hc : cnt ≤ 20) (h : X5At V ad el thr cnt M St We pl sh F T) (hF : ∀ q, q < cnt → ∀ k, k < 30 → F32 (F q k)) (i : Nat) (hi : i < cnt) : TT l V yX5_pairs wsX5_pairs { frames := 0, cells := 0, slots := 0, locals := 0 } n ad el [.ref (ad 85), .int (nI (30 * i))] (QIr V n ad el (fun r => r = s_pairs (F i) (T i))) 0 0 := by
  refine TT.body (cc := cX5_pairs) (maxL := 4) (ret := (some .int)) (by decide) rfl (Nat.le_of_ble_eq_true rfl) ?_
  intro p e s m below meth c C hnm
  refine g_lv [0, 1] (lv' := [(0, .ref (ad 85)), (1, .int (nI (30 * i)))]) rfl ?_
  obtain ⟨m1, ⟨g16, m2, r9⟩, ⟨g17, m3, r10⟩, ⟨g18, m4, r11⟩, ⟨g19, m5, r12⟩, ⟨g20, m6, r13⟩, ⟨g21, m7, r14⟩⟩ := id h
  refine g_iconst C (v := nI 0) dX5_pairs_0 (by decide) ?_
  refine g_istore_n C (lv' := [(2, .int (nI 0)), (0, .ref (ad 85)), (1, .int (nI (30 * i)))]) dX5_pairs_1 (by decide) rfl ?_
  refine g_iconst C (v := nI 0) dX5_pairs_2 (by decide) ?_
  refine g_istore_n C (lv' := [(3, .int (nI 0)), (2, .int (nI 0)), (0, .ref (ad 85)), (1, .int (nI (30 * i)))]) dX5_pairs_3 (by decide) rfl ?_
  refine g_lv [0, 1, 2, 3] (lv' := [(3, .int (nI 0)), (2, .int (nI 0)), (0, .ref (ad 85)), (1, .int (nI (30 * i)))]) rfl ?_
  refine g_for 30 (fun (k : Nat) => [(3, .int (nI k)), (2, .int (s_sum (s_pk (F i) (T i)) k)), (0, .ref (ad 85)), (1, .int (nI (30 * i)))]) ?_ (fun k hk ih => ?_)
  · -- loop 4: its end
    refine g_iload_n C 0 rfl dX5_pairs_4 ?_
    refine g_bipush C (v := nI 30) dX5_pairs_5 (by decide) ?_
    refine g_icmp_ge C (tgt := 88) dX5_pairs_7 (by decide) (fun c7 => ?_) (fun c7 => ?_)
    · -- 88
      have c7 : 30 ≤ 30 := (nI_leI (by omega) (by omega)).mp c7
      refine g_iload_n C 1 rfl dX5_pairs_88 ?_
      exact g_iret C rfl dX5_pairs_89 () rfl rfl rfl (s_pk_sum _ _) (Nat.le_of_ble_eq_true rfl) (Nat.le_of_ble_eq_true rfl)
    · -- 10
      have c7 : 30 < 30 := Nat.lt_of_not_le (fun z => c7 ((nI_leI (by omega) (by omega)).mpr z))
      exact absurd c7 (by omega)
  · -- loop 4: its body
    refine g_iload_n C 0 rfl dX5_pairs_4 ?_
    refine g_bipush C (v := nI 30) dX5_pairs_5 (by decide) ?_
    refine g_icmp_ge C (tgt := 88) dX5_pairs_7 (by decide) (fun c7 => ?_) (fun c7 => ?_)
    · -- 88
      have c7 : 30 ≤ k := (nI_leI (by omega) (by omega)).mp c7
      exact absurd c7 (by omega)
    · -- 10
      have c7 : k < 30 := Nat.lt_of_not_le (fun z => c7 ((nI_leI (by omega) (by omega)).mpr z))
      refine g_iload_n C 0 rfl dX5_pairs_10 ?_
      refine g_bipush C (v := nI 6) dX5_pairs_11 (by decide) ?_
      refine g_irem C (v := nI ((k % 6))) dX5_pairs_13 (by decide) (pk_rem (by omega) (by omega) (by omega)) ?_
      refine g_iconst C (v := nI 5) dX5_pairs_14 (by decide) ?_
      refine g_icmp_eq C (tgt := 82) dX5_pairs_15 (by decide) (fun c15 => ?_) (fun c15 => ?_)
      · -- 82
        have c15 : k % 6 = 5 := (nI_eq (by omega) (by omega)).mp c15
        refine g_iinc C 0 rfl (v := nI (k + 1)) (lv' := [(3, .int (nI (k + 1))), (2, .int (s_sum (s_pk (F i) (T i)) k)), (0, .ref (ad 85)), (1, .int (nI (30 * i)))]) dX5_pairs_82 (nI_add _ _) (by decide) rfl ?_
        refine g_goto C (tgt := 4) dX5_pairs_85 (by decide) ?_
        refine g_lv [0, 1, 2, 3] (lv' := [(3, .int (nI (k + 1))), (2, .int (s_sum (s_pk (F i) (T i)) k)), (0, .ref (ad 85)), (1, .int (nI (30 * i)))]) rfl ?_
        have e9 : s_sum (s_pk (F i) (T i)) (k + 1) = s_sum (s_pk (F i) (T i)) k := s_sum_f (if_pos c15)
        refine g_lveq (lv' := [(3, .int (nI (k + 1))), (2, .int (s_sum (s_pk (F i) (T i)) (k + 1))), (0, .ref (ad 85)), (1, .int (nI (30 * i)))]) (by rw [e9] <;> rfl) ?_
        exact ih
      · -- 18
        have c15 : ¬ k % 6 = 5 := fun z => c15 (congrArg nI z)
        refine g_aload_n C 2 rfl dX5_pairs_18 ?_
        refine g_getf C 85 (by omega) m1 rfl 2 (by decide) (fun w h => (List.mem_cons_of_mem _ (List.mem_append_right _ h))) (List.mem_of_getElem? (i := 1) rfl) rfl rfl dX5_pairs_19 ?_
        refine g_iload_n C 3 rfl dX5_pairs_22 ?_
        refine g_iload_n C 0 rfl dX5_pairs_23 ?_
        refine g_iadd C (v := nI ((30 * i) + k)) dX5_pairs_24 (nI_add _ _) ?_
        refine g_iald C 86 (by omega) m2 (30 * i + k) (congrArg nI (by omega)) (by omega) (by decide) dX5_pairs_25 ?_
        refine g_top (r9 i (by omega) k (by omega)) ?_
        refine g_bipush C (v := nI 32) dX5_pairs_26 (by decide) ?_
        refine g_icmp_ge C (tgt := 82) dX5_pairs_28 (by decide) (fun c28 => ?_) (fun c28 => ?_)
        · -- 82
          refine g_iinc C 0 rfl (v := nI (k + 1)) (lv' := [(3, .int (nI (k + 1))), (2, .int (s_sum (s_pk (F i) (T i)) k)), (0, .ref (ad 85)), (1, .int (nI (30 * i)))]) dX5_pairs_82 (nI_add _ _) (by decide) rfl ?_
          refine g_goto C (tgt := 4) dX5_pairs_85 (by decide) ?_
          refine g_lv [0, 1, 2, 3] (lv' := [(3, .int (nI (k + 1))), (2, .int (s_sum (s_pk (F i) (T i)) k)), (0, .ref (ad 85)), (1, .int (nI (30 * i)))]) rfl ?_
          have e9 : s_sum (s_pk (F i) (T i)) (k + 1) = s_sum (s_pk (F i) (T i)) k := s_sum_f ((if_neg c15).trans (if_neg (fun z => (enc_ge (hF i hi k (by omega))).mp c28 z.1)))
          refine g_lveq (lv' := [(3, .int (nI (k + 1))), (2, .int (s_sum (s_pk (F i) (T i)) (k + 1))), (0, .ref (ad 85)), (1, .int (nI (30 * i)))]) (by rw [e9] <;> rfl) ?_
          exact ih
        · -- 31
          refine g_aload_n C 2 rfl dX5_pairs_31 ?_
          refine g_getf C 85 (by omega) m1 rfl 2 (by decide) (fun w h => (List.mem_cons_of_mem _ (List.mem_append_right _ h))) (List.mem_of_getElem? (i := 1) rfl) rfl rfl dX5_pairs_32 ?_
          refine g_iload_n C 3 rfl dX5_pairs_35 ?_
          refine g_iload_n C 0 rfl dX5_pairs_36 ?_
          refine g_iadd C (v := nI ((30 * i) + k)) dX5_pairs_37 (nI_add _ _) ?_
          refine g_iconst C (v := nI 1) dX5_pairs_38 (by decide) ?_
          refine g_iadd C (v := nI (((30 * i) + k) + 1)) dX5_pairs_39 (nI_add _ _) ?_
          refine g_iald C 86 (by omega) m2 (30 * i + (k + 1)) (congrArg nI (by omega)) (by omega) (by decide) dX5_pairs_40 ?_
          refine g_top (r9 i (by omega) (k + 1) (by omega)) ?_
          refine g_bipush C (v := nI 32) dX5_pairs_41 (by decide) ?_
          refine g_icmp_lt C (tgt := 49) dX5_pairs_43 (by decide) (fun c43 => ?_) (fun c43 => ?_)
          · -- 49
            refine g_iload_n C 1 rfl dX5_pairs_49 ?_
            refine g_aload_n C 2 rfl dX5_pairs_50 ?_
            refine g_getf C 85 (by omega) m1 rfl 2 (by decide) (fun w h => (List.mem_cons_of_mem _ (List.mem_append_right _ h))) (List.mem_of_getElem? (i := 1) rfl) rfl rfl dX5_pairs_51 ?_
            refine g_iload_n C 3 rfl dX5_pairs_54 ?_
            refine g_iload_n C 0 rfl dX5_pairs_55 ?_
            refine g_iadd C (v := nI ((30 * i) + k)) dX5_pairs_56 (nI_add _ _) ?_
            refine g_iald C 86 (by omega) m2 (30 * i + k) (congrArg nI (by omega)) (by omega) (by decide) dX5_pairs_57 ?_
            refine g_top (r9 i (by omega) k (by omega)) ?_
            refine g_aload_n C 2 rfl dX5_pairs_58 ?_
            refine g_getf C 85 (by omega) m1 rfl 2 (by decide) (fun w h => (List.mem_cons_of_mem _ (List.mem_append_right _ h))) (List.mem_of_getElem? (i := 1) rfl) rfl rfl dX5_pairs_59 ?_
            refine g_iload_n C 3 rfl dX5_pairs_62 ?_
            refine g_iload_n C 0 rfl dX5_pairs_63 ?_
            refine g_iadd C (v := nI ((30 * i) + k)) dX5_pairs_64 (nI_add _ _) ?_
            refine g_iconst C (v := nI 1) dX5_pairs_65 (by decide) ?_
            refine g_iadd C (v := nI (((30 * i) + k) + 1)) dX5_pairs_66 (nI_add _ _) ?_
            refine g_iald C 86 (by omega) m2 (30 * i + (k + 1)) (congrArg nI (by omega)) (by omega) (by decide) dX5_pairs_67 ?_
            refine g_top (r9 i (by omega) (k + 1) (by omega)) ?_
            refine g_ixor C (v := (enc (F i k) (T i k)) ^^^ (enc (F i (k + 1)) (T i (k + 1)))) dX5_pairs_68 rfl ?_
            refine g_bipush C (v := nI 8) dX5_pairs_69 (by decide) ?_
            refine g_iand C (v := ((enc (F i k) (T i k)) ^^^ (enc (F i (k + 1)) (T i (k + 1)))) &&& 8) dX5_pairs_71 rfl ?_
            refine g_if_eq C (tgt := 79) dX5_pairs_72 (by decide) (fun c72 => ?_) (fun c72 => ?_)
            · -- 79
              refine g_iconst C (v := nI 0) dX5_pairs_79 (by decide) ?_
              refine g_iadd C (v := (s_sum (s_pk (F i) (T i)) k) + 0) dX5_pairs_80 rfl ?_
              refine g_istore_n C (lv' := [(2, .int ((s_sum (s_pk (F i) (T i)) k) + 0)), (3, .int (nI k)), (0, .ref (ad 85)), (1, .int (nI (30 * i)))]) dX5_pairs_81 (by decide) rfl ?_
              refine g_iinc C 1 rfl (v := nI (k + 1)) (lv' := [(3, .int (nI (k + 1))), (2, .int ((s_sum (s_pk (F i) (T i)) k) + 0)), (0, .ref (ad 85)), (1, .int (nI (30 * i)))]) dX5_pairs_82 (nI_add _ _) (by decide) rfl ?_
              refine g_goto C (tgt := 4) dX5_pairs_85 (by decide) ?_
              refine g_lv [0, 1, 2, 3] (lv' := [(3, .int (nI (k + 1))), (2, .int ((s_sum (s_pk (F i) (T i)) k) + 0)), (0, .ref (ad 85)), (1, .int (nI (30 * i)))]) rfl ?_
              have t0 : T i k = 0 := Classical.byContradiction (fun z => c28 ((enc_ge (hF i hi k (by omega))).mpr z))
              have t1 : T i (k + 1) = 0 := (enc_lt (hF i hi (k + 1) (by omega))).mp c43
              rw [enc_t0 _ t0, enc_t0 _ t1] at c72
              have e9 : s_sum (s_pk (F i) (T i)) (k + 1) = s_sum (s_pk (F i) (T i)) k + nI 0 := s_sum_t ((if_neg c15).trans (if_neg (fun z => z.2.2 c72)))
              refine g_lveq (lv' := [(3, .int (nI (k + 1))), (2, .int (s_sum (s_pk (F i) (T i)) (k + 1))), (0, .ref (ad 85)), (1, .int (nI (30 * i)))]) (by rw [e9] <;> rfl) ?_
              exact ih
            · -- 75
              refine g_iconst C (v := nI 1) dX5_pairs_75 (by decide) ?_
              refine g_goto C (tgt := 80) dX5_pairs_76 (by decide) ?_
              refine g_iadd C (v := (s_sum (s_pk (F i) (T i)) k) + 1) dX5_pairs_80 rfl ?_
              refine g_istore_n C (lv' := [(2, .int ((s_sum (s_pk (F i) (T i)) k) + 1)), (3, .int (nI k)), (0, .ref (ad 85)), (1, .int (nI (30 * i)))]) dX5_pairs_81 (by decide) rfl ?_
              refine g_iinc C 1 rfl (v := nI (k + 1)) (lv' := [(3, .int (nI (k + 1))), (2, .int ((s_sum (s_pk (F i) (T i)) k) + 1)), (0, .ref (ad 85)), (1, .int (nI (30 * i)))]) dX5_pairs_82 (nI_add _ _) (by decide) rfl ?_
              refine g_goto C (tgt := 4) dX5_pairs_85 (by decide) ?_
              refine g_lv [0, 1, 2, 3] (lv' := [(3, .int (nI (k + 1))), (2, .int ((s_sum (s_pk (F i) (T i)) k) + 1)), (0, .ref (ad 85)), (1, .int (nI (30 * i)))]) rfl ?_
              have t0 : T i k = 0 := Classical.byContradiction (fun z => c28 ((enc_ge (hF i hi k (by omega))).mpr z))
              have t1 : T i (k + 1) = 0 := (enc_lt (hF i hi (k + 1) (by omega))).mp c43
              rw [enc_t0 _ t0, enc_t0 _ t1] at c72
              have e9 : s_sum (s_pk (F i) (T i)) (k + 1) = s_sum (s_pk (F i) (T i)) k + 1 := s_sum_t ((if_neg c15).trans (if_pos ⟨t0, t1, c72⟩))
              refine g_lveq (lv' := [(3, .int (nI (k + 1))), (2, .int (s_sum (s_pk (F i) (T i)) (k + 1))), (0, .ref (ad 85)), (1, .int (nI (30 * i)))]) (by rw [e9] <;> rfl) ?_
              exact ih
          · -- 46
            refine g_goto C (tgt := 82) dX5_pairs_46 (by decide) ?_
            refine g_iinc C 0 rfl (v := nI (k + 1)) (lv' := [(3, .int (nI (k + 1))), (2, .int (s_sum (s_pk (F i) (T i)) k)), (0, .ref (ad 85)), (1, .int (nI (30 * i)))]) dX5_pairs_82 (nI_add _ _) (by decide) rfl ?_
            refine g_goto C (tgt := 4) dX5_pairs_85 (by decide) ?_
            refine g_lv [0, 1, 2, 3] (lv' := [(3, .int (nI (k + 1))), (2, .int (s_sum (s_pk (F i) (T i)) k)), (0, .ref (ad 85)), (1, .int (nI (30 * i)))]) rfl ?_
            have e9 : s_sum (s_pk (F i) (T i)) (k + 1) = s_sum (s_pk (F i) (T i)) k := s_sum_f ((if_neg c15).trans (if_neg (fun z => c43 ((enc_lt (hF i hi (k + 1) (by omega))).mpr z.2.1))))
            refine g_lveq (lv' := [(3, .int (nI (k + 1))), (2, .int (s_sum (s_pk (F i) (T i)) (k + 1))), (0, .ref (ad 85)), (1, .int (nI (30 * i)))]) (by rw [e9] <;> rfl) ?_
            exact ih

def s_cl (f t : Nat → Int32) (a b x y : Nat) : Prop := ∀ r, a ≤ r → r ≤ b → ∀ q, x ≤ q → q ≤ y → t (6 * r + q) = 0 ∧ f (6 * r + q) = 0
section GPP
variable {p : Program} {l : Launch} {e : Env} {R : Room} {s : State} {m : MethodId} {args : Array Value} {below : List Frame} {meth : Method} {c : Code} {V : gT} {A : Nat → Prop} {nL : Nat} {Q : State → Prop} {n : Nat} {ad : Nat → Nat} {el : Nat → va_E} {cells slots pc : Nat} {st : List Value}
theorem g_forP (N : Nat) (lvf : Nat → List (Nat × Value)) (I : Nat → Prop) (h0 : I 0) (hx : I N → GW p l e R s m args below meth c V A nL Q n ad el cells slots pc (lvf N) st) (hs : ∀ i, i < N → I i → (I (i + 1) → GW p l e R s m args below meth c V A nL Q n ad el cells slots pc (lvf (i + 1)) st) → GW p l e R s m args below meth c V A nL Q n ad el cells slots pc (lvf i) st) : GW p l e R s m args below meth c V A nL Q n ad el cells slots pc (lvf 0) st :=
  g_down (fun i => I i → GW p l e R s m args below meth c V A nL Q n ad el cells slots pc (lvf i) st) N hx (fun i hi ih h1 => hs i hi h1 ih) 0 (Nat.zero_le _) h0
end GPP

set_option maxHeartbeats 4000000 in
set_option maxRecDepth 100000 in
theorem c_X5_isClean (l : Launch) (V : gT) {n : Nat} {ad : Nat → Nat} {el : Nat → va_E} {thr : Int32} {cnt : Nat} {M St We pl sh : Nat → Int32} {F T : Nat → Nat → Int32} (hn : 92 ≤ n) (hc : cnt ≤ 20) (h : X5At V ad el thr cnt M St We pl sh F T) (hF : ∀ q, q < cnt → ∀ k, k < 30 → F32 (F q k)) (i : Nat) (hi : i < cnt) (a b x y : Nat) (hab : a ≤ b) (hb : b < 5) (hxy : x ≤ y) (hy : y < 6) : TT l V yX5_isClean wsX5_isClean { frames := 0, cells := 0, slots := 0, locals := 0 } n ad el [.ref (ad 85), .int (nI (30 * i)), .int (nI a), .int (nI b), .int (nI x), .int (nI y)] (QIr V n ad el (fun z => (z = 1 ∧ s_cl (F i) (T i) a b x y) ∨ (z = 0 ∧ ¬ s_cl (F i) (T i) a b x y))) 0 0 := by
  refine TT.body (cc := cX5_isClean) (maxL := 8) (ret := (some .boolean)) (by decide) rfl (Nat.le_of_ble_eq_true rfl) ?_
  intro p e s m below meth c C hnm
  refine g_lv [0, 1, 2, 3, 4, 5] (lv' := [(0, .ref (ad 85)), (1, .int (nI (30 * i))), (2, .int (nI a)), (3, .int (nI b)), (4, .int (nI x)), (5, .int (nI y))]) rfl ?_
  obtain ⟨m1, ⟨g16, m2, r9⟩, ⟨g17, m3, r10⟩, ⟨g18, m4, r11⟩, ⟨g19, m5, r12⟩, ⟨g20, m6, r13⟩, ⟨g21, m7, r14⟩⟩ := id h
  refine g_iload_n C 2 rfl dX5_isClean_0 ?_
  refine g_istore C (lv' := [(6, .int (nI a)), (0, .ref (ad 85)), (1, .int (nI (30 * i))), (2, .int (nI a)), (3, .int (nI b)), (4, .int (nI x)), (5, .int (nI y))]) dX5_isClean_1 (by decide) rfl ?_
  refine g_lv [0, 1, 2, 3, 4, 5, 6] (lv' := [(6, .int (nI a)), (0, .ref (ad 85)), (1, .int (nI (30 * i))), (2, .int (nI a)), (3, .int (nI b)), (4, .int (nI x)), (5, .int (nI y))]) rfl ?_
  refine g_forP (b + 1 - a) (fun (k : Nat) => [(6, .int (nI (a + k))), (0, .ref (ad 85)), (1, .int (nI (30 * i))), (2, .int (nI a)), (3, .int (nI b)), (4, .int (nI x)), (5, .int (nI y))]) (fun k => ∀ r, a ≤ r → r < a + k → ∀ q, x ≤ q → q ≤ y → T i (6 * r + q) = 0 ∧ F i (6 * r + q) = 0) (fun r h3 h4 => absurd h4 (by omega)) (fun h1 => ?_) (fun k hk h1 ih => ?_)
  · -- loop 3: its end
    refine g_iload C 0 rfl dX5_isClean_3 ?_
    refine g_iload_n C 4 rfl dX5_isClean_5 ?_
    refine g_icmp_gt C (tgt := 52) dX5_isClean_6 (by decide) (fun c6 => ?_) (fun c6 => ?_)
    · -- 52
      have c6 : b < (a + (b + 1 - a)) := (nI_ltI (by omega) (by omega)).mp c6
      refine g_iconst C (v := nI 1) dX5_isClean_52 (by decide) ?_
      exact g_zret C rfl rfl dX5_isClean_53 () rfl rfl rfl (Or.inl ⟨rfl, fun r h3 h4 q h5 h6 => h1 r h3 (by omega) q h5 h6⟩) (Nat.le_of_ble_eq_true rfl) (Nat.le_of_ble_eq_true rfl)
    · -- 9
      have c6 : (a + (b + 1 - a)) ≤ b := Nat.le_of_not_lt (fun z => c6 ((nI_ltI (by omega) (by omega)).mpr z))
      exact absurd c6 (by omega)
  · -- loop 3: its body
    refine g_iload C 0 rfl dX5_isClean_3 ?_
    refine g_iload_n C 4 rfl dX5_isClean_5 ?_
    refine g_icmp_gt C (tgt := 52) dX5_isClean_6 (by decide) (fun c6 => ?_) (fun c6 => ?_)
    · -- 52
      have c6 : b < (a + k) := (nI_ltI (by omega) (by omega)).mp c6
      exact absurd c6 (by omega)
    · -- 9
      have c6 : (a + k) ≤ b := Nat.le_of_not_lt (fun z => c6 ((nI_ltI (by omega) (by omega)).mpr z))
      refine g_iload C 5 rfl dX5_isClean_9 ?_
      refine g_istore C (lv' := [(7, .int (nI x)), (6, .int (nI (a + k))), (0, .ref (ad 85)), (1, .int (nI (30 * i))), (2, .int (nI a)), (3, .int (nI b)), (4, .int (nI x)), (5, .int (nI y))]) dX5_isClean_11 (by decide) rfl ?_
      refine g_lv [0, 1, 2, 3, 4, 5, 6, 7] (lv' := [(7, .int (nI x)), (6, .int (nI (a + k))), (0, .ref (ad 85)), (1, .int (nI (30 * i))), (2, .int (nI a)), (3, .int (nI b)), (4, .int (nI x)), (5, .int (nI y))]) rfl ?_
      refine g_forP (y + 1 - x) (fun (j : Nat) => [(7, .int (nI (x + j))), (6, .int (nI (a + k))), (0, .ref (ad 85)), (1, .int (nI (30 * i))), (2, .int (nI a)), (3, .int (nI b)), (4, .int (nI x)), (5, .int (nI y))]) (fun j => ∀ q, x ≤ q → q < x + j → T i (6 * (a + k) + q) = 0 ∧ F i (6 * (a + k) + q) = 0) (fun q h3 h4 => absurd h4 (by omega)) (fun j1 => ?_) (fun j hj j1 jh => ?_)
      · -- loop 13: its end
        refine g_iload C 0 rfl dX5_isClean_13 ?_
        refine g_iload C 7 rfl dX5_isClean_15 ?_
        refine g_icmp_gt C (tgt := 46) dX5_isClean_17 (by decide) (fun c17 => ?_) (fun c17 => ?_)
        · -- 46
          have c17 : y < (x + (y + 1 - x)) := (nI_ltI (by omega) (by omega)).mp c17
          refine g_iinc C 1 rfl (v := nI (a + k + 1)) (lv' := [(6, .int (nI (a + k + 1))), (7, .int (nI (x + (y + 1 - x)))), (0, .ref (ad 85)), (1, .int (nI (30 * i))), (2, .int (nI a)), (3, .int (nI b)), (4, .int (nI x)), (5, .int (nI y))]) dX5_isClean_46 (nI_add _ _) (by decide) rfl ?_
          refine g_goto C (tgt := 3) dX5_isClean_49 (by decide) ?_
          refine g_lv [0, 2, 3, 4, 5, 6, 7] (lv' := [(6, .int (nI (a + k + 1))), (0, .ref (ad 85)), (1, .int (nI (30 * i))), (2, .int (nI a)), (3, .int (nI b)), (4, .int (nI x)), (5, .int (nI y))]) rfl ?_
          exact ih (fun r h3 h4 q h5 h6 => by
              by_cases e : r = a + k
              · subst e; exact j1 q h5 (by omega)
              · exact h1 r h3 (by omega) q h5 h6)
        · -- 20
          have c17 : (x + (y + 1 - x)) ≤ y := Nat.le_of_not_lt (fun z => c17 ((nI_ltI (by omega) (by omega)).mpr z))
          exact absurd c17 (by omega)
      · -- loop 13: its body
        refine g_iload C 0 rfl dX5_isClean_13 ?_
        refine g_iload C 7 rfl dX5_isClean_15 ?_
        refine g_icmp_gt C (tgt := 46) dX5_isClean_17 (by decide) (fun c17 => ?_) (fun c17 => ?_)
        · -- 46
          have c17 : y < (x + j) := (nI_ltI (by omega) (by omega)).mp c17
          exact absurd c17 (by omega)
        · -- 20
          have c17 : (x + j) ≤ y := Nat.le_of_not_lt (fun z => c17 ((nI_ltI (by omega) (by omega)).mpr z))
          refine g_aload_n C 2 rfl dX5_isClean_20 ?_
          refine g_getf C 85 (by omega) m1 rfl 2 (by decide) (fun w h => (List.mem_cons_of_mem _ (List.mem_append_right _ h))) (List.mem_of_getElem? (i := 1) rfl) rfl rfl dX5_isClean_21 ?_
          refine g_iload_n C 3 rfl dX5_isClean_24 ?_
          refine g_bipush C (v := nI 6) dX5_isClean_25 (by decide) ?_
          refine g_iload C 1 rfl dX5_isClean_27 ?_
          refine g_imul C (v := nI (6 * (a + k))) dX5_isClean_29 (pk_mul _ _) ?_
          refine g_iadd C (v := nI ((30 * i) + (6 * (a + k)))) dX5_isClean_30 (nI_add _ _) ?_
          refine g_iload C 0 rfl dX5_isClean_31 ?_
          refine g_iadd C (v := nI (((30 * i) + (6 * (a + k))) + (x + j))) dX5_isClean_33 (nI_add _ _) ?_
          refine g_iald C 86 (by omega) m2 (30 * i + (6 * (a + k) + (x + j))) (congrArg nI (by omega)) (by omega) (by decide) dX5_isClean_34 ?_
          refine g_top (r9 i (by omega) (6 * (a + k) + (x + j)) (by omega)) ?_
          refine g_if_eq C (tgt := 40) dX5_isClean_35 (by decide) (fun c35 => ?_) (fun c35 => ?_)
          · -- 40
            refine g_iinc C 0 rfl (v := nI (x + j + 1)) (lv' := [(7, .int (nI (x + j + 1))), (6, .int (nI (a + k))), (0, .ref (ad 85)), (1, .int (nI (30 * i))), (2, .int (nI a)), (3, .int (nI b)), (4, .int (nI x)), (5, .int (nI y))]) dX5_isClean_40 (nI_add _ _) (by decide) rfl ?_
            refine g_goto C (tgt := 13) dX5_isClean_43 (by decide) ?_
            refine g_lv [0, 1, 2, 3, 4, 5, 6, 7] (lv' := [(7, .int (nI (x + j + 1))), (6, .int (nI (a + k))), (0, .ref (ad 85)), (1, .int (nI (30 * i))), (2, .int (nI a)), (3, .int (nI b)), (4, .int (nI x)), (5, .int (nI y))]) rfl ?_
            exact jh (fun q h5 h6 => by
                by_cases e : q = x + j
                · subst e; exact (enc_0 (hF i hi _ (by omega))).mp c35
                · exact j1 q h5 (by omega))
          · -- 38
            refine g_iconst C (v := nI 0) dX5_isClean_38 (by decide) ?_
            exact g_zret C rfl rfl dX5_isClean_39 () rfl rfl rfl (Or.inr ⟨rfl, fun z => c35 ((enc_0 (hF i hi _ (by omega))).mpr (z (a + k) (by omega) (by omega) (x + j) (by omega) (by omega)))⟩) (Nat.le_of_ble_eq_true rfl) (Nat.le_of_ble_eq_true rfl)
