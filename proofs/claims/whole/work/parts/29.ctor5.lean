/-! ===== the reference's constructor ===== -/
set_option maxHeartbeats 4000000 in
set_option maxRecDepth 100000 in
theorem c_X5_init (l : Launch) (V : gT) {ad : Nat → Nat} {el : Nat → va_E} (he : el 85 = .inr (5, [.int 0, .int 0, .null, .null, .null, .null, .null, .null])) : TT l V yX5_init wsX5_init { frames := 1, cells := 6, slots := 680, locals := 24 } 86 ad el [.ref (ad 85)] (QVn V (fun u => u.1 = 92 ∧ (∀ j, j < 86 → u.2.1 j = ad j) ∧ X5At V u.2.1 u.2.2 0 0 s_M0 (fun _ => 200) (fun _ => 0) (fun _ => 0) (fun _ => 0) (fun _ _ => 0) (fun _ _ => 0) ∧ ∀ j, j < 85 → u.2.2 j = el j)) 6 680 := by
  refine TT.body (cc := cX5_init) (maxL := 2) (ret := none) (by decide) rfl (Nat.le_of_ble_eq_true rfl) ?_
  intro p e s m below meth c C hnm
  refine g_lv [0] (lv' := [(0, .ref (ad 85))]) rfl ?_
  refine g_aload_n C 0 rfl dX5_init_0 ?_
  refine g_objInit C (List.mem_of_getElem? (i := 1) rfl) (List.mem_of_getElem? (i := 2) rfl) (List.mem_of_getElem? (i := 3) rfl) (Nat.le_of_ble_eq_true rfl) (Nat.le_of_ble_eq_true rfl) dX5_init_1 ?_
  refine g_aload_n C 0 rfl dX5_init_4 ?_
  refine g_sipush C (v := nI 600) dX5_init_5 (by decide) ?_
  refine g_newa C 0 (List.mem_of_getElem? (i := 4) rfl) (ty := .int) rfl rfl (N := 600) (a0 := (600, .inl (fun _ => 0))) (fun cA => rfl) (by decide) (by decide) (by decide) (Nat.le_of_ble_eq_true rfl) (Nat.le_of_ble_eq_true rfl) dX5_init_8 (fun ad1 el2 ha3 he4 hb5 => ?_)
  refine g_lveq (lv' := [(0, .ref (ad1 85))]) (by rw [ha3 85 (by omega)]) ?_
  refine g_steq (st' := .ref (ad1 86) :: [.ref (ad1 85)]) (by rw [ha3 85 (by omega)]) ?_
  have m6 : el2 85 = .inr (5, [.int 0, .int 0, .null, .null, .null, .null, .null, .null]) := by rw [hb5 85 (by omega), he]
  refine g_putfF C 85 (by omega) m6 rfl 2 (by decide) (fun w h => (List.mem_cons_of_mem _ (List.mem_append_right _ h))) tyX5 tyX5_ok nmX5 (List.mem_of_getElem? (i := 5) rfl) rfl hnm rfl rfl rfl rfl (Nat.le_of_ble_eq_true rfl) dX5_init_10 (fun el7 e8 o9 => ?_)
  replace e8 : el7 85 = .inr (5, [.int 0, .int 0, .ref (ad1 86), .null, .null, .null, .null, .null]) := e8
  have m10 := (o9 86 (by omega)).trans he4
  refine g_aload_n C 0 rfl dX5_init_13 ?_
  refine g_bipush C (v := nI 6) dX5_init_14 (by decide) ?_
  refine g_newa C 0 (List.mem_of_getElem? (i := 4) rfl) (ty := .int) rfl rfl (N := 6) (a0 := (6, .inl (fun _ => 0))) (fun cA => rfl) (by decide) (by decide) (by decide) (Nat.le_of_ble_eq_true rfl) (Nat.le_of_ble_eq_true rfl) dX5_init_16 (fun ad11 el12 ha13 he14 hb15 => ?_)
  refine g_lveq (lv' := [(0, .ref (ad11 85))]) (by rw [ha13 85 (by omega)]) ?_
  refine g_steq (st' := .ref (ad11 87) :: [.ref (ad11 85)]) (by rw [ha13 85 (by omega)]) ?_
  have m16 := (hb15 86 (by omega)).trans m10
  have m17 : el12 85 = .inr (5, [.int 0, .int 0, .ref (ad11 86), .null, .null, .null, .null, .null]) := by rw [hb15 85 (by omega), e8, ha13 86 (by omega)]
  refine g_dup C dX5_init_18 rfl ?_
  refine g_iconst C (v := nI 0) dX5_init_19 (by decide) ?_
  refine g_bipush C (v := nI 20) dX5_init_20 (by decide) ?_
  refine g_iast C 87 (by omega) he14 0 rfl (by omega) (by decide) dX5_init_22 (fun el18 e19 o20 => ?_)
  have m21 := (o20 86 (by omega)).trans m16
  have m22 := (o20 85 (by omega)).trans m17
  refine g_dup C dX5_init_23 rfl ?_
  refine g_iconst C (v := nI 1) dX5_init_24 (by decide) ?_
  refine g_iconst C (v := nI 0) dX5_init_25 (by decide) ?_
  refine g_iast C 87 (by omega) e19 1 rfl (by omega) (by decide) dX5_init_26 (fun el23 e24 o25 => ?_)
  have m26 := (o25 86 (by omega)).trans m21
  have m27 := (o25 85 (by omega)).trans m22
  refine g_dup C dX5_init_27 rfl ?_
  refine g_iconst C (v := nI 2) dX5_init_28 (by decide) ?_
  refine g_iconst C (v := nI 0) dX5_init_29 (by decide) ?_
  refine g_iast C 87 (by omega) e24 2 rfl (by omega) (by decide) dX5_init_30 (fun el28 e29 o30 => ?_)
  have m31 := (o30 86 (by omega)).trans m26
  have m32 := (o30 85 (by omega)).trans m27
  refine g_dup C dX5_init_31 rfl ?_
  refine g_iconst C (v := nI 3) dX5_init_32 (by decide) ?_
  refine g_iconst C (v := nI 0) dX5_init_33 (by decide) ?_
  refine g_iast C 87 (by omega) e29 3 rfl (by omega) (by decide) dX5_init_34 (fun el33 e34 o35 => ?_)
  have m36 := (o35 86 (by omega)).trans m31
  have m37 := (o35 85 (by omega)).trans m32
  refine g_dup C dX5_init_35 rfl ?_
  refine g_iconst C (v := nI 4) dX5_init_36 (by decide) ?_
  refine g_iconst C (v := nI 1) dX5_init_37 (by decide) ?_
  refine g_iast C 87 (by omega) e34 4 rfl (by omega) (by decide) dX5_init_38 (fun el38 e39 o40 => ?_)
  have m41 := (o40 86 (by omega)).trans m36
  have m42 := (o40 85 (by omega)).trans m37
  refine g_dup C dX5_init_39 rfl ?_
  refine g_iconst C (v := nI 5) dX5_init_40 (by decide) ?_
  refine g_iconst C (v := nI 0) dX5_init_41 (by decide) ?_
  refine g_iast C 87 (by omega) e39 5 rfl (by omega) (by decide) dX5_init_42 (fun el43 e44 o45 => ?_)
  have m46 := (o45 86 (by omega)).trans m41
  have m47 := (o45 85 (by omega)).trans m42
  refine g_putfF C 85 (by omega) m47 rfl 3 (by decide) (fun w h => (List.mem_cons_of_mem _ (List.mem_append_right _ h))) tyX5 tyX5_ok nmX5 (List.mem_of_getElem? (i := 6) rfl) rfl hnm rfl rfl rfl rfl (Nat.le_of_ble_eq_true rfl) dX5_init_43 (fun el48 e49 o50 => ?_)
  replace e49 : el48 85 = .inr (5, [.int 0, .int 0, .ref (ad11 86), .ref (ad11 87), .null, .null, .null, .null]) := e49
  have m51 := (o50 86 (by omega)).trans m46
  have m52 := (o50 87 (by omega)).trans e44
  refine g_aload_n C 0 rfl dX5_init_46 ?_
  refine g_bipush C (v := nI 7) dX5_init_47 (by decide) ?_
  refine g_newa C 0 (List.mem_of_getElem? (i := 4) rfl) (ty := .int) rfl rfl (N := 7) (a0 := (7, .inl (fun _ => 0))) (fun cA => rfl) (by decide) (by decide) (by decide) (Nat.le_of_ble_eq_true rfl) (Nat.le_of_ble_eq_true rfl) dX5_init_49 (fun ad53 el54 ha55 he56 hb57 => ?_)
  refine g_lveq (lv' := [(0, .ref (ad53 85))]) (by rw [ha55 85 (by omega)]) ?_
  refine g_steq (st' := .ref (ad53 88) :: [.ref (ad53 85)]) (by rw [ha55 85 (by omega)]) ?_
  have m58 := (hb57 86 (by omega)).trans m51
  have m59 := (hb57 87 (by omega)).trans m52
  have m60 : el54 85 = .inr (5, [.int 0, .int 0, .ref (ad53 86), .ref (ad53 87), .null, .null, .null, .null]) := by rw [hb57 85 (by omega), e49, ha55 86 (by omega), ha55 87 (by omega)]
  refine g_putfF C 85 (by omega) m60 rfl 4 (by decide) (fun w h => (List.mem_cons_of_mem _ (List.mem_append_right _ h))) tyX5 tyX5_ok nmX5 (List.mem_of_getElem? (i := 7) rfl) rfl hnm rfl rfl rfl rfl (Nat.le_of_ble_eq_true rfl) dX5_init_51 (fun el61 e62 o63 => ?_)
  replace e62 : el61 85 = .inr (5, [.int 0, .int 0, .ref (ad53 86), .ref (ad53 87), .ref (ad53 88), .null, .null, .null]) := e62
  have m64 := (o63 86 (by omega)).trans m58
  have m65 := (o63 87 (by omega)).trans m59
  have m66 := (o63 88 (by omega)).trans he56
  refine g_aload_n C 0 rfl dX5_init_54 ?_
  refine g_bipush C (v := nI 7) dX5_init_55 (by decide) ?_
  refine g_newa C 0 (List.mem_of_getElem? (i := 4) rfl) (ty := .int) rfl rfl (N := 7) (a0 := (7, .inl (fun _ => 0))) (fun cA => rfl) (by decide) (by decide) (by decide) (Nat.le_of_ble_eq_true rfl) (Nat.le_of_ble_eq_true rfl) dX5_init_57 (fun ad67 el68 ha69 he70 hb71 => ?_)
  refine g_lveq (lv' := [(0, .ref (ad67 85))]) (by rw [ha69 85 (by omega)]) ?_
  refine g_steq (st' := .ref (ad67 89) :: [.ref (ad67 85)]) (by rw [ha69 85 (by omega)]) ?_
  have m72 := (hb71 86 (by omega)).trans m64
  have m73 := (hb71 87 (by omega)).trans m65
  have m74 := (hb71 88 (by omega)).trans m66
  have m75 : el68 85 = .inr (5, [.int 0, .int 0, .ref (ad67 86), .ref (ad67 87), .ref (ad67 88), .null, .null, .null]) := by rw [hb71 85 (by omega), e62, ha69 86 (by omega), ha69 87 (by omega), ha69 88 (by omega)]
  refine g_putfF C 85 (by omega) m75 rfl 5 (by decide) (fun w h => (List.mem_cons_of_mem _ (List.mem_append_right _ h))) tyX5 tyX5_ok nmX5 (List.mem_of_getElem? (i := 8) rfl) rfl hnm rfl rfl rfl rfl (Nat.le_of_ble_eq_true rfl) dX5_init_59 (fun el76 e77 o78 => ?_)
  replace e77 : el76 85 = .inr (5, [.int 0, .int 0, .ref (ad67 86), .ref (ad67 87), .ref (ad67 88), .ref (ad67 89), .null, .null]) := e77
  have m79 := (o78 86 (by omega)).trans m72
  have m80 := (o78 87 (by omega)).trans m73
  have m81 := (o78 88 (by omega)).trans m74
  have m82 := (o78 89 (by omega)).trans he70
  refine g_aload_n C 0 rfl dX5_init_62 ?_
  refine g_bipush C (v := nI 30) dX5_init_63 (by decide) ?_
  refine g_newa C 1 (List.mem_of_getElem? (i := 9) rfl) (ty := .boolean) rfl rfl (N := 30) (a0 := (30, .inl (fun _ => 0))) (fun cA => rfl) (by decide) (by decide) (by decide) (Nat.le_of_ble_eq_true rfl) (Nat.le_of_ble_eq_true rfl) dX5_init_65 (fun ad83 el84 ha85 he86 hb87 => ?_)
  refine g_lveq (lv' := [(0, .ref (ad83 85))]) (by rw [ha85 85 (by omega)]) ?_
  refine g_steq (st' := .ref (ad83 90) :: [.ref (ad83 85)]) (by rw [ha85 85 (by omega)]) ?_
  have m88 := (hb87 86 (by omega)).trans m79
  have m89 := (hb87 87 (by omega)).trans m80
  have m90 := (hb87 88 (by omega)).trans m81
  have m91 := (hb87 89 (by omega)).trans m82
  have m92 : el84 85 = .inr (5, [.int 0, .int 0, .ref (ad83 86), .ref (ad83 87), .ref (ad83 88), .ref (ad83 89), .null, .null]) := by rw [hb87 85 (by omega), e77, ha85 86 (by omega), ha85 87 (by omega), ha85 88 (by omega), ha85 89 (by omega)]
  refine g_putfF C 85 (by omega) m92 rfl 6 (by decide) (fun w h => (List.mem_cons_of_mem _ (List.mem_append_right _ h))) tyX5 tyX5_ok nmX5 (List.mem_of_getElem? (i := 10) rfl) rfl hnm rfl rfl rfl rfl (Nat.le_of_ble_eq_true rfl) dX5_init_67 (fun el93 e94 o95 => ?_)
  replace e94 : el93 85 = .inr (5, [.int 0, .int 0, .ref (ad83 86), .ref (ad83 87), .ref (ad83 88), .ref (ad83 89), .ref (ad83 90), .null]) := e94
  have m96 := (o95 86 (by omega)).trans m88
  have m97 := (o95 87 (by omega)).trans m89
  have m98 := (o95 88 (by omega)).trans m90
  have m99 := (o95 89 (by omega)).trans m91
  have m100 := (o95 90 (by omega)).trans he86
  refine g_aload_n C 0 rfl dX5_init_70 ?_
  refine g_bipush C (v := nI 30) dX5_init_71 (by decide) ?_
  refine g_newa C 0 (List.mem_of_getElem? (i := 4) rfl) (ty := .int) rfl rfl (N := 30) (a0 := (30, .inl (fun _ => 0))) (fun cA => rfl) (by decide) (by decide) (by decide) (Nat.le_of_ble_eq_true rfl) (Nat.le_of_ble_eq_true rfl) dX5_init_73 (fun ad101 el102 ha103 he104 hb105 => ?_)
  refine g_lveq (lv' := [(0, .ref (ad101 85))]) (by rw [ha103 85 (by omega)]) ?_
  refine g_steq (st' := .ref (ad101 91) :: [.ref (ad101 85)]) (by rw [ha103 85 (by omega)]) ?_
  have m106 := (hb105 86 (by omega)).trans m96
  have m107 := (hb105 87 (by omega)).trans m97
  have m108 := (hb105 88 (by omega)).trans m98
  have m109 := (hb105 89 (by omega)).trans m99
  have m110 := (hb105 90 (by omega)).trans m100
  have m111 : el102 85 = .inr (5, [.int 0, .int 0, .ref (ad101 86), .ref (ad101 87), .ref (ad101 88), .ref (ad101 89), .ref (ad101 90), .null]) := by rw [hb105 85 (by omega), e94, ha103 86 (by omega), ha103 87 (by omega), ha103 88 (by omega), ha103 89 (by omega), ha103 90 (by omega)]
  refine g_putfF C 85 (by omega) m111 rfl 7 (by decide) (fun w h => (List.mem_cons_of_mem _ (List.mem_append_right _ h))) tyX5 tyX5_ok nmX5 (List.mem_of_getElem? (i := 11) rfl) rfl hnm rfl rfl rfl rfl (Nat.le_of_ble_eq_true rfl) dX5_init_75 (fun el112 e113 o114 => ?_)
  replace e113 : el112 85 = .inr (5, [.int 0, .int 0, .ref (ad101 86), .ref (ad101 87), .ref (ad101 88), .ref (ad101 89), .ref (ad101 90), .ref (ad101 91)]) := e113
  have m115 := (o114 86 (by omega)).trans m106
  have m116 := (o114 87 (by omega)).trans m107
  have m117 := (o114 88 (by omega)).trans m108
  have m118 := (o114 89 (by omega)).trans m109
  have m119 := (o114 90 (by omega)).trans m110
  have m120 := (o114 91 (by omega)).trans he104
  refine g_iconst C (v := nI 0) dX5_init_78 (by decide) ?_
  refine g_istore_n C (lv' := [(1, .int (nI 0)), (0, .ref (ad101 85))]) dX5_init_79 (by decide) rfl ?_
  refine g_lv [0, 1] (lv' := [(1, .int (nI 0)), (0, .ref (ad101 85))]) rfl ?_
  have hfr : ∀ j, j < 85 → el112 j = el j := fun j hj => (o114 j (by omega)).trans ((hb105 j (by omega)).trans ((o95 j (by omega)).trans ((hb87 j (by omega)).trans ((o78 j (by omega)).trans ((hb71 j (by omega)).trans ((o63 j (by omega)).trans ((hb57 j (by omega)).trans ((o50 j (by omega)).trans ((o45 j (by omega)).trans ((o40 j (by omega)).trans ((o35 j (by omega)).trans ((o30 j (by omega)).trans ((o25 j (by omega)).trans ((o20 j (by omega)).trans ((hb15 j (by omega)).trans ((o9 j (by omega)).trans (hb5 j (by omega))))))))))))))))))
  have had : ∀ j, j < 86 → ad101 j = ad j := fun j hj => (ha103 j (by omega)).trans ((ha85 j (by omega)).trans ((ha69 j (by omega)).trans ((ha55 j (by omega)).trans ((ha13 j (by omega)).trans (ha3 j (by omega))))))
  refine g_forE 7 (fun (i : Nat) => [(1, .int (nI i)), (0, .ref (ad101 85))]) (fun i e9 => (∃ g : Nat → Int32, e9 88 = .inl (V.2 0, 7, .inl g) ∧ ∀ q, q < i → g q = 200) ∧ ∀ j, j ≠ 88 → e9 j = el112 j) ⟨⟨_, m117, fun q hq => absurd hq (by omega)⟩, fun j _ => rfl⟩ (fun el1 h1 => ?_) (fun i el1 hi h1 ih => ?_)
  all_goals obtain ⟨⟨g, k1, k2⟩, k3⟩ := id h1
  · -- end
    refine g_iload_n C 0 rfl dX5_init_80 ?_
    refine g_bipush C (v := nI 7) dX5_init_81 (by decide) ?_
    refine g_icmp_ge C (tgt := 101) dX5_init_83 (by decide) (fun c83 => ?_) (fun c83 => ?_)
    · -- 101
      have c83 : 7 ≤ 7 := (nI_leI (by omega) (by omega)).mp c83
      exact g_vret C rfl dX5_init_101 (92, ad101, el1) rfl rfl rfl ⟨rfl, had, ⟨(k3 85 (by omega)).trans e113, ⟨_, (k3 86 (by omega)).trans m115, fun q hq => absurd hq (by omega)⟩, ⟨_, (k3 87 (by omega)).trans m116, fun j hj => by
            rcases (show j = 0 ∨ j = 1 ∨ j = 2 ∨ j = 3 ∨ j = 4 ∨ j = 5 by omega) with rfl | rfl | rfl | rfl | rfl | rfl <;> rfl⟩, ⟨_, k1, k2⟩, ⟨_, (k3 89 (by omega)).trans m118, fun j hj => rfl⟩, ⟨_, (k3 90 (by omega)).trans m119, fun j hj => rfl⟩, ⟨_, (k3 91 (by omega)).trans m120, fun j hj => rfl⟩⟩, fun j hj => (k3 j (by omega)).trans (hfr j hj)⟩ (Nat.le_of_ble_eq_true rfl) (Nat.le_of_ble_eq_true rfl)
    · -- 86
      have c83 : 7 < 7 := Nat.lt_of_not_le (fun z => c83 ((nI_leI (by omega) (by omega)).mpr z))
      exact absurd c83 (by omega)
  · -- body
    have k4 := (k3 85 (by omega)).trans e113
    refine g_iload_n C 0 rfl dX5_init_80 ?_
    refine g_bipush C (v := nI 7) dX5_init_81 (by decide) ?_
    refine g_icmp_ge C (tgt := 101) dX5_init_83 (by decide) (fun c83 => ?_) (fun c83 => ?_)
    · -- 101
      have c83 : 7 ≤ i := (nI_leI (by omega) (by omega)).mp c83
      exact absurd c83 (by omega)
    · -- 86
      have c83 : i < 7 := Nat.lt_of_not_le (fun z => c83 ((nI_leI (by omega) (by omega)).mpr z))
      refine g_aload_n C 1 rfl dX5_init_86 ?_
      refine g_getf C 85 (by omega) k4 rfl 4 (by decide) (fun w h => (List.mem_cons_of_mem _ (List.mem_append_right _ h))) (List.mem_of_getElem? (i := 7) rfl) rfl rfl dX5_init_87 ?_
      refine g_iload_n C 0 rfl dX5_init_90 ?_
      refine g_sipush C (v := nI 200) dX5_init_91 (by decide) ?_
      refine g_iast C 88 (by omega) k1 i rfl (by omega) (by decide) dX5_init_94 (fun el121 e122 o123 => ?_)
      have m124 := (o123 85 (by omega)).trans k4
      refine g_iinc C 0 rfl (v := nI (i + 1)) (lv' := [(1, .int (nI (i + 1))), (0, .ref (ad101 85))]) dX5_init_95 (nI_add _ _) (by decide) rfl ?_
      refine g_goto C (tgt := 80) dX5_init_98 (by decide) ?_
      refine g_lv [0, 1] (lv' := [(1, .int (nI (i + 1))), (0, .ref (ad101 85))]) rfl ?_
      exact ih el121 ⟨⟨_, e122, fun q hq => by
          by_cases e : q = i
          · subst e; exact pk_us
          · rw [pk_un e]; exact k2 q (by omega)⟩, fun j hj => (o123 j hj).trans (k3 j hj)⟩
