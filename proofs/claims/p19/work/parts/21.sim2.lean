/-! ===== the law's own machine: its constructor ===== -/
theorem g_inner (c : ClassId) (M : Nat) (ty : FieldType) (h : defaultValue ty = .int 0) : Jvm.Free.Multi.innerC c M (defaultValue ty) = vp_cell c (M, .inl (fun _ => 0)) := by
  rw [h]
  show ({ cls := c, slots := Array.replicate M (.int 0), vm := .none } : Cell) = _
  rw [arrV_new]
  rfl

set_option maxHeartbeats 4000000 in
set_option maxRecDepth 100000 in
theorem c_X5_init (l : Launch) (V : gT) {ad : Nat → Nat} {el : Nat → va_E} (he : el 85 = .inr (5, [.int 0, .int 0, .int 0, .int 0, .int 0, .int 0, .null, .null, .null, .null, .null, .null])) : TT l V yX5_init wsX5_init { frames := 1, cells := 11, slots := 56, locals := 24 } 86 ad el [.ref (ad 85)] (QVn V (fun u => u.1 = 97 ∧ (∀ j, j < 86 → u.2.1 j = ad j) ∧ SimAt V u.2.1 u.2.2 97 0 s_M0 (fun _ => 200) (fun _ => 0) (fun _ => 0) (fun _ _ => 0) (fun _ _ => 0) ∧ ∀ j, j < 85 → u.2.2 j = el j)) 11 56 := by
  refine TT.body (cc := cX5_init) (maxL := 1) (ret := none) (by decide) rfl (Nat.le_of_ble_eq_true rfl) ?_
  intro p e s m below meth c C hnm
  refine g_lv [0] (lv' := [(0, .ref (ad 85))]) rfl ?_
  refine g_aload_n C 0 rfl dX5_init_0 ?_
  refine g_objInit C (List.mem_of_getElem? (i := 1) rfl) (List.mem_of_getElem? (i := 2) rfl) (List.mem_of_getElem? (i := 3) rfl) (Nat.le_of_ble_eq_true rfl) (Nat.le_of_ble_eq_true rfl) dX5_init_1 ?_
  refine g_aload_n C 0 rfl dX5_init_4 ?_
  refine g_bipush C (v := nI 20) dX5_init_5 (by decide) ?_
  refine g_putf C 85 (by omega) he rfl 0 (by decide) (fun w h => (List.mem_cons_of_mem _ (List.mem_append_right _ h))) tyX5 tyX5_ok nmX5 (List.mem_of_getElem? (i := 4) rfl) rfl rfl rfl rfl (Nat.le_of_ble_eq_true rfl) dX5_init_7 (fun el1 e2 o3 => ?_)
  replace e2 : el1 85 = .inr (5, [.int (nI 20), .int 0, .int 0, .int 0, .int 0, .int 0, .null, .null, .null, .null, .null, .null]) := e2
  refine g_aload_n C 0 rfl dX5_init_10 ?_
  refine g_iconst C (v := nI 1) dX5_init_11 (by decide) ?_
  refine g_putf C 85 (by omega) e2 rfl 4 (by decide) (fun w h => (List.mem_cons_of_mem _ (List.mem_append_right _ h))) tyX5 tyX5_ok nmX5 (List.mem_of_getElem? (i := 5) rfl) rfl rfl rfl rfl (Nat.le_of_ble_eq_true rfl) dX5_init_12 (fun el4 e5 o6 => ?_)
  replace e5 : el4 85 = .inr (5, [.int (nI 20), .int 0, .int 0, .int 0, .int (nI 1), .int 0, .null, .null, .null, .null, .null, .null]) := e5
  refine g_aload_n C 0 rfl dX5_init_15 ?_
  refine g_bipush C (v := nI 7) dX5_init_16 (by decide) ?_
  refine g_newa C 0 (List.mem_of_getElem? (i := 6) rfl) (ty := .int) rfl rfl (N := 7) (a0 := (7, .inl (fun _ => 0))) (fun cA => rfl) (by decide) (by decide) (by decide) (Nat.le_of_ble_eq_true rfl) (Nat.le_of_ble_eq_true rfl) dX5_init_18 (fun ad7 el8 ha9 he10 hb11 => ?_)
  refine g_lveq (lv' := [(0, .ref (ad7 85))]) (by rw [ha9 85 (by omega)]) ?_
  refine g_steq (st' := .ref (ad7 86) :: [.ref (ad7 85)]) (by rw [ha9 85 (by omega)]) ?_
  have m12 : el8 85 = .inr (5, [.int (nI 20), .int 0, .int 0, .int 0, .int (nI 1), .int 0, .null, .null, .null, .null, .null, .null]) := by rw [hb11 85 (by omega), e5]
  refine g_dup C dX5_init_20 rfl ?_
  refine g_iconst C (v := nI 0) dX5_init_21 (by decide) ?_
  refine g_sipush C (v := nI 200) dX5_init_22 (by decide) ?_
  refine g_iast C 86 (by omega) he10 0 rfl (by omega) (by decide) dX5_init_25 (fun el13 e14 o15 => ?_)
  have m16 := (o15 85 (by omega)).trans m12
  refine g_dup C dX5_init_26 rfl ?_
  refine g_iconst C (v := nI 1) dX5_init_27 (by decide) ?_
  refine g_sipush C (v := nI 200) dX5_init_28 (by decide) ?_
  refine g_iast C 86 (by omega) e14 1 rfl (by omega) (by decide) dX5_init_31 (fun el17 e18 o19 => ?_)
  have m20 := (o19 85 (by omega)).trans m16
  refine g_dup C dX5_init_32 rfl ?_
  refine g_iconst C (v := nI 2) dX5_init_33 (by decide) ?_
  refine g_sipush C (v := nI 200) dX5_init_34 (by decide) ?_
  refine g_iast C 86 (by omega) e18 2 rfl (by omega) (by decide) dX5_init_37 (fun el21 e22 o23 => ?_)
  have m24 := (o23 85 (by omega)).trans m20
  refine g_dup C dX5_init_38 rfl ?_
  refine g_iconst C (v := nI 3) dX5_init_39 (by decide) ?_
  refine g_sipush C (v := nI 200) dX5_init_40 (by decide) ?_
  refine g_iast C 86 (by omega) e22 3 rfl (by omega) (by decide) dX5_init_43 (fun el25 e26 o27 => ?_)
  have m28 := (o27 85 (by omega)).trans m24
  refine g_dup C dX5_init_44 rfl ?_
  refine g_iconst C (v := nI 4) dX5_init_45 (by decide) ?_
  refine g_sipush C (v := nI 200) dX5_init_46 (by decide) ?_
  refine g_iast C 86 (by omega) e26 4 rfl (by omega) (by decide) dX5_init_49 (fun el29 e30 o31 => ?_)
  have m32 := (o31 85 (by omega)).trans m28
  refine g_dup C dX5_init_50 rfl ?_
  refine g_iconst C (v := nI 5) dX5_init_51 (by decide) ?_
  refine g_sipush C (v := nI 200) dX5_init_52 (by decide) ?_
  refine g_iast C 86 (by omega) e30 5 rfl (by omega) (by decide) dX5_init_55 (fun el33 e34 o35 => ?_)
  have m36 := (o35 85 (by omega)).trans m32
  refine g_dup C dX5_init_56 rfl ?_
  refine g_bipush C (v := nI 6) dX5_init_57 (by decide) ?_
  refine g_sipush C (v := nI 200) dX5_init_59 (by decide) ?_
  refine g_iast C 86 (by omega) e34 6 rfl (by omega) (by decide) dX5_init_62 (fun el37 e38 o39 => ?_)
  have m40 := (o39 85 (by omega)).trans m36
  refine g_putf C 85 (by omega) m40 rfl 6 (by decide) (fun w h => (List.mem_cons_of_mem _ (List.mem_append_right _ h))) tyX5 tyX5_ok nmX5 (List.mem_of_getElem? (i := 7) rfl) rfl rfl rfl rfl (Nat.le_of_ble_eq_true rfl) dX5_init_63 (fun el41 e42 o43 => ?_)
  replace e42 : el41 85 = .inr (5, [.int (nI 20), .int 0, .int 0, .int 0, .int (nI 1), .int 0, .ref (ad7 86), .null, .null, .null, .null, .null]) := e42
  have m44 := (o43 86 (by omega)).trans e38
  refine g_aload_n C 0 rfl dX5_init_66 ?_
  refine g_bipush C (v := nI 7) dX5_init_67 (by decide) ?_
  refine g_newa C 0 (List.mem_of_getElem? (i := 6) rfl) (ty := .int) rfl rfl (N := 7) (a0 := (7, .inl (fun _ => 0))) (fun cA => rfl) (by decide) (by decide) (by decide) (Nat.le_of_ble_eq_true rfl) (Nat.le_of_ble_eq_true rfl) dX5_init_69 (fun ad45 el46 ha47 he48 hb49 => ?_)
  refine g_lveq (lv' := [(0, .ref (ad45 85))]) (by rw [ha47 85 (by omega)]) ?_
  refine g_steq (st' := .ref (ad45 87) :: [.ref (ad45 85)]) (by rw [ha47 85 (by omega)]) ?_
  have m50 := (hb49 86 (by omega)).trans m44
  have m51 : el46 85 = .inr (5, [.int (nI 20), .int 0, .int 0, .int 0, .int (nI 1), .int 0, .ref (ad45 86), .null, .null, .null, .null, .null]) := by rw [hb49 85 (by omega), e42, ha47 86 (by omega)]
  refine g_putf C 85 (by omega) m51 rfl 7 (by decide) (fun w h => (List.mem_cons_of_mem _ (List.mem_append_right _ h))) tyX5 tyX5_ok nmX5 (List.mem_of_getElem? (i := 8) rfl) rfl rfl rfl rfl (Nat.le_of_ble_eq_true rfl) dX5_init_71 (fun el52 e53 o54 => ?_)
  replace e53 : el52 85 = .inr (5, [.int (nI 20), .int 0, .int 0, .int 0, .int (nI 1), .int 0, .ref (ad45 86), .ref (ad45 87), .null, .null, .null, .null]) := e53
  have m55 := (o54 86 (by omega)).trans m50
  have m56 := (o54 87 (by omega)).trans he48
  refine g_aload_n C 0 rfl dX5_init_74 ?_
  refine g_bipush C (v := nI 7) dX5_init_75 (by decide) ?_
  refine g_newa C 1 (List.mem_of_getElem? (i := 9) rfl) (ty := .boolean) rfl rfl (N := 7) (a0 := (7, .inl (fun _ => 0))) (fun cA => rfl) (by decide) (by decide) (by decide) (Nat.le_of_ble_eq_true rfl) (Nat.le_of_ble_eq_true rfl) dX5_init_77 (fun ad57 el58 ha59 he60 hb61 => ?_)
  refine g_lveq (lv' := [(0, .ref (ad57 85))]) (by rw [ha59 85 (by omega)]) ?_
  refine g_steq (st' := .ref (ad57 88) :: [.ref (ad57 85)]) (by rw [ha59 85 (by omega)]) ?_
  have m62 := (hb61 86 (by omega)).trans m55
  have m63 := (hb61 87 (by omega)).trans m56
  have m64 : el58 85 = .inr (5, [.int (nI 20), .int 0, .int 0, .int 0, .int (nI 1), .int 0, .ref (ad57 86), .ref (ad57 87), .null, .null, .null, .null]) := by rw [hb61 85 (by omega), e53, ha59 86 (by omega), ha59 87 (by omega)]
  refine g_putf C 85 (by omega) m64 rfl 8 (by decide) (fun w h => (List.mem_cons_of_mem _ (List.mem_append_right _ h))) tyX5 tyX5_ok nmX5 (List.mem_of_getElem? (i := 10) rfl) rfl rfl rfl rfl (Nat.le_of_ble_eq_true rfl) dX5_init_79 (fun el65 e66 o67 => ?_)
  replace e66 : el65 85 = .inr (5, [.int (nI 20), .int 0, .int 0, .int 0, .int (nI 1), .int 0, .ref (ad57 86), .ref (ad57 87), .ref (ad57 88), .null, .null, .null]) := e66
  have m68 := (o67 86 (by omega)).trans m62
  have m69 := (o67 87 (by omega)).trans m63
  have m70 := (o67 88 (by omega)).trans he60
  refine g_aload_n C 0 rfl dX5_init_82 ?_
  refine g_iconst C (v := nI 5) dX5_init_83 (by decide) ?_
  refine g_bipush C (v := nI 6) dX5_init_84 (by decide) ?_
  refine g_mna C 6 1 (ty := .boolean) (by simp [g_aat]) rfl rfl (List.mem_of_getElem? (i := 11) rfl) (List.mem_of_getElem? (i := 9) rfl) (N := 5) (M := 6) (by decide) (by decide) (by decide) (by decide) (Nat.le_of_ble_eq_true rfl) (Nat.le_of_ble_eq_true rfl) (Nat.le_of_ble_eq_true rfl) rfl rfl (fun c => g_inner c 6 .boolean rfl) (Nat.le_of_ble_eq_true rfl) (Nat.le_of_ble_eq_true rfl) dX5_init_86 (fun ad71 el72 ha73 he74 hr75 hb76 => ?_)
  refine g_lveq (lv' := [(0, .ref (ad71 85))]) (by rw [ha73 85 (by omega)]) ?_
  refine g_steq (st' := .ref (ad71 89) :: [.ref (ad71 85)]) (by rw [ha73 85 (by omega)]) ?_
  have m77 := (hb76 86 (by omega)).trans m68
  have m78 := (hb76 87 (by omega)).trans m69
  have m79 := (hb76 88 (by omega)).trans m70
  have m80 : el72 85 = .inr (5, [.int (nI 20), .int 0, .int 0, .int 0, .int (nI 1), .int 0, .ref (ad71 86), .ref (ad71 87), .ref (ad71 88), .null, .null, .null]) := by rw [hb76 85 (by omega), e66, ha73 86 (by omega), ha73 87 (by omega), ha73 88 (by omega)]
  have P81 : RwZ V ad71 el72 89 (fun _ => 0) := ⟨⟨_, he74, fun i hi => if_pos hi⟩, fun r hr => ⟨_, hr75 r hr, fun c hc => rfl⟩⟩
  refine g_putf C 85 (by omega) m80 rfl 9 (by decide) (fun w h => (List.mem_cons_of_mem _ (List.mem_append_right _ h))) tyX5 tyX5_ok nmX5 (List.mem_of_getElem? (i := 12) rfl) rfl rfl rfl rfl (Nat.le_of_ble_eq_true rfl) dX5_init_90 (fun el82 e83 o84 => ?_)
  replace e83 : el82 85 = .inr (5, [.int (nI 20), .int 0, .int 0, .int 0, .int (nI 1), .int 0, .ref (ad71 86), .ref (ad71 87), .ref (ad71 88), .ref (ad71 89), .null, .null]) := e83
  have m85 := (o84 86 (by omega)).trans m77
  have m86 := (o84 87 (by omega)).trans m78
  have m87 := (o84 88 (by omega)).trans m79
  have P88 := P81.keep (fun j h1 h2 => o84 j (by omega))
  refine g_aload_n C 0 rfl dX5_init_93 ?_
  refine g_iconst C (v := nI 0) dX5_init_94 (by decide) ?_
  refine g_newAA C 7 (ty := .array .int) (by simp [g_aat]) rfl (List.mem_of_getElem? (i := 13) rfl) (N := 0) (by decide) (by decide) (by decide) (Nat.le_of_ble_eq_true rfl) (Nat.le_of_ble_eq_true rfl) dX5_init_95 (fun ad89 el90 ha91 he92 hb93 => ?_)
  refine g_lveq (lv' := [(0, .ref (ad89 85))]) (by rw [ha91 85 (by omega)]) ?_
  refine g_steq (st' := .ref (ad89 95) :: [.ref (ad89 85)]) (by rw [ha91 85 (by omega)]) ?_
  have m94 := (hb93 86 (by omega)).trans m85
  have m95 := (hb93 87 (by omega)).trans m86
  have m96 := (hb93 88 (by omega)).trans m87
  have m97 : el90 85 = .inr (5, [.int (nI 20), .int 0, .int 0, .int 0, .int (nI 1), .int 0, .ref (ad89 86), .ref (ad89 87), .ref (ad89 88), .ref (ad89 89), .null, .null]) := by rw [hb93 85 (by omega), e83, ha91 86 (by omega), ha91 87 (by omega), ha91 88 (by omega), ha91 89 (by omega)]
  have P98 := (P88.keep (fun j h1 h2 => hb93 j (by omega))).adr (fun j h1 h2 => ha91 j (by omega))
  refine g_putf C 85 (by omega) m97 rfl 10 (by decide) (fun w h => (List.mem_cons_of_mem _ (List.mem_append_right _ h))) tyX5 tyX5_ok nmX5 (List.mem_of_getElem? (i := 14) rfl) rfl rfl rfl rfl (Nat.le_of_ble_eq_true rfl) dX5_init_98 (fun el99 e100 o101 => ?_)
  replace e100 : el99 85 = .inr (5, [.int (nI 20), .int 0, .int 0, .int 0, .int (nI 1), .int 0, .ref (ad89 86), .ref (ad89 87), .ref (ad89 88), .ref (ad89 89), .ref (ad89 95), .null]) := e100
  have m102 := (o101 86 (by omega)).trans m94
  have m103 := (o101 87 (by omega)).trans m95
  have m104 := (o101 88 (by omega)).trans m96
  have m105 := (o101 95 (by omega)).trans he92
  have P106 := P98.keep (fun j h1 h2 => o101 j (by omega))
  refine g_aload_n C 0 rfl dX5_init_101 ?_
  refine g_iconst C (v := nI 0) dX5_init_102 (by decide) ?_
  refine g_newAA C 2 (ty := .array .boolean) (by simp [g_aat]) rfl (List.mem_of_getElem? (i := 11) rfl) (N := 0) (by decide) (by decide) (by decide) (Nat.le_of_ble_eq_true rfl) (Nat.le_of_ble_eq_true rfl) dX5_init_103 (fun ad107 el108 ha109 he110 hb111 => ?_)
  refine g_lveq (lv' := [(0, .ref (ad107 85))]) (by rw [ha109 85 (by omega)]) ?_
  refine g_steq (st' := .ref (ad107 96) :: [.ref (ad107 85)]) (by rw [ha109 85 (by omega)]) ?_
  have m112 := (hb111 86 (by omega)).trans m102
  have m113 := (hb111 87 (by omega)).trans m103
  have m114 := (hb111 88 (by omega)).trans m104
  have m115 := (hb111 95 (by omega)).trans m105
  have m116 : el108 85 = .inr (5, [.int (nI 20), .int 0, .int 0, .int 0, .int (nI 1), .int 0, .ref (ad107 86), .ref (ad107 87), .ref (ad107 88), .ref (ad107 89), .ref (ad107 95), .null]) := by rw [hb111 85 (by omega), e100, ha109 86 (by omega), ha109 87 (by omega), ha109 88 (by omega), ha109 89 (by omega), ha109 95 (by omega)]
  have P117 := (P106.keep (fun j h1 h2 => hb111 j (by omega))).adr (fun j h1 h2 => ha109 j (by omega))
  refine g_putf C 85 (by omega) m116 rfl 11 (by decide) (fun w h => (List.mem_cons_of_mem _ (List.mem_append_right _ h))) tyX5 tyX5_ok nmX5 (List.mem_of_getElem? (i := 15) rfl) rfl rfl rfl rfl (Nat.le_of_ble_eq_true rfl) dX5_init_106 (fun el118 e119 o120 => ?_)
  replace e119 : el118 85 = .inr (5, [.int (nI 20), .int 0, .int 0, .int 0, .int (nI 1), .int 0, .ref (ad107 86), .ref (ad107 87), .ref (ad107 88), .ref (ad107 89), .ref (ad107 95), .ref (ad107 96)]) := e119
  have m121 := (o120 86 (by omega)).trans m112
  have m122 := (o120 87 (by omega)).trans m113
  have m123 := (o120 88 (by omega)).trans m114
  have m124 := (o120 95 (by omega)).trans m115
  have m125 := (o120 96 (by omega)).trans he110
  have P126 := P117.keep (fun j h1 h2 => o120 j (by omega))
  exact g_vret C rfl dX5_init_109 (97, ad107, el118) rfl rfl rfl ⟨rfl, fun j hj => (ha109 j (by omega)).trans ((ha91 j (by omega)).trans ((ha73 j (by omega)).trans ((ha59 j (by omega)).trans ((ha47 j (by omega)).trans (ha9 j (by omega)))))), ⟨e119, ⟨_, m121, fun j hj => by
        rcases (show j = 0 ∨ j = 1 ∨ j = 2 ∨ j = 3 ∨ j = 4 ∨ j = 5 ∨ j = 6 by omega) with rfl | rfl | rfl | rfl | rfl | rfl | rfl <;> rfl⟩, ⟨_, m122, fun j hj => rfl⟩, ⟨_, m123, fun j hj => (show (0 : Int32) = s_bk 200 0 by decide)⟩, P126, ⟨_, m124, fun i hi => absurd hi (by omega)⟩, ⟨_, m125, fun i hi => absurd hi (by omega)⟩, fun k hk => absurd hk (by omega)⟩, fun j hj => (o120 j (by omega)).trans ((hb111 j (by omega)).trans ((o101 j (by omega)).trans ((hb93 j (by omega)).trans ((o84 j (by omega)).trans ((hb76 j (by omega)).trans ((o67 j (by omega)).trans ((hb61 j (by omega)).trans ((o54 j (by omega)).trans ((hb49 j (by omega)).trans ((o43 j (by omega)).trans ((o39 j (by omega)).trans ((o35 j (by omega)).trans ((o31 j (by omega)).trans ((o27 j (by omega)).trans ((o23 j (by omega)).trans ((o19 j (by omega)).trans ((o15 j (by omega)).trans ((hb11 j (by omega)).trans ((o6 j (by omega)).trans (o3 j (by omega)))))))))))))))))))))⟩ (Nat.le_of_ble_eq_true rfl) (Nat.le_of_ble_eq_true rfl)
