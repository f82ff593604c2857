/-! ===== the reference's methods: what is small ===== -/
set_option maxHeartbeats 4000000 in
set_option maxRecDepth 100000 in
theorem c_X5_thrown (l : Launch) (V : gT) {n : Nat} {ad : Nat → Nat} {el : Nat → va_E} {thr : Int32} {cnt : Nat} {M St We pl sh : Nat → Int32} {F T : Nat → Nat → Int32} (hn : 92 ≤ n) (hc : cnt ≤ 20) (h : X5At V ad el thr cnt M St We pl sh F T) : TT l V yX5_thrown wsX5_thrown { frames := 0, cells := 0, slots := 0, locals := 0 } n ad el [.ref (ad 85)] (QIr V n ad el (fun r => r = thr)) 0 0 := by
  refine TT.body (cc := cX5_thrown) (maxL := 1) (ret := (some .int)) (by decide) rfl (Nat.le_of_ble_eq_true rfl) ?_
  intro p e s m below meth c C hnm
  refine g_lv [0] (lv' := [(0, .ref (ad 85))]) rfl ?_
  obtain ⟨m1, ⟨g16, m2, r9⟩, ⟨g17, m3, r10⟩, ⟨g18, m4, r11⟩, ⟨g19, m5, r12⟩, ⟨g20, m6, r13⟩, ⟨g21, m7, r14⟩⟩ := id h
  refine g_aload_n C 0 rfl dX5_thrown_0 ?_
  refine g_getf C 85 (by omega) m1 rfl 0 (by decide) (fun w h => (List.mem_cons_of_mem _ (List.mem_append_right _ h))) (List.mem_of_getElem? (i := 1) rfl) rfl rfl dX5_thrown_1 ?_
  exact g_iret C rfl dX5_thrown_4 () rfl rfl rfl rfl (Nat.le_of_ble_eq_true rfl) (Nat.le_of_ble_eq_true rfl)

set_option maxHeartbeats 4000000 in
set_option maxRecDepth 100000 in
theorem c_X5_fail (l : Launch) (V : gT) {n : Nat} {ad : Nat → Nat} {el : Nat → va_E} {thr : Int32} {cnt : Nat} {M St We pl sh : Nat → Int32} {F T : Nat → Nat → Int32} (hn : 92 ≤ n) (hc : cnt ≤ 20) (h : X5At V ad el thr cnt M St We pl sh F T) (x : Int32) : TT l V yX5_fail wsX5_fail { frames := 0, cells := 0, slots := 0, locals := 0 } n ad el [.ref (ad 85), .int x] (QIw V n ad (fun r u => r = 0 ∧ X5At V ad u x cnt M St We pl sh F T ∧ ∀ j, j ≠ 85 → u j = el j)) 0 0 := by
  refine TT.body (cc := cX5_fail) (maxL := 2) (ret := (some .int)) (by decide) rfl (Nat.le_of_ble_eq_true rfl) ?_
  intro p e s m below meth c C hnm
  refine g_lv [0, 1] (lv' := [(0, .ref (ad 85)), (1, .int x)]) rfl ?_
  obtain ⟨m1, ⟨g16, m2, r9⟩, ⟨g17, m3, r10⟩, ⟨g18, m4, r11⟩, ⟨g19, m5, r12⟩, ⟨g20, m6, r13⟩, ⟨g21, m7, r14⟩⟩ := id h
  refine g_aload_n C 0 rfl dX5_fail_0 ?_
  refine g_iload_n C 1 rfl dX5_fail_1 ?_
  refine g_putf C 85 (by omega) m1 rfl 0 (by decide) (fun w h => (List.mem_cons_of_mem _ (List.mem_append_right _ h))) tyX5 tyX5_ok nmX5 (List.mem_of_getElem? (i := 1) rfl) rfl rfl rfl rfl (Nat.le_of_ble_eq_true rfl) dX5_fail_2 (fun el22 e23 o24 => ?_)
  replace e23 : el22 85 = .inr (5, [.int x, .int (nI cnt), .ref (ad 86), .ref (ad 87), .ref (ad 88), .ref (ad 89), .ref (ad 90), .ref (ad 91)]) := e23
  have m25 := (o24 86 (by omega)).trans m2
  have m26 := (o24 87 (by omega)).trans m3
  have m27 := (o24 88 (by omega)).trans m4
  have m28 := (o24 89 (by omega)).trans m5
  have m29 := (o24 90 (by omega)).trans m6
  have m30 := (o24 91 (by omega)).trans m7
  refine g_iconst C (v := nI 0) dX5_fail_5 (by decide) ?_
  exact g_iret C rfl dX5_fail_6 el22 rfl rfl rfl ⟨rfl, ⟨e23, ⟨_, m25, r9⟩, ⟨_, m26, r10⟩, ⟨_, m27, r11⟩, ⟨_, m28, r12⟩, ⟨_, m29, r13⟩, ⟨_, m30, r14⟩⟩, fun j hj => (o24 j (by omega)).trans (rfl)⟩ (Nat.le_of_ble_eq_true rfl) (Nat.le_of_ble_eq_true rfl)

set_option maxHeartbeats 4000000 in
set_option maxRecDepth 100000 in
theorem c_X5_isIn (l : Launch) (V : gT) {n : Nat} {ad : Nat → Nat} {el : Nat → va_E} (x a b : Int32) : TT l V yX5_isIn wsX5_isIn { frames := 0, cells := 0, slots := 0, locals := 0 } n ad el [.int x, .int a, .int b] (QIr V n ad el (fun r => r = s_in x a b)) 0 0 := by
  refine TT.body (cc := cX5_isIn) (maxL := 3) (ret := (some .boolean)) (by decide) rfl (Nat.le_of_ble_eq_true rfl) ?_
  intro p e s m below meth c C hnm
  refine g_lv [0, 1, 2] (lv' := [(0, .int x), (1, .int a), (2, .int b)]) rfl ?_
  refine g_iload_n C 0 rfl dX5_isIn_0 ?_
  refine g_iload_n C 1 rfl dX5_isIn_1 ?_
  refine g_icmp_lt C (tgt := 14) dX5_isIn_2 (by decide) (fun c2 => ?_) (fun c2 => ?_)
  · -- 14
    refine g_iconst C (v := nI 0) dX5_isIn_14 (by decide) ?_
    exact g_zret C rfl rfl dX5_isIn_15 () rfl rfl rfl (by rw [s_in, if_neg (fun z => i_nlt z.1 c2)] <;> rfl) (Nat.le_of_ble_eq_true rfl) (Nat.le_of_ble_eq_true rfl)
  · -- 5
    refine g_iload_n C 0 rfl dX5_isIn_5 ?_
    refine g_iload_n C 2 rfl dX5_isIn_6 ?_
    refine g_icmp_gt C (tgt := 14) dX5_isIn_7 (by decide) (fun c7 => ?_) (fun c7 => ?_)
    · -- 14
      refine g_iconst C (v := nI 0) dX5_isIn_14 (by decide) ?_
      exact g_zret C rfl rfl dX5_isIn_15 () rfl rfl rfl (by rw [s_in, if_neg (fun z => i_nlt z.2 c7)] <;> rfl) (Nat.le_of_ble_eq_true rfl) (Nat.le_of_ble_eq_true rfl)
    · -- 10
      refine g_iconst C (v := nI 1) dX5_isIn_10 (by decide) ?_
      refine g_goto C (tgt := 15) dX5_isIn_11 (by decide) ?_
      exact g_zret C rfl rfl dX5_isIn_15 () rfl rfl rfl (by rw [s_in, if_pos ⟨i_ge c2, i_ge c7⟩] <;> rfl) (Nat.le_of_ble_eq_true rfl) (Nat.le_of_ble_eq_true rfl)

def s_pl (x y : Int32) : Int32 := if (0 ≤ x ∧ x ≤ 4) ∧ 0 ≤ y ∧ y ≤ 5 then 1 else 0

set_option maxHeartbeats 4000000 in
set_option maxRecDepth 100000 in
theorem c_X5_isPlace (l : Launch) (V : gT) {n : Nat} {ad : Nat → Nat} {el : Nat → va_E} (x y : Int32) : TT l V yX5_isPlace wsX5_isPlace { frames := 1, cells := 0, slots := 0, locals := 22 } n ad el [.int x, .int y] (QIr V n ad el (fun r => r = s_pl x y)) 0 0 := by
  refine TT.body (cc := cX5_isPlace) (maxL := 2) (ret := (some .boolean)) (by decide) rfl (Nat.le_of_ble_eq_true rfl) ?_
  intro p e s m below meth c C hnm
  refine g_lv [0, 1] (lv' := [(0, .int x), (1, .int y)]) rfl ?_
  refine g_iload_n C 0 rfl dX5_isPlace_0 ?_
  refine g_iconst C (v := nI 0) dX5_isPlace_1 (by decide) ?_
  refine g_iconst C (v := nI 4) dX5_isPlace_2 (by decide) ?_
  refine g_calli C (r_S C (st := []) (c_X5_isIn l V x 0 4) (va_cwS 3 C.ts gX5_isPlace_X5_isIn rfl rfl rfl (by decide +kernel) ⟨(Nat.le_of_ble_eq_true rfl), (Nat.le_of_ble_eq_true rfl)⟩) rfl rfl (Nat.le_of_ble_eq_true rfl) dX5_isPlace_3 ⟨(Nat.le_of_ble_eq_true rfl), (Nat.le_of_ble_eq_true rfl)⟩) (fun r u hu => ?_)
  subst hu
  refine g_if_eq C (tgt := 22) dX5_isPlace_6 (by decide) (fun c6 => ?_) (fun c6 => ?_)
  · -- 22
    refine g_iconst C (v := nI 0) dX5_isPlace_22 (by decide) ?_
    exact g_zret C rfl rfl dX5_isPlace_23 () rfl rfl rfl (by rw [s_pl, if_neg (fun z => s_in_0 c6 z.1)] <;> rfl) (Nat.le_of_ble_eq_true rfl) (Nat.le_of_ble_eq_true rfl)
  · -- 9
    refine g_iload_n C 1 rfl dX5_isPlace_9 ?_
    refine g_iconst C (v := nI 0) dX5_isPlace_10 (by decide) ?_
    refine g_iconst C (v := nI 5) dX5_isPlace_11 (by decide) ?_
    refine g_calli C (r_S C (st := []) (c_X5_isIn l V y 0 5) (va_cwS 3 C.ts gX5_isPlace_X5_isIn rfl rfl rfl (by decide +kernel) ⟨(Nat.le_of_ble_eq_true rfl), (Nat.le_of_ble_eq_true rfl)⟩) rfl rfl (Nat.le_of_ble_eq_true rfl) dX5_isPlace_12 ⟨(Nat.le_of_ble_eq_true rfl), (Nat.le_of_ble_eq_true rfl)⟩) (fun r u hu => ?_)
    subst hu
    refine g_if_eq C (tgt := 22) dX5_isPlace_15 (by decide) (fun c15 => ?_) (fun c15 => ?_)
    · -- 22
      refine g_iconst C (v := nI 0) dX5_isPlace_22 (by decide) ?_
      exact g_zret C rfl rfl dX5_isPlace_23 () rfl rfl rfl (by rw [s_pl, if_neg (fun z => s_in_0 c15 z.2)] <;> rfl) (Nat.le_of_ble_eq_true rfl) (Nat.le_of_ble_eq_true rfl)
    · -- 18
      refine g_iconst C (v := nI 1) dX5_isPlace_18 (by decide) ?_
      refine g_goto C (tgt := 23) dX5_isPlace_19 (by decide) ?_
      exact g_zret C rfl rfl dX5_isPlace_23 () rfl rfl rfl (by rw [s_pl, if_pos ⟨s_in_1 c6, s_in_1 c15⟩] <;> rfl) (Nat.le_of_ble_eq_true rfl) (Nat.le_of_ble_eq_true rfl)

set_option maxHeartbeats 4000000 in
set_option maxRecDepth 100000 in
theorem c_X5_isSheet (l : Launch) (V : gT) {n : Nat} {ad : Nat → Nat} {el : Nat → va_E} {thr : Int32} {cnt : Nat} {M St We pl sh : Nat → Int32} {F T : Nat → Nat → Int32} (hn : 92 ≤ n) (hc : cnt ≤ 20) (h : X5At V ad el thr cnt M St We pl sh F T) (x : Int32) : TT l V yX5_isSheet wsX5_isSheet { frames := 1, cells := 0, slots := 0, locals := 22 } n ad el [.ref (ad 85), .int x] (QIr V n ad el (fun r => r = s_in x 0 (nI cnt - nI 1))) 0 0 := by
  refine TT.body (cc := cX5_isSheet) (maxL := 2) (ret := (some .boolean)) (by decide) rfl (Nat.le_of_ble_eq_true rfl) ?_
  intro p e s m below meth c C hnm
  refine g_lv [0, 1] (lv' := [(0, .ref (ad 85)), (1, .int x)]) rfl ?_
  obtain ⟨m1, ⟨g16, m2, r9⟩, ⟨g17, m3, r10⟩, ⟨g18, m4, r11⟩, ⟨g19, m5, r12⟩, ⟨g20, m6, r13⟩, ⟨g21, m7, r14⟩⟩ := id h
  refine g_iload_n C 1 rfl dX5_isSheet_0 ?_
  refine g_iconst C (v := nI 0) dX5_isSheet_1 (by decide) ?_
  refine g_aload_n C 0 rfl dX5_isSheet_2 ?_
  refine g_getf C 85 (by omega) m1 rfl 1 (by decide) (fun w h => (List.mem_cons_of_mem _ (List.mem_append_right _ h))) (List.mem_of_getElem? (i := 1) rfl) rfl rfl dX5_isSheet_3 ?_
  refine g_iconst C (v := nI 1) dX5_isSheet_6 (by decide) ?_
  refine g_isub C (v := (nI cnt) - 1) dX5_isSheet_7 rfl ?_
  refine g_calli C (r_S C (st := []) (c_X5_isIn l V x 0 ((nI cnt) - 1)) (va_cwS 3 C.ts gX5_isSheet_X5_isIn rfl rfl rfl (by decide +kernel) ⟨(Nat.le_of_ble_eq_true rfl), (Nat.le_of_ble_eq_true rfl)⟩) rfl rfl (Nat.le_of_ble_eq_true rfl) dX5_isSheet_8 ⟨(Nat.le_of_ble_eq_true rfl), (Nat.le_of_ble_eq_true rfl)⟩) (fun r u hu => ?_)
  subst hu
  exact g_zret C rfl (if01_nr _ _) dX5_isSheet_11 () rfl rfl rfl rfl (Nat.le_of_ble_eq_true rfl) (Nat.le_of_ble_eq_true rfl)

set_option maxHeartbeats 4000000 in
set_option maxRecDepth 100000 in
theorem c_X5_isWhole (l : Launch) (V : gT) {n : Nat} {ad : Nat → Nat} {el : Nat → va_E} {thr : Int32} {cnt : Nat} {M St We pl sh : Nat → Int32} {F T : Nat → Nat → Int32} (hn : 92 ≤ n) (hc : cnt ≤ 20) (h : X5At V ad el thr cnt M St We pl sh F T) (i : Nat) (hi : i < 7) : TT l V yX5_isWhole wsX5_isWhole { frames := 0, cells := 0, slots := 0, locals := 0 } n ad el [.ref (ad 85), .int (nI i)] (QIr V n ad el (fun r => r = if We i ≤ St i then 1 else 0)) 0 0 := by
  refine TT.body (cc := cX5_isWhole) (maxL := 2) (ret := (some .boolean)) (by decide) rfl (Nat.le_of_ble_eq_true rfl) ?_
  intro p e s m below meth c C hnm
  refine g_lv [0, 1] (lv' := [(0, .ref (ad 85)), (1, .int (nI i))]) rfl ?_
  obtain ⟨m1, ⟨g16, m2, r9⟩, ⟨g17, m3, r10⟩, ⟨g18, m4, r11⟩, ⟨g19, m5, r12⟩, ⟨g20, m6, r13⟩, ⟨g21, m7, r14⟩⟩ := id h
  refine g_aload_n C 0 rfl dX5_isWhole_0 ?_
  refine g_getf C 85 (by omega) m1 rfl 5 (by decide) (fun w h => (List.mem_cons_of_mem _ (List.mem_append_right _ h))) (List.mem_of_getElem? (i := 1) rfl) rfl rfl dX5_isWhole_1 ?_
  refine g_iload_n C 1 rfl dX5_isWhole_4 ?_
  refine g_iald C 89 (by omega) m5 i rfl (by omega) (by decide) dX5_isWhole_5 ?_
  refine g_top (r12 i (by omega) : g19 i = We i) ?_
  refine g_aload_n C 0 rfl dX5_isWhole_6 ?_
  refine g_getf C 85 (by omega) m1 rfl 4 (by decide) (fun w h => (List.mem_cons_of_mem _ (List.mem_append_right _ h))) (List.mem_of_getElem? (i := 2) rfl) rfl rfl dX5_isWhole_7 ?_
  refine g_iload_n C 1 rfl dX5_isWhole_10 ?_
  refine g_iald C 88 (by omega) m4 i rfl (by omega) (by decide) dX5_isWhole_11 ?_
  refine g_top (r11 i (by omega) : g18 i = St i) ?_
  refine g_icmp_gt C (tgt := 19) dX5_isWhole_12 (by decide) (fun c12 => ?_) (fun c12 => ?_)
  · -- 19
    refine g_iconst C (v := nI 0) dX5_isWhole_19 (by decide) ?_
    exact g_zret C rfl rfl dX5_isWhole_20 () rfl rfl rfl (if_neg (i_nle c12)).symm (Nat.le_of_ble_eq_true rfl) (Nat.le_of_ble_eq_true rfl)
  · -- 15
    refine g_iconst C (v := nI 1) dX5_isWhole_15 (by decide) ?_
    refine g_goto C (tgt := 20) dX5_isWhole_16 (by decide) ?_
    exact g_zret C rfl rfl dX5_isWhole_20 () rfl rfl rfl (if_pos (i_ge c12)).symm (Nat.le_of_ble_eq_true rfl) (Nat.le_of_ble_eq_true rfl)

set_option maxHeartbeats 4000000 in
set_option maxRecDepth 100000 in
theorem c_X5_worth (l : Launch) (V : gT) {n : Nat} {ad : Nat → Nat} {el : Nat → va_E} (x : Int32) : TT l V yX5_worth wsX5_worth { frames := 0, cells := 0, slots := 0, locals := 0 } n ad el [.int x] (QIr V n ad el (fun r => r = s_mw x)) 0 0 := by
  refine TT.body (cc := cX5_worth) (maxL := 1) (ret := (some .int)) (by decide) rfl (Nat.le_of_ble_eq_true rfl) ?_
  intro p e s m below meth c C hnm
  refine g_lv [0] (lv' := [(0, .int x)]) rfl ?_
  refine g_iload_n C 0 rfl dX5_worth_0 ?_
  refine g_bipush C (v := nI 32) dX5_worth_1 (by decide) ?_
  refine g_icmp_ge C (tgt := 13) dX5_worth_3 (by decide) (fun c3 => ?_) (fun c3 => ?_)
  · -- 13
    refine g_iconst C (v := nI 0) dX5_worth_13 (by decide) ?_
    refine g_goto C (tgt := 45) dX5_worth_14 (by decide) ?_
    exact g_iret C rfl dX5_worth_45 () rfl rfl rfl (by rw [s_mw, if_pos c3] <;> rfl) (Nat.le_of_ble_eq_true rfl) (Nat.le_of_ble_eq_true rfl)
  · -- 6
    refine g_iload_n C 0 rfl dX5_worth_6 ?_
    refine g_bipush C (v := nI 7) dX5_worth_7 (by decide) ?_
    refine g_iand C (v := x &&& 7) dX5_worth_9 rfl ?_
    refine g_if_eq C (tgt := 17) dX5_worth_10 (by decide) (fun c10 => ?_) (fun c10 => ?_)
    · -- 17
      refine g_iconst C (v := nI 1) dX5_worth_17 (by decide) ?_
      refine g_iload_n C 0 rfl dX5_worth_18 ?_
      refine g_bipush C (v := nI 8) dX5_worth_19 (by decide) ?_
      refine g_iand C (v := x &&& 8) dX5_worth_21 rfl ?_
      refine g_if_eq C (tgt := 30) dX5_worth_22 (by decide) (fun c22 => ?_) (fun c22 => ?_)
      · -- 30
        refine g_iconst C (v := nI 0) dX5_worth_30 (by decide) ?_
        refine g_iadd C (v := nI (1 + 0)) dX5_worth_31 (nI_add _ _) ?_
        refine g_iload_n C 0 rfl dX5_worth_32 ?_
        refine g_bipush C (v := nI 16) dX5_worth_33 (by decide) ?_
        refine g_iand C (v := x &&& 16) dX5_worth_35 rfl ?_
        refine g_if_eq C (tgt := 43) dX5_worth_36 (by decide) (fun c36 => ?_) (fun c36 => ?_)
        · -- 43
          refine g_iconst C (v := nI 0) dX5_worth_43 (by decide) ?_
          refine g_iadd C (v := nI ((1 + 0) + 0)) dX5_worth_44 (nI_add _ _) ?_
          exact g_iret C rfl dX5_worth_45 () rfl rfl rfl (by rw [s_mw, if_neg c3, if_pos c10, if_pos c22, if_pos c36] <;> rfl) (Nat.le_of_ble_eq_true rfl) (Nat.le_of_ble_eq_true rfl)
        · -- 39
          refine g_iconst C (v := nI 4) dX5_worth_39 (by decide) ?_
          refine g_goto C (tgt := 44) dX5_worth_40 (by decide) ?_
          refine g_iadd C (v := nI ((1 + 0) + 4)) dX5_worth_44 (nI_add _ _) ?_
          exact g_iret C rfl dX5_worth_45 () rfl rfl rfl (by rw [s_mw, if_neg c3, if_pos c10, if_pos c22, if_neg c36] <;> rfl) (Nat.le_of_ble_eq_true rfl) (Nat.le_of_ble_eq_true rfl)
      · -- 25
        refine g_bipush C (v := nI 20) dX5_worth_25 (by decide) ?_
        refine g_goto C (tgt := 31) dX5_worth_27 (by decide) ?_
        refine g_iadd C (v := nI (1 + 20)) dX5_worth_31 (nI_add _ _) ?_
        refine g_iload_n C 0 rfl dX5_worth_32 ?_
        refine g_bipush C (v := nI 16) dX5_worth_33 (by decide) ?_
        refine g_iand C (v := x &&& 16) dX5_worth_35 rfl ?_
        refine g_if_eq C (tgt := 43) dX5_worth_36 (by decide) (fun c36 => ?_) (fun c36 => ?_)
        · -- 43
          refine g_iconst C (v := nI 0) dX5_worth_43 (by decide) ?_
          refine g_iadd C (v := nI ((1 + 20) + 0)) dX5_worth_44 (nI_add _ _) ?_
          exact g_iret C rfl dX5_worth_45 () rfl rfl rfl (by rw [s_mw, if_neg c3, if_pos c10, if_neg c22, if_pos c36] <;> rfl) (Nat.le_of_ble_eq_true rfl) (Nat.le_of_ble_eq_true rfl)
        · -- 39
          refine g_iconst C (v := nI 4) dX5_worth_39 (by decide) ?_
          refine g_goto C (tgt := 44) dX5_worth_40 (by decide) ?_
          refine g_iadd C (v := nI ((1 + 20) + 4)) dX5_worth_44 (nI_add _ _) ?_
          exact g_iret C rfl dX5_worth_45 () rfl rfl rfl (by rw [s_mw, if_neg c3, if_pos c10, if_neg c22, if_neg c36] <;> rfl) (Nat.le_of_ble_eq_true rfl) (Nat.le_of_ble_eq_true rfl)
    · -- 13
      refine g_iconst C (v := nI 0) dX5_worth_13 (by decide) ?_
      refine g_goto C (tgt := 45) dX5_worth_14 (by decide) ?_
      exact g_iret C rfl dX5_worth_45 () rfl rfl rfl (by rw [s_mw, if_neg c3, if_neg c10] <;> rfl) (Nat.le_of_ble_eq_true rfl) (Nat.le_of_ble_eq_true rfl)

set_option maxHeartbeats 4000000 in
set_option maxRecDepth 100000 in
theorem c_X5_broken (l : Launch) (V : gT) {n : Nat} {ad : Nat → Nat} {el : Nat → va_E} {thr : Int32} {cnt : Nat} {M St We pl sh : Nat → Int32} {F T : Nat → Nat → Int32} (hn : 92 ≤ n) (hc : cnt ≤ 20) (h : X5At V ad el thr cnt M St We pl sh F T) : TT l V yX5_broken wsX5_broken { frames := 1, cells := 0, slots := 0, locals := 21 } n ad el [.ref (ad 85)] (QIr V n ad el (fun r => r = s_broken St We)) 0 0 := by
  refine TT.body (cc := cX5_broken) (maxL := 3) (ret := (some .int)) (by decide) rfl (Nat.le_of_ble_eq_true rfl) ?_
  intro p e s m below meth c C hnm
  refine g_lv [0] (lv' := [(0, .ref (ad 85))]) rfl ?_
  obtain ⟨m1, ⟨g16, m2, r9⟩, ⟨g17, m3, r10⟩, ⟨g18, m4, r11⟩, ⟨g19, m5, r12⟩, ⟨g20, m6, r13⟩, ⟨g21, m7, r14⟩⟩ := id h
  refine g_iconst C (v := nI 0) dX5_broken_0 (by decide) ?_
  refine g_istore_n C (lv' := [(1, .int (nI 0)), (0, .ref (ad 85))]) dX5_broken_1 (by decide) rfl ?_
  refine g_iconst C (v := nI 0) dX5_broken_2 (by decide) ?_
  refine g_istore_n C (lv' := [(2, .int (nI 0)), (1, .int (nI 0)), (0, .ref (ad 85))]) dX5_broken_3 (by decide) rfl ?_
  refine g_lv [0, 1, 2] (lv' := [(2, .int (nI 0)), (1, .int (nI 0)), (0, .ref (ad 85))]) rfl ?_
  refine g_for 7 (fun (i : Nat) => [(2, .int (nI i)), (1, .int (s_sum (fun i => if We i ≤ St i then 0 else 1) i)), (0, .ref (ad 85))]) ?_ (fun i hi ih => ?_)
  · -- loop 4: its end
    refine g_iload_n C 0 rfl dX5_broken_4 ?_
    refine g_bipush C (v := nI 7) dX5_broken_5 (by decide) ?_
    refine g_icmp_ge C (tgt := 32) dX5_broken_7 (by decide) (fun c7 => ?_) (fun c7 => ?_)
    · -- 32
      have c7 : 7 ≤ 7 := (nI_leI (by omega) (by omega)).mp c7
      refine g_iload_n C 1 rfl dX5_broken_32 ?_
      exact g_iret C rfl dX5_broken_33 () rfl rfl rfl rfl (Nat.le_of_ble_eq_true rfl) (Nat.le_of_ble_eq_true rfl)
    · -- 10
      have c7 : 7 < 7 := Nat.lt_of_not_le (fun z => c7 ((nI_leI (by omega) (by omega)).mpr z))
      exact absurd c7 (by omega)
  · -- loop 4: its body
    refine g_iload_n C 0 rfl dX5_broken_4 ?_
    refine g_bipush C (v := nI 7) dX5_broken_5 (by decide) ?_
    refine g_icmp_ge C (tgt := 32) dX5_broken_7 (by decide) (fun c7 => ?_) (fun c7 => ?_)
    · -- 32
      have c7 : 7 ≤ i := (nI_leI (by omega) (by omega)).mp c7
      exact absurd c7 (by omega)
    · -- 10
      have c7 : i < 7 := Nat.lt_of_not_le (fun z => c7 ((nI_leI (by omega) (by omega)).mpr z))
      refine g_iload_n C 1 rfl dX5_broken_10 ?_
      refine g_aload_n C 2 rfl dX5_broken_11 ?_
      refine g_iload_n C 0 rfl dX5_broken_12 ?_
      refine g_calli C (r_V C (st := [.int (s_sum (fun i => if We i ≤ St i then 0 else 1) i)]) (c_X5_isWhole l V (by omega) (by omega) ⟨m1, ⟨_, m2, r9⟩, ⟨_, m3, r10⟩, ⟨_, m4, r11⟩, ⟨_, m5, r12⟩, ⟨_, m6, r13⟩, ⟨_, m7, r14⟩⟩ i (by omega)) (cwV 1 C.ts gX5_broken_X5_isWhole rfl rfl rfl (by decide +kernel) ⟨(Nat.le_of_ble_eq_true rfl), (Nat.le_of_ble_eq_true rfl)⟩) (by omega) m1 rfl rfl rfl (Nat.le_of_ble_eq_true rfl) dX5_broken_13 ⟨(Nat.le_of_ble_eq_true rfl), (Nat.le_of_ble_eq_true rfl)⟩) (fun r u hu => ?_)
      subst hu
      refine g_via (fun v : Int32 => v = if We i ≤ St i then 0 else 1) 24 (fun _ => [(2, .int (nI i)), (1, .int (s_sum (fun i => if We i ≤ St i then 0 else 1) i)), (0, .ref (ad 85))]) (fun v => .int v :: [.int (s_sum (fun i => if We i ≤ St i then 0 else 1) i)]) (fun v hv => ?_) (fun J => ?_)
      · -- join
        subst hv
        refine g_iadd C (v := (s_sum (fun i => if We i ≤ St i then 0 else 1) i) + (if We i ≤ St i then 0 else 1)) dX5_broken_24 rfl ?_
        refine g_istore_n C (lv' := [(1, .int ((s_sum (fun i => if We i ≤ St i then 0 else 1) i) + (if We i ≤ St i then 0 else 1))), (2, .int (nI i)), (0, .ref (ad 85))]) dX5_broken_25 (by decide) rfl ?_
        refine g_iinc C 1 rfl (v := nI (i + 1)) (lv' := [(2, .int (nI (i + 1))), (1, .int ((s_sum (fun i => if We i ≤ St i then 0 else 1) i) + (if We i ≤ St i then 0 else 1))), (0, .ref (ad 85))]) dX5_broken_26 (nI_add _ _) (by decide) rfl ?_
        refine g_goto C (tgt := 4) dX5_broken_29 (by decide) ?_
        refine g_lv [0, 1, 2] (lv' := [(2, .int (nI (i + 1))), (1, .int ((s_sum (fun i => if We i ≤ St i then 0 else 1) i) + (if We i ≤ St i then 0 else 1))), (0, .ref (ad 85))]) rfl ?_
        exact ih
      · -- ways
        refine g_if_eq C (tgt := 23) dX5_broken_16 (by decide) (fun c16 => ?_) (fun c16 => ?_)
        · -- 23
          refine g_iconst C (v := nI 1) dX5_broken_23 (by decide) ?_
          exact J _ ((if_neg (fun z => by rw [if_pos z] at c16; exact absurd c16 (by decide))).symm)
        · -- 19
          refine g_iconst C (v := nI 0) dX5_broken_19 (by decide) ?_
          refine g_goto C (tgt := 24) dX5_broken_20 (by decide) ?_
          exact J _ ((if_pos (Classical.byContradiction (fun z => c16 (if_neg z)))).symm)

set_option maxHeartbeats 4000000 in
set_option maxRecDepth 100000 in
theorem c_X5_setFeed (l : Launch) (V : gT) {n : Nat} {ad : Nat → Nat} {el : Nat → va_E} {thr : Int32} {cnt : Nat} {M St We pl sh : Nat → Int32} {F T : Nat → Nat → Int32} (hn : 92 ≤ n) (hc : cnt ≤ 20) (h : X5At V ad el thr cnt M St We pl sh F T) (x y : Int32) : TT l V yX5_setFeed wsX5_setFeed { frames := 1, cells := 0, slots := 0, locals := 22 } n ad el [.ref (ad 85), .int x, .int y] (QIw V n ad (fun r u => ((((10 ≤ x ∧ x ≤ 30) ∧ -9 ≤ y ∧ y ≤ 9) ∧ r = 100 * M 0 + M 1 ∧ X5At V ad u 0 cnt (upd (upd M 0 x) 1 y) St We pl sh F T) ∨ ((¬ ((10 ≤ x ∧ x ≤ 30) ∧ -9 ≤ y ∧ y ≤ 9)) ∧ X5At V ad u 1 cnt M St We pl sh F T)) ∧ ∀ j, (j < 85 ∨ 92 ≤ j) → u j = el j)) 0 0 := by
  refine TT.body (cc := cX5_setFeed) (maxL := 4) (ret := (some .int)) (by decide) rfl (Nat.le_of_ble_eq_true rfl) ?_
  intro p e s m below meth c C hnm
  refine g_lv [0, 1, 2] (lv' := [(0, .ref (ad 85)), (1, .int x), (2, .int y)]) rfl ?_
  obtain ⟨m1, ⟨g16, m2, r9⟩, ⟨g17, m3, r10⟩, ⟨g18, m4, r11⟩, ⟨g19, m5, r12⟩, ⟨g20, m6, r13⟩, ⟨g21, m7, r14⟩⟩ := id h
  refine g_aload_n C 0 rfl dX5_setFeed_0 ?_
  refine g_iconst C (v := nI 0) dX5_setFeed_1 (by decide) ?_
  refine g_putf C 85 (by omega) m1 rfl 0 (by decide) (fun w h => (List.mem_cons_of_mem _ (List.mem_append_right _ h))) tyX5 tyX5_ok nmX5 (List.mem_of_getElem? (i := 1) rfl) rfl rfl rfl rfl (Nat.le_of_ble_eq_true rfl) dX5_setFeed_2 (fun el22 e23 o24 => ?_)
  replace e23 : el22 85 = .inr (5, [.int (nI 0), .int (nI cnt), .ref (ad 86), .ref (ad 87), .ref (ad 88), .ref (ad 89), .ref (ad 90), .ref (ad 91)]) := e23
  have m25 := (o24 86 (by omega)).trans m2
  have m26 := (o24 87 (by omega)).trans m3
  have m27 := (o24 88 (by omega)).trans m4
  have m28 := (o24 89 (by omega)).trans m5
  have m29 := (o24 90 (by omega)).trans m6
  have m30 := (o24 91 (by omega)).trans m7
  refine g_iload_n C 1 rfl dX5_setFeed_5 ?_
  refine g_bipush C (v := nI 10) dX5_setFeed_6 (by decide) ?_
  refine g_bipush C (v := nI 30) dX5_setFeed_8 (by decide) ?_
  refine g_calli C (r_S C (st := []) (c_X5_isIn l V x 10 30) (va_cwS 3 C.ts gX5_setFeed_X5_isIn rfl rfl rfl (by decide +kernel) ⟨(Nat.le_of_ble_eq_true rfl), (Nat.le_of_ble_eq_true rfl)⟩) rfl rfl (Nat.le_of_ble_eq_true rfl) dX5_setFeed_10 ⟨(Nat.le_of_ble_eq_true rfl), (Nat.le_of_ble_eq_true rfl)⟩) (fun r u hu => ?_)
  subst hu
  refine g_if_eq C (tgt := 27) dX5_setFeed_13 (by decide) (fun c13 => ?_) (fun c13 => ?_)
  · -- 27
    refine g_aload_n C 0 rfl dX5_setFeed_27 ?_
    refine g_iconst C (v := nI 1) dX5_setFeed_28 (by decide) ?_
    refine g_calli C (r_V C (st := []) (c_X5_fail l V (by omega) (by omega) ⟨e23, ⟨_, m25, r9⟩, ⟨_, m26, r10⟩, ⟨_, m27, r11⟩, ⟨_, m28, r12⟩, ⟨_, m29, r13⟩, ⟨_, m30, r14⟩⟩ 1) (cwV 1 C.ts gX5_setFeed_X5_fail rfl rfl rfl (by decide +kernel) ⟨(Nat.le_of_ble_eq_true rfl), (Nat.le_of_ble_eq_true rfl)⟩) (by omega) e23 rfl rfl rfl (Nat.le_of_ble_eq_true rfl) dX5_setFeed_29 ⟨(Nat.le_of_ble_eq_true rfl), (Nat.le_of_ble_eq_true rfl)⟩) (fun r9 u hu => ?_)
    exact g_iret C rfl dX5_setFeed_32 u rfl rfl rfl ⟨Or.inr (⟨fun z => s_in_0 c13 z.1, hu.2.1⟩), fun j hj => (hu.2.2 j (by omega)).trans ((o24 j (by omega)).trans (rfl))⟩ (Nat.le_of_ble_eq_true rfl) (Nat.le_of_ble_eq_true rfl)
  · -- 16
    refine g_iload_n C 2 rfl dX5_setFeed_16 ?_
    refine g_bipush C (v := (-9)) dX5_setFeed_17 (by decide) ?_
    refine g_bipush C (v := nI 9) dX5_setFeed_19 (by decide) ?_
    refine g_calli C (r_S C (st := []) (c_X5_isIn l V y ((-9)) 9) (va_cwS 3 C.ts gX5_setFeed_X5_isIn rfl rfl rfl (by decide +kernel) ⟨(Nat.le_of_ble_eq_true rfl), (Nat.le_of_ble_eq_true rfl)⟩) rfl rfl (Nat.le_of_ble_eq_true rfl) dX5_setFeed_21 ⟨(Nat.le_of_ble_eq_true rfl), (Nat.le_of_ble_eq_true rfl)⟩) (fun r u hu => ?_)
    subst hu
    refine g_if_ne C (tgt := 33) dX5_setFeed_24 (by decide) (fun c24 => ?_) (fun c24 => ?_)
    · -- 33
      refine g_bipush C (v := nI 100) dX5_setFeed_33 (by decide) ?_
      refine g_aload_n C 0 rfl dX5_setFeed_35 ?_
      refine g_getf C 85 (by omega) e23 rfl 3 (by decide) (fun w h => (List.mem_cons_of_mem _ (List.mem_append_right _ h))) (List.mem_of_getElem? (i := 2) rfl) rfl rfl dX5_setFeed_36 ?_
      refine g_iconst C (v := nI 0) dX5_setFeed_39 (by decide) ?_
      refine g_iald C 87 (by omega) m26 0 rfl (by omega) (by decide) dX5_setFeed_40 ?_
      refine g_top (r10 0 (by omega) : g17 0 = M 0) ?_
      refine g_imul C (v := 100 * (M 0)) dX5_setFeed_41 rfl ?_
      refine g_aload_n C 0 rfl dX5_setFeed_42 ?_
      refine g_getf C 85 (by omega) e23 rfl 3 (by decide) (fun w h => (List.mem_cons_of_mem _ (List.mem_append_right _ h))) (List.mem_of_getElem? (i := 2) rfl) rfl rfl dX5_setFeed_43 ?_
      refine g_iconst C (v := nI 1) dX5_setFeed_46 (by decide) ?_
      refine g_iald C 87 (by omega) m26 1 rfl (by omega) (by decide) dX5_setFeed_47 ?_
      refine g_top (r10 1 (by omega) : g17 1 = M 1) ?_
      refine g_iadd C (v := (100 * (M 0)) + (M 1)) dX5_setFeed_48 rfl ?_
      refine g_istore_n C (lv' := [(3, .int ((100 * (M 0)) + (M 1))), (0, .ref (ad 85)), (1, .int x), (2, .int y)]) dX5_setFeed_49 (by decide) rfl ?_
      refine g_aload_n C 1 rfl dX5_setFeed_50 ?_
      refine g_getf C 85 (by omega) e23 rfl 3 (by decide) (fun w h => (List.mem_cons_of_mem _ (List.mem_append_right _ h))) (List.mem_of_getElem? (i := 2) rfl) rfl rfl dX5_setFeed_51 ?_
      refine g_iconst C (v := nI 0) dX5_setFeed_54 (by decide) ?_
      refine g_iload_n C 2 rfl dX5_setFeed_55 ?_
      refine g_iast C 87 (by omega) m26 0 rfl (by omega) (by decide) dX5_setFeed_56 (fun el31 e32 o33 => ?_)
      have r34 : ∀ j, j < 6 → upd g17 0 (x) j = (upd M 0 x) j := upd_rel r10 0 _
      have m35 := (o33 86 (by omega)).trans m25
      have m36 := (o33 88 (by omega)).trans m27
      have m37 := (o33 89 (by omega)).trans m28
      have m38 := (o33 90 (by omega)).trans m29
      have m39 := (o33 91 (by omega)).trans m30
      have m40 := (o33 85 (by omega)).trans e23
      refine g_aload_n C 1 rfl dX5_setFeed_57 ?_
      refine g_getf C 85 (by omega) m40 rfl 3 (by decide) (fun w h => (List.mem_cons_of_mem _ (List.mem_append_right _ h))) (List.mem_of_getElem? (i := 2) rfl) rfl rfl dX5_setFeed_58 ?_
      refine g_iconst C (v := nI 1) dX5_setFeed_61 (by decide) ?_
      refine g_iload_n C 3 rfl dX5_setFeed_62 ?_
      refine g_iast C 87 (by omega) e32 1 rfl (by omega) (by decide) dX5_setFeed_63 (fun el41 e42 o43 => ?_)
      have r44 : ∀ j, j < 6 → upd (upd g17 0 (x)) 1 (y) j = (upd ((upd M 0 x)) 1 y) j := upd_rel r34 1 _
      have m45 := (o43 86 (by omega)).trans m35
      have m46 := (o43 88 (by omega)).trans m36
      have m47 := (o43 89 (by omega)).trans m37
      have m48 := (o43 90 (by omega)).trans m38
      have m49 := (o43 91 (by omega)).trans m39
      have m50 := (o43 85 (by omega)).trans m40
      refine g_iload_n C 0 rfl dX5_setFeed_64 ?_
      exact g_iret C rfl dX5_setFeed_65 el41 rfl rfl rfl ⟨Or.inl ⟨⟨s_in_1 c13, s_in_1 c24⟩, rfl, ⟨m50, ⟨_, m45, r9⟩, ⟨_, e42, r44⟩, ⟨_, m46, r11⟩, ⟨_, m47, r12⟩, ⟨_, m48, r13⟩, ⟨_, m49, r14⟩⟩⟩, fun j hj => (o43 j (by omega)).trans ((o33 j (by omega)).trans ((o24 j (by omega)).trans (rfl)))⟩ (Nat.le_of_ble_eq_true rfl) (Nat.le_of_ble_eq_true rfl)
    · -- 27
      refine g_aload_n C 0 rfl dX5_setFeed_27 ?_
      refine g_iconst C (v := nI 1) dX5_setFeed_28 (by decide) ?_
      refine g_calli C (r_V C (st := []) (c_X5_fail l V (by omega) (by omega) ⟨e23, ⟨_, m25, r9⟩, ⟨_, m26, r10⟩, ⟨_, m27, r11⟩, ⟨_, m28, r12⟩, ⟨_, m29, r13⟩, ⟨_, m30, r14⟩⟩ 1) (cwV 1 C.ts gX5_setFeed_X5_fail rfl rfl rfl (by decide +kernel) ⟨(Nat.le_of_ble_eq_true rfl), (Nat.le_of_ble_eq_true rfl)⟩) (by omega) e23 rfl rfl rfl (Nat.le_of_ble_eq_true rfl) dX5_setFeed_29 ⟨(Nat.le_of_ble_eq_true rfl), (Nat.le_of_ble_eq_true rfl)⟩) (fun r9 u hu => ?_)
      exact g_iret C rfl dX5_setFeed_32 u rfl rfl rfl ⟨Or.inr (⟨fun z => s_in_0 c24 z.2, hu.2.1⟩), fun j hj => (hu.2.2 j (by omega)).trans ((o24 j (by omega)).trans (rfl))⟩ (Nat.le_of_ble_eq_true rfl) (Nat.le_of_ble_eq_true rfl)

set_option maxHeartbeats 4000000 in
set_option maxRecDepth 100000 in
theorem c_X5_align (l : Launch) (V : gT) {n : Nat} {ad : Nat → Nat} {el : Nat → va_E} {thr : Int32} {cnt : Nat} {M St We pl sh : Nat → Int32} {F T : Nat → Nat → Int32} (hn : 92 ≤ n) (hc : cnt ≤ 20) (h : X5At V ad el thr cnt M St We pl sh F T) : TT l V yX5_align wsX5_align { frames := 0, cells := 0, slots := 0, locals := 0 } n ad el [.ref (ad 85)] (QIw V n ad (fun r u => r = M 2 ∧ X5At V ad u 0 cnt (upd M 2 0) St We pl sh F T ∧ ∀ j, (j < 85 ∨ 92 ≤ j) → u j = el j)) 0 0 := by
  refine TT.body (cc := cX5_align) (maxL := 2) (ret := (some .int)) (by decide) rfl (Nat.le_of_ble_eq_true rfl) ?_
  intro p e s m below meth c C hnm
  refine g_lv [0] (lv' := [(0, .ref (ad 85))]) rfl ?_
  obtain ⟨m1, ⟨g16, m2, r9⟩, ⟨g17, m3, r10⟩, ⟨g18, m4, r11⟩, ⟨g19, m5, r12⟩, ⟨g20, m6, r13⟩, ⟨g21, m7, r14⟩⟩ := id h
  refine g_aload_n C 0 rfl dX5_align_0 ?_
  refine g_iconst C (v := nI 0) dX5_align_1 (by decide) ?_
  refine g_putf C 85 (by omega) m1 rfl 0 (by decide) (fun w h => (List.mem_cons_of_mem _ (List.mem_append_right _ h))) tyX5 tyX5_ok nmX5 (List.mem_of_getElem? (i := 1) rfl) rfl rfl rfl rfl (Nat.le_of_ble_eq_true rfl) dX5_align_2 (fun el22 e23 o24 => ?_)
  replace e23 : el22 85 = .inr (5, [.int (nI 0), .int (nI cnt), .ref (ad 86), .ref (ad 87), .ref (ad 88), .ref (ad 89), .ref (ad 90), .ref (ad 91)]) := e23
  have m25 := (o24 86 (by omega)).trans m2
  have m26 := (o24 87 (by omega)).trans m3
  have m27 := (o24 88 (by omega)).trans m4
  have m28 := (o24 89 (by omega)).trans m5
  have m29 := (o24 90 (by omega)).trans m6
  have m30 := (o24 91 (by omega)).trans m7
  refine g_aload_n C 0 rfl dX5_align_5 ?_
  refine g_getf C 85 (by omega) e23 rfl 3 (by decide) (fun w h => (List.mem_cons_of_mem _ (List.mem_append_right _ h))) (List.mem_of_getElem? (i := 2) rfl) rfl rfl dX5_align_6 ?_
  refine g_iconst C (v := nI 2) dX5_align_9 (by decide) ?_
  refine g_iald C 87 (by omega) m26 2 rfl (by omega) (by decide) dX5_align_10 ?_
  refine g_top (r10 2 (by omega) : g17 2 = M 2) ?_
  refine g_istore_n C (lv' := [(1, .int (M 2)), (0, .ref (ad 85))]) dX5_align_11 (by decide) rfl ?_
  refine g_aload_n C 1 rfl dX5_align_12 ?_
  refine g_getf C 85 (by omega) e23 rfl 3 (by decide) (fun w h => (List.mem_cons_of_mem _ (List.mem_append_right _ h))) (List.mem_of_getElem? (i := 2) rfl) rfl rfl dX5_align_13 ?_
  refine g_iconst C (v := nI 2) dX5_align_16 (by decide) ?_
  refine g_iconst C (v := nI 0) dX5_align_17 (by decide) ?_
  refine g_iast C 87 (by omega) m26 2 rfl (by omega) (by decide) dX5_align_18 (fun el31 e32 o33 => ?_)
  have r34 : ∀ j, j < 6 → upd g17 2 (nI 0) j = (upd M 2 0) j := upd_rel r10 2 _
  have m35 := (o33 86 (by omega)).trans m25
  have m36 := (o33 88 (by omega)).trans m27
  have m37 := (o33 89 (by omega)).trans m28
  have m38 := (o33 90 (by omega)).trans m29
  have m39 := (o33 91 (by omega)).trans m30
  have m40 := (o33 85 (by omega)).trans e23
  refine g_iload_n C 0 rfl dX5_align_19 ?_
  exact g_iret C rfl dX5_align_20 el31 rfl rfl rfl ⟨rfl, ⟨m40, ⟨_, m35, r9⟩, ⟨_, e32, r34⟩, ⟨_, m36, r11⟩, ⟨_, m37, r12⟩, ⟨_, m38, r13⟩, ⟨_, m39, r14⟩⟩, fun j hj => (o33 j (by omega)).trans ((o24 j (by omega)).trans (rfl))⟩ (Nat.le_of_ble_eq_true rfl) (Nat.le_of_ble_eq_true rfl)

set_option maxHeartbeats 4000000 in
set_option maxRecDepth 100000 in
theorem c_X5_roll (l : Launch) (V : gT) {n : Nat} {ad : Nat → Nat} {el : Nat → va_E} {thr : Int32} {cnt : Nat} {M St We pl sh : Nat → Int32} {F T : Nat → Nat → Int32} (hn : 92 ≤ n) (hc : cnt ≤ 20) (h : X5At V ad el thr cnt M St We pl sh F T) (x y : Int32) : TT l V yX5_roll wsX5_roll { frames := 1, cells := 0, slots := 0, locals := 22 } n ad el [.ref (ad 85), .int x, .int y] (QIw V n ad (fun r u => ((((1 ≤ x ∧ x ≤ 400) ∧ 1 ≤ y ∧ y ≤ 9) ∧ r = M 3 ∧ X5At V ad u 0 cnt (upd (upd (upd M 3 x) 4 y) 5 0) St We pl sh F T) ∨ ((¬ ((1 ≤ x ∧ x ≤ 400) ∧ 1 ≤ y ∧ y ≤ 9)) ∧ X5At V ad u 1 cnt M St We pl sh F T)) ∧ ∀ j, (j < 85 ∨ 92 ≤ j) → u j = el j)) 0 0 := by
  refine TT.body (cc := cX5_roll) (maxL := 4) (ret := (some .int)) (by decide) rfl (Nat.le_of_ble_eq_true rfl) ?_
  intro p e s m below meth c C hnm
  refine g_lv [0, 1, 2] (lv' := [(0, .ref (ad 85)), (1, .int x), (2, .int y)]) rfl ?_
  obtain ⟨m1, ⟨g16, m2, r9⟩, ⟨g17, m3, r10⟩, ⟨g18, m4, r11⟩, ⟨g19, m5, r12⟩, ⟨g20, m6, r13⟩, ⟨g21, m7, r14⟩⟩ := id h
  refine g_aload_n C 0 rfl dX5_roll_0 ?_
  refine g_iconst C (v := nI 0) dX5_roll_1 (by decide) ?_
  refine g_putf C 85 (by omega) m1 rfl 0 (by decide) (fun w h => (List.mem_cons_of_mem _ (List.mem_append_right _ h))) tyX5 tyX5_ok nmX5 (List.mem_of_getElem? (i := 1) rfl) rfl rfl rfl rfl (Nat.le_of_ble_eq_true rfl) dX5_roll_2 (fun el22 e23 o24 => ?_)
  replace e23 : el22 85 = .inr (5, [.int (nI 0), .int (nI cnt), .ref (ad 86), .ref (ad 87), .ref (ad 88), .ref (ad 89), .ref (ad 90), .ref (ad 91)]) := e23
  have m25 := (o24 86 (by omega)).trans m2
  have m26 := (o24 87 (by omega)).trans m3
  have m27 := (o24 88 (by omega)).trans m4
  have m28 := (o24 89 (by omega)).trans m5
  have m29 := (o24 90 (by omega)).trans m6
  have m30 := (o24 91 (by omega)).trans m7
  refine g_iload_n C 1 rfl dX5_roll_5 ?_
  refine g_iconst C (v := nI 1) dX5_roll_6 (by decide) ?_
  refine g_sipush C (v := nI 400) dX5_roll_7 (by decide) ?_
  refine g_calli C (r_S C (st := []) (c_X5_isIn l V x 1 400) (va_cwS 3 C.ts gX5_roll_X5_isIn rfl rfl rfl (by decide +kernel) ⟨(Nat.le_of_ble_eq_true rfl), (Nat.le_of_ble_eq_true rfl)⟩) rfl rfl (Nat.le_of_ble_eq_true rfl) dX5_roll_10 ⟨(Nat.le_of_ble_eq_true rfl), (Nat.le_of_ble_eq_true rfl)⟩) (fun r u hu => ?_)
  subst hu
  refine g_if_eq C (tgt := 26) dX5_roll_13 (by decide) (fun c13 => ?_) (fun c13 => ?_)
  · -- 26
    refine g_aload_n C 0 rfl dX5_roll_26 ?_
    refine g_iconst C (v := nI 1) dX5_roll_27 (by decide) ?_
    refine g_calli C (r_V C (st := []) (c_X5_fail l V (by omega) (by omega) ⟨e23, ⟨_, m25, r9⟩, ⟨_, m26, r10⟩, ⟨_, m27, r11⟩, ⟨_, m28, r12⟩, ⟨_, m29, r13⟩, ⟨_, m30, r14⟩⟩ 1) (cwV 1 C.ts gX5_roll_X5_fail rfl rfl rfl (by decide +kernel) ⟨(Nat.le_of_ble_eq_true rfl), (Nat.le_of_ble_eq_true rfl)⟩) (by omega) e23 rfl rfl rfl (Nat.le_of_ble_eq_true rfl) dX5_roll_28 ⟨(Nat.le_of_ble_eq_true rfl), (Nat.le_of_ble_eq_true rfl)⟩) (fun r9 u hu => ?_)
    exact g_iret C rfl dX5_roll_31 u rfl rfl rfl ⟨Or.inr (⟨fun z => s_in_0 c13 z.1, hu.2.1⟩), fun j hj => (hu.2.2 j (by omega)).trans ((o24 j (by omega)).trans (rfl))⟩ (Nat.le_of_ble_eq_true rfl) (Nat.le_of_ble_eq_true rfl)
  · -- 16
    refine g_iload_n C 2 rfl dX5_roll_16 ?_
    refine g_iconst C (v := nI 1) dX5_roll_17 (by decide) ?_
    refine g_bipush C (v := nI 9) dX5_roll_18 (by decide) ?_
    refine g_calli C (r_S C (st := []) (c_X5_isIn l V y 1 9) (va_cwS 3 C.ts gX5_roll_X5_isIn rfl rfl rfl (by decide +kernel) ⟨(Nat.le_of_ble_eq_true rfl), (Nat.le_of_ble_eq_true rfl)⟩) rfl rfl (Nat.le_of_ble_eq_true rfl) dX5_roll_20 ⟨(Nat.le_of_ble_eq_true rfl), (Nat.le_of_ble_eq_true rfl)⟩) (fun r u hu => ?_)
    subst hu
    refine g_if_ne C (tgt := 32) dX5_roll_23 (by decide) (fun c23 => ?_) (fun c23 => ?_)
    · -- 32
      refine g_aload_n C 0 rfl dX5_roll_32 ?_
      refine g_getf C 85 (by omega) e23 rfl 3 (by decide) (fun w h => (List.mem_cons_of_mem _ (List.mem_append_right _ h))) (List.mem_of_getElem? (i := 2) rfl) rfl rfl dX5_roll_33 ?_
      refine g_iconst C (v := nI 3) dX5_roll_36 (by decide) ?_
      refine g_iald C 87 (by omega) m26 3 rfl (by omega) (by decide) dX5_roll_37 ?_
      refine g_top (r10 3 (by omega) : g17 3 = M 3) ?_
      refine g_istore_n C (lv' := [(3, .int (M 3)), (0, .ref (ad 85)), (1, .int x), (2, .int y)]) dX5_roll_38 (by decide) rfl ?_
      refine g_aload_n C 1 rfl dX5_roll_39 ?_
      refine g_getf C 85 (by omega) e23 rfl 3 (by decide) (fun w h => (List.mem_cons_of_mem _ (List.mem_append_right _ h))) (List.mem_of_getElem? (i := 2) rfl) rfl rfl dX5_roll_40 ?_
      refine g_iconst C (v := nI 3) dX5_roll_43 (by decide) ?_
      refine g_iload_n C 2 rfl dX5_roll_44 ?_
      refine g_iast C 87 (by omega) m26 3 rfl (by omega) (by decide) dX5_roll_45 (fun el31 e32 o33 => ?_)
      have r34 : ∀ j, j < 6 → upd g17 3 (x) j = (upd M 3 x) j := upd_rel r10 3 _
      have m35 := (o33 86 (by omega)).trans m25
      have m36 := (o33 88 (by omega)).trans m27
      have m37 := (o33 89 (by omega)).trans m28
      have m38 := (o33 90 (by omega)).trans m29
      have m39 := (o33 91 (by omega)).trans m30
      have m40 := (o33 85 (by omega)).trans e23
      refine g_aload_n C 1 rfl dX5_roll_46 ?_
      refine g_getf C 85 (by omega) m40 rfl 3 (by decide) (fun w h => (List.mem_cons_of_mem _ (List.mem_append_right _ h))) (List.mem_of_getElem? (i := 2) rfl) rfl rfl dX5_roll_47 ?_
      refine g_iconst C (v := nI 4) dX5_roll_50 (by decide) ?_
      refine g_iload_n C 3 rfl dX5_roll_51 ?_
      refine g_iast C 87 (by omega) e32 4 rfl (by omega) (by decide) dX5_roll_52 (fun el41 e42 o43 => ?_)
      have r44 : ∀ j, j < 6 → upd (upd g17 3 (x)) 4 (y) j = (upd ((upd M 3 x)) 4 y) j := upd_rel r34 4 _
      have m45 := (o43 86 (by omega)).trans m35
      have m46 := (o43 88 (by omega)).trans m36
      have m47 := (o43 89 (by omega)).trans m37
      have m48 := (o43 90 (by omega)).trans m38
      have m49 := (o43 91 (by omega)).trans m39
      have m50 := (o43 85 (by omega)).trans m40
      refine g_aload_n C 1 rfl dX5_roll_53 ?_
      refine g_getf C 85 (by omega) m50 rfl 3 (by decide) (fun w h => (List.mem_cons_of_mem _ (List.mem_append_right _ h))) (List.mem_of_getElem? (i := 2) rfl) rfl rfl dX5_roll_54 ?_
      refine g_iconst C (v := nI 5) dX5_roll_57 (by decide) ?_
      refine g_iconst C (v := nI 0) dX5_roll_58 (by decide) ?_
      refine g_iast C 87 (by omega) e42 5 rfl (by omega) (by decide) dX5_roll_59 (fun el51 e52 o53 => ?_)
      have r54 : ∀ j, j < 6 → upd (upd (upd g17 3 (x)) 4 (y)) 5 (nI 0) j = (upd ((upd ((upd M 3 x)) 4 y)) 5 0) j := upd_rel r44 5 _
      have m55 := (o53 86 (by omega)).trans m45
      have m56 := (o53 88 (by omega)).trans m46
      have m57 := (o53 89 (by omega)).trans m47
      have m58 := (o53 90 (by omega)).trans m48
      have m59 := (o53 91 (by omega)).trans m49
      have m60 := (o53 85 (by omega)).trans m50
      refine g_iload_n C 0 rfl dX5_roll_60 ?_
      exact g_iret C rfl dX5_roll_61 el51 rfl rfl rfl ⟨Or.inl ⟨⟨s_in_1 c13, s_in_1 c23⟩, rfl, ⟨m60, ⟨_, m55, r9⟩, ⟨_, e52, r54⟩, ⟨_, m56, r11⟩, ⟨_, m57, r12⟩, ⟨_, m58, r13⟩, ⟨_, m59, r14⟩⟩⟩, fun j hj => (o53 j (by omega)).trans ((o43 j (by omega)).trans ((o33 j (by omega)).trans ((o24 j (by omega)).trans (rfl))))⟩ (Nat.le_of_ble_eq_true rfl) (Nat.le_of_ble_eq_true rfl)
    · -- 26
      refine g_aload_n C 0 rfl dX5_roll_26 ?_
      refine g_iconst C (v := nI 1) dX5_roll_27 (by decide) ?_
      refine g_calli C (r_V C (st := []) (c_X5_fail l V (by omega) (by omega) ⟨e23, ⟨_, m25, r9⟩, ⟨_, m26, r10⟩, ⟨_, m27, r11⟩, ⟨_, m28, r12⟩, ⟨_, m29, r13⟩, ⟨_, m30, r14⟩⟩ 1) (cwV 1 C.ts gX5_roll_X5_fail rfl rfl rfl (by decide +kernel) ⟨(Nat.le_of_ble_eq_true rfl), (Nat.le_of_ble_eq_true rfl)⟩) (by omega) e23 rfl rfl rfl (Nat.le_of_ble_eq_true rfl) dX5_roll_28 ⟨(Nat.le_of_ble_eq_true rfl), (Nat.le_of_ble_eq_true rfl)⟩) (fun r9 u hu => ?_)
      exact g_iret C rfl dX5_roll_31 u rfl rfl rfl ⟨Or.inr (⟨fun z => s_in_0 c23 z.2, hu.2.1⟩), fun j hj => (hu.2.2 j (by omega)).trans ((o24 j (by omega)).trans (rfl))⟩ (Nat.le_of_ble_eq_true rfl) (Nat.le_of_ble_eq_true rfl)
