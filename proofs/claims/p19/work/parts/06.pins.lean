/-! ===== the pins and the sheets of the class ===== -/
set_option maxHeartbeats 4000000 in
set_option maxRecDepth 100000 in
theorem c_X1_isWhole (l : Launch) (V : gT) {n : Nat} {ad : Nat → Nat} {el : Nat → va_E} {k : Nat} {st we : Int32} (hk : k < n) (he : el k = .inr (1, [.int st, .int we])) : TT l V yX1_isWhole wsX1_isWhole { frames := 0, cells := 0, slots := 0, locals := 0 } n ad el [.ref (ad k)] (QIr V n ad el (fun r => r = if we ≤ st then 1 else 0)) 0 0 := by
  refine TT.body (cc := cX1_isWhole) (maxL := 1) (ret := (some .boolean)) (by decide) rfl (Nat.le_of_ble_eq_true rfl) ?_
  intro p e s m below meth c C hnm
  refine g_lv [0] (lv' := [(0, .ref (ad k))]) rfl ?_
  refine g_aload_n C 0 rfl dX1_isWhole_0 ?_
  refine g_getf C k (by omega) he rfl 1 (by decide) (fun w h => (List.mem_cons_of_mem _ (List.mem_append_right _ h))) (List.mem_of_getElem? (i := 1) rfl) rfl rfl dX1_isWhole_1 ?_
  refine g_aload_n C 0 rfl dX1_isWhole_4 ?_
  refine g_getf C k (by omega) he rfl 0 (by decide) (fun w h => (List.mem_cons_of_mem _ (List.mem_append_right _ h))) (List.mem_of_getElem? (i := 2) rfl) rfl rfl dX1_isWhole_5 ?_
  refine g_icmp_gt C (tgt := 15) dX1_isWhole_8 (by decide) (fun c8 => ?_) (fun c8 => ?_)
  · -- 15
    refine g_iconst C (v := nI 0) dX1_isWhole_15 (by decide) ?_
    exact g_zret C rfl rfl dX1_isWhole_16 () rfl rfl rfl (if_neg (i_nle c8)).symm (Nat.le_of_ble_eq_true rfl) (Nat.le_of_ble_eq_true rfl)
  · -- 11
    refine g_iconst C (v := nI 1) dX1_isWhole_11 (by decide) ?_
    refine g_goto C (tgt := 16) dX1_isWhole_12 (by decide) ?_
    exact g_zret C rfl rfl dX1_isWhole_16 () rfl rfl rfl (if_pos (i_ge c8)).symm (Nat.le_of_ble_eq_true rfl) (Nat.le_of_ble_eq_true rfl)

set_option maxHeartbeats 4000000 in
set_option maxRecDepth 100000 in
theorem c_X1_strike (l : Launch) (V : gT) {n : Nat} {ad : Nat → Nat} {el : Nat → va_E} {k : Nat} {st we : Int32} (hk : k < n) (he : el k = .inr (1, [.int st, .int we])) : TT l V yX1_strike wsX1_strike { frames := 1, cells := 0, slots := 0, locals := 20 } n ad el [.ref (ad k)] (QVw V n ad (fun u => u k = .inr (1, [.int st, .int (s_strike st we)]) ∧ ∀ j, j ≠ k → u j = el j)) 0 0 := by
  refine TT.body (cc := cX1_strike) (maxL := 1) (ret := none) (by decide) rfl (Nat.le_of_ble_eq_true rfl) ?_
  intro p e s m below meth c C hnm
  refine g_lv [0] (lv' := [(0, .ref (ad k))]) rfl ?_
  refine g_aload_n C 0 rfl dX1_strike_0 ?_
  refine g_calli C (r_V C (st := []) (c_X1_isWhole l V (by omega) he) (cwV 0 C.ts gX1_strike_X1_isWhole rfl rfl rfl (by decide +kernel) ⟨(Nat.le_of_ble_eq_true rfl), (Nat.le_of_ble_eq_true rfl)⟩) (by omega) he rfl rfl rfl (Nat.le_of_ble_eq_true rfl) dX1_strike_1 ⟨(Nat.le_of_ble_eq_true rfl), (Nat.le_of_ble_eq_true rfl)⟩) (fun r u hu => ?_)
  subst hu
  refine g_if_eq C (tgt := 17) dX1_strike_4 (by decide) (fun c4 => ?_) (fun c4 => ?_)
  · -- 17
    exact g_vret C rfl dX1_strike_17 el rfl rfl rfl ⟨by rw [he, s_strike, if_neg (fun z => by rw [if_pos z] at c4; exact absurd c4 (by decide))], fun j _ => rfl⟩ (Nat.le_of_ble_eq_true rfl) (Nat.le_of_ble_eq_true rfl)
  · -- 7
    refine g_aload_n C 0 rfl dX1_strike_7 ?_
    refine g_dup C dX1_strike_8 rfl ?_
    refine g_getf C k (by omega) he rfl 1 (by decide) (fun w h => (List.mem_cons_of_mem _ (List.mem_append_right _ h))) (List.mem_of_getElem? (i := 1) rfl) rfl rfl dX1_strike_9 ?_
    refine g_iconst C (v := nI 1) dX1_strike_12 (by decide) ?_
    refine g_iadd C (v := we + 1) dX1_strike_13 rfl ?_
    refine g_putf C k (by omega) he rfl 1 (by decide) (fun w h => (List.mem_cons_of_mem _ (List.mem_append_right _ h))) tyX1 tyX1_ok nmX1 (List.mem_of_getElem? (i := 1) rfl) rfl rfl rfl rfl (Nat.le_of_ble_eq_true rfl) dX1_strike_14 (fun el1 e2 o3 => ?_)
    replace e2 : el1 k = .inr (1, [.int st, .int (we + 1)]) := e2
    exact g_vret C rfl dX1_strike_17 el1 rfl rfl rfl ⟨by rw [e2, s_strike, if_pos (Classical.byContradiction (fun z => c4 (if_neg z)))] <;> rfl, o3⟩ (Nat.le_of_ble_eq_true rfl) (Nat.le_of_ble_eq_true rfl)

set_option maxHeartbeats 4000000 in
set_option maxRecDepth 100000 in
theorem c_X1_becomeLike (l : Launch) (V : gT) {n : Nat} {ad : Nat → Nat} {el : Nat → va_E} {k k2 : Nat} {st we st2 we2 : Int32} (hk : k < n) (hk2 : k2 < n) (hkk : k ≠ k2) (he : el k = .inr (1, [.int st, .int we])) (he2 : el k2 = .inr (1, [.int st2, .int we2])) : TT l V yX1_becomeLike wsX1_becomeLike { frames := 0, cells := 0, slots := 0, locals := 0 } n ad el [.ref (ad k), .ref (ad k2)] (QVw V n ad (fun u => u k = .inr (1, [.int st2, .int we2]) ∧ ∀ j, j ≠ k → u j = el j)) 0 0 := by
  refine TT.body (cc := cX1_becomeLike) (maxL := 2) (ret := none) (by decide) rfl (Nat.le_of_ble_eq_true rfl) ?_
  intro p e s m below meth c C hnm
  refine g_lv [0, 1] (lv' := [(0, .ref (ad k)), (1, .ref (ad k2))]) rfl ?_
  refine g_aload_n C 0 rfl dX1_becomeLike_0 ?_
  refine g_aload_n C 1 rfl dX1_becomeLike_1 ?_
  refine g_getf C k2 (by omega) he2 rfl 0 (by decide) (fun w h => (List.mem_cons_of_mem _ (List.mem_append_right _ h))) (List.mem_of_getElem? (i := 1) rfl) rfl rfl dX1_becomeLike_2 ?_
  refine g_putf C k (by omega) he rfl 0 (by decide) (fun w h => (List.mem_cons_of_mem _ (List.mem_append_right _ h))) tyX1 tyX1_ok nmX1 (List.mem_of_getElem? (i := 1) rfl) rfl rfl rfl rfl (Nat.le_of_ble_eq_true rfl) dX1_becomeLike_5 (fun el1 e2 o3 => ?_)
  replace e2 : el1 k = .inr (1, [.int st2, .int we]) := e2
  have m4 := (o3 k2 (by omega)).trans he2
  refine g_aload_n C 0 rfl dX1_becomeLike_8 ?_
  refine g_aload_n C 1 rfl dX1_becomeLike_9 ?_
  refine g_getf C k2 (by omega) m4 rfl 1 (by decide) (fun w h => (List.mem_cons_of_mem _ (List.mem_append_right _ h))) (List.mem_of_getElem? (i := 2) rfl) rfl rfl dX1_becomeLike_10 ?_
  refine g_putf C k (by omega) e2 rfl 1 (by decide) (fun w h => (List.mem_cons_of_mem _ (List.mem_append_right _ h))) tyX1 tyX1_ok nmX1 (List.mem_of_getElem? (i := 2) rfl) rfl rfl rfl rfl (Nat.le_of_ble_eq_true rfl) dX1_becomeLike_13 (fun el5 e6 o7 => ?_)
  replace e6 : el5 k = .inr (1, [.int st2, .int we2]) := e6
  have m8 := (o7 k2 (by omega)).trans m4
  exact g_vret C rfl dX1_becomeLike_16 el5 rfl rfl rfl ⟨e6, fun j hj => (o7 j hj).trans (o3 j hj)⟩ (Nat.le_of_ble_eq_true rfl) (Nat.le_of_ble_eq_true rfl)

set_option maxHeartbeats 4000000 in
set_option maxRecDepth 100000 in
theorem c_X1_answer (l : Launch) (V : gT) {n : Nat} {ad : Nat → Nat} {el : Nat → va_E} {k : Nat} {st we : Int32} (x : Int32) (hk : k < n) (he : el k = .inr (1, [.int st, .int we])) : TT l V yX1_answer wsX1_answer { frames := 1, cells := 0, slots := 0, locals := 20 } n ad el [.ref (ad k), .int x] (QIr V n ad el (fun r => r = s_pin st we x)) 0 0 := by
  refine TT.body (cc := cX1_answer) (maxL := 2) (ret := (some .int)) (by decide) rfl (Nat.le_of_ble_eq_true rfl) ?_
  intro p e s m below meth c C hnm
  refine g_lv [0, 1] (lv' := [(0, .ref (ad k)), (1, .int x)]) rfl ?_
  refine g_iload_n C 1 rfl dX1_answer_0 ?_
  by_cases q0 : x = 0
  · -- case
    refine g_tableIn C (tgt := 28) (off := 27) dX1_answer_1 (by rw [q0]; decide) (by rw [q0]; decide) (by rw [q0]; rfl) (by decide) ?_
    refine g_aload_n C 0 rfl dX1_answer_28 ?_
    refine g_getf C k (by omega) he rfl 0 (by decide) (fun w h => (List.mem_cons_of_mem _ (List.mem_append_right _ h))) (List.mem_of_getElem? (i := 1) rfl) rfl rfl dX1_answer_29 ?_
    exact g_iret C rfl dX1_answer_32 () rfl rfl rfl (by rw [s_pin, if_pos q0]) (Nat.le_of_ble_eq_true rfl) (Nat.le_of_ble_eq_true rfl)
  by_cases q1 : x = 1
  · -- case
    refine g_tableIn C (tgt := 33) (off := 32) dX1_answer_1 (by rw [q1]; decide) (by rw [q1]; decide) (by rw [q1]; rfl) (by decide) ?_
    refine g_aload_n C 0 rfl dX1_answer_33 ?_
    refine g_getf C k (by omega) he rfl 1 (by decide) (fun w h => (List.mem_cons_of_mem _ (List.mem_append_right _ h))) (List.mem_of_getElem? (i := 2) rfl) rfl rfl dX1_answer_34 ?_
    exact g_iret C rfl dX1_answer_37 () rfl rfl rfl (by rw [s_pin, if_neg q0, if_pos q1]) (Nat.le_of_ble_eq_true rfl) (Nat.le_of_ble_eq_true rfl)
  by_cases q2 : x = 2
  · -- case
    refine g_tableIn C (tgt := 38) (off := 37) dX1_answer_1 (by rw [q2]; decide) (by rw [q2]; decide) (by rw [q2]; rfl) (by decide) ?_
    refine g_aload_n C 0 rfl dX1_answer_38 ?_
    refine g_calli C (r_V C (st := []) (c_X1_isWhole l V (by omega) he) (cwV 0 C.ts gX1_answer_X1_isWhole rfl rfl rfl (by decide +kernel) ⟨(Nat.le_of_ble_eq_true rfl), (Nat.le_of_ble_eq_true rfl)⟩) (by omega) he rfl rfl rfl (Nat.le_of_ble_eq_true rfl) dX1_answer_39 ⟨(Nat.le_of_ble_eq_true rfl), (Nat.le_of_ble_eq_true rfl)⟩) (fun r u hu => ?_)
    subst hu
    refine g_if_eq C (tgt := 49) dX1_answer_42 (by decide) (fun c42 => ?_) (fun c42 => ?_)
    · -- 49
      refine g_iconst C (v := nI 0) dX1_answer_49 (by decide) ?_
      exact g_iret C rfl dX1_answer_50 () rfl rfl rfl (by rw [s_pin, if_neg q0, if_neg q1, if_pos q2, if_neg (fun z => by rw [if_pos z] at c42; exact absurd c42 (by decide))] <;> rfl) (Nat.le_of_ble_eq_true rfl) (Nat.le_of_ble_eq_true rfl)
    · -- 45
      refine g_iconst C (v := nI 1) dX1_answer_45 (by decide) ?_
      refine g_goto C (tgt := 50) dX1_answer_46 (by decide) ?_
      exact g_iret C rfl dX1_answer_50 () rfl rfl rfl (by rw [s_pin, if_neg q0, if_neg q1, if_pos q2, if_pos (Classical.byContradiction (fun z => c42 (if_neg z)))] <;> rfl) (Nat.le_of_ble_eq_true rfl) (Nat.le_of_ble_eq_true rfl)
  have qq : x.toInt < 0 ∨ 2 < x.toInt := by
    have z0 : x.toInt ≠ 0 := fun z => q0 (Int32.toInt_inj.mp z)
    have z1 : x.toInt ≠ 1 := fun z => q1 (Int32.toInt_inj.mp z)
    have z2 : x.toInt ≠ 2 := fun z => q2 (Int32.toInt_inj.mp z)
    omega
  refine g_tableOut C (tgt := 51) dX1_answer_1 qq (by decide) ?_
  refine g_aload_n C 0 rfl dX1_answer_51 ?_
  refine g_calli C (r_V C (st := []) (c_X1_isWhole l V (by omega) he) (cwV 0 C.ts gX1_answer_X1_isWhole rfl rfl rfl (by decide +kernel) ⟨(Nat.le_of_ble_eq_true rfl), (Nat.le_of_ble_eq_true rfl)⟩) (by omega) he rfl rfl rfl (Nat.le_of_ble_eq_true rfl) dX1_answer_52 ⟨(Nat.le_of_ble_eq_true rfl), (Nat.le_of_ble_eq_true rfl)⟩) (fun r u hu => ?_)
  subst hu
  refine g_if_eq C (tgt := 72) dX1_answer_55 (by decide) (fun c55 => ?_) (fun c55 => ?_)
  · -- 72
    refine g_iconst C (v := nI 0) dX1_answer_72 (by decide) ?_
    exact g_iret C rfl dX1_answer_73 () rfl rfl rfl (by rw [s_pin, if_neg q0, if_neg q1, if_neg q2, if_neg (fun z => by rw [if_pos z] at c55; exact absurd c55 (by decide))] <;> rfl) (Nat.le_of_ble_eq_true rfl) (Nat.le_of_ble_eq_true rfl)
  · -- 58
    refine g_aload_n C 0 rfl dX1_answer_58 ?_
    refine g_getf C k (by omega) he rfl 0 (by decide) (fun w h => (List.mem_cons_of_mem _ (List.mem_append_right _ h))) (List.mem_of_getElem? (i := 1) rfl) rfl rfl dX1_answer_59 ?_
    refine g_aload_n C 0 rfl dX1_answer_62 ?_
    refine g_getf C k (by omega) he rfl 1 (by decide) (fun w h => (List.mem_cons_of_mem _ (List.mem_append_right _ h))) (List.mem_of_getElem? (i := 2) rfl) rfl rfl dX1_answer_63 ?_
    refine g_isub C (v := st - we) dX1_answer_66 rfl ?_
    refine g_iconst C (v := nI 1) dX1_answer_67 (by decide) ?_
    refine g_iadd C (v := (st - we) + 1) dX1_answer_68 rfl ?_
    refine g_goto C (tgt := 73) dX1_answer_69 (by decide) ?_
    exact g_iret C rfl dX1_answer_73 () rfl rfl rfl (by rw [s_pin, if_neg q0, if_neg q1, if_neg q2, if_pos (Classical.byContradiction (fun z => c55 (if_neg z)))] <;> rfl) (Nat.le_of_ble_eq_true rfl) (Nat.le_of_ble_eq_true rfl)
