/-! ===== the machine's methods ===== -/
set_option maxHeartbeats 4000000 in
set_option maxRecDepth 100000 in
theorem c_X4_isWithin (l : Launch) (V : gT) {n : Nat} {ad : Nat → Nat} {el : Nat → va_E} (x a b : Int32) : TT l V yX4_isWithin wsX4_isWithin { frames := 0, cells := 0, slots := 0, locals := 0 } n ad el [.int x, .int a, .int b] (QIr V n ad el (fun r => r = s_in x a b)) 0 0 := by
  refine TT.body (cc := cX4_isWithin) (maxL := 3) (ret := (some .boolean)) (by decide) rfl (Nat.le_of_ble_eq_true rfl) ?_
  intro p e s m below meth c C hnm
  refine g_lv [0, 1, 2] (lv' := [(0, .int x), (1, .int a), (2, .int b)]) rfl ?_
  refine g_iload_n C 0 rfl dX4_isWithin_0 ?_
  refine g_iload_n C 1 rfl dX4_isWithin_1 ?_
  refine g_icmp_lt C (tgt := 14) dX4_isWithin_2 (by decide) (fun c2 => ?_) (fun c2 => ?_)
  · -- 14
    refine g_iconst C (v := nI 0) dX4_isWithin_14 (by decide) ?_
    exact g_zret C rfl rfl dX4_isWithin_15 () rfl rfl rfl (by rw [s_in, if_neg (fun z => i_nlt z.1 c2)] <;> rfl) (Nat.le_of_ble_eq_true rfl) (Nat.le_of_ble_eq_true rfl)
  · -- 5
    refine g_iload_n C 0 rfl dX4_isWithin_5 ?_
    refine g_iload_n C 2 rfl dX4_isWithin_6 ?_
    refine g_icmp_gt C (tgt := 14) dX4_isWithin_7 (by decide) (fun c7 => ?_) (fun c7 => ?_)
    · -- 14
      refine g_iconst C (v := nI 0) dX4_isWithin_14 (by decide) ?_
      exact g_zret C rfl rfl dX4_isWithin_15 () rfl rfl rfl (by rw [s_in, if_neg (fun z => i_nlt z.2 c7)] <;> rfl) (Nat.le_of_ble_eq_true rfl) (Nat.le_of_ble_eq_true rfl)
    · -- 10
      refine g_iconst C (v := nI 1) dX4_isWithin_10 (by decide) ?_
      refine g_goto C (tgt := 15) dX4_isWithin_11 (by decide) ?_
      exact g_zret C rfl rfl dX4_isWithin_15 () rfl rfl rfl (by rw [s_in, if_pos ⟨i_ge c2, i_ge c7⟩] <;> rfl) (Nat.le_of_ble_eq_true rfl) (Nat.le_of_ble_eq_true rfl)

set_option maxHeartbeats 4000000 in
set_option maxRecDepth 100000 in
theorem c_X0_holeFaults (l : Launch) (V : gT) {n : Nat} {ad : Nat → Nat} {el : Nat → va_E} {k : Nat} {M St We : Nat → Int32} (hk : k + 9 ≤ n) (h : MacAt V ad el k M St We) (cl : Nat) (hcl : cl < 6) : TT l V yX0_holeFaults wsX0_holeFaults { frames := 1, cells := 0, slots := 0, locals := 20 } n ad el [.ref (ad k), .int (nI cl)] (QIr V n ad el (fun r => r = s_hole St We cl)) 0 0 := by
  refine TT.body (cc := cX0_holeFaults) (maxL := 3) (ret := (some .int)) (by decide) rfl (Nat.le_of_ble_eq_true rfl) ?_
  intro p e s m below meth c C hnm
  refine g_lv [0, 1] (lv' := [(0, .ref (ad k)), (1, .int (nI cl))]) rfl ?_
  obtain ⟨hM1, ⟨g2, hA3, hg4⟩, hp5⟩ := id h
  refine g_iconst C (v := nI 0) dX0_holeFaults_0 (by decide) ?_
  refine g_istore_n C (lv' := [(2, .int (nI 0)), (0, .ref (ad k)), (1, .int (nI cl))]) dX0_holeFaults_1 (by decide) rfl ?_
  refine g_aload_n C 1 rfl dX0_holeFaults_2 ?_
  refine g_getf C k (by omega) hM1 rfl 0 (by decide) (fun w h => (List.mem_cons_of_mem _ (List.mem_append_left _ (List.mem_append_right _ h)))) (List.mem_of_getElem? (i := 1) rfl) rfl rfl dX0_holeFaults_3 ?_
  refine g_iload_n C 2 rfl dX0_holeFaults_6 ?_
  refine g_aald C (k + 1) (by omega) 3 rfl hA3 cl rfl (by omega) (by decide) (hg4 cl (by omega)) dX0_holeFaults_7 ?_
  refine g_calli C (r_V C (st := []) (c_X1_isWhole l V (by omega) (hp5 cl (by omega))) (cwV 0 C.ts gX0_holeFaults_X1_isWhole rfl rfl rfl (by decide +kernel) ⟨(Nat.le_of_ble_eq_true rfl), (Nat.le_of_ble_eq_true rfl)⟩) (by omega) (hp5 cl (by omega)) rfl rfl rfl (Nat.le_of_ble_eq_true rfl) dX0_holeFaults_8 ⟨(Nat.le_of_ble_eq_true rfl), (Nat.le_of_ble_eq_true rfl)⟩) (fun r u hu => ?_)
  subst hu
  refine g_if_ne C (tgt := 18) dX0_holeFaults_11 (by decide) (fun c11 => ?_) (fun c11 => ?_)
  · -- 18
    refine g_aload_n C 1 rfl dX0_holeFaults_18 ?_
    refine g_getf C k (by omega) hM1 rfl 0 (by decide) (fun w h => (List.mem_cons_of_mem _ (List.mem_append_left _ (List.mem_append_right _ h)))) (List.mem_of_getElem? (i := 1) rfl) rfl rfl dX0_holeFaults_19 ?_
    refine g_iload_n C 2 rfl dX0_holeFaults_22 ?_
    refine g_iconst C (v := nI 1) dX0_holeFaults_23 (by decide) ?_
    refine g_iadd C (v := nI (cl + 1)) dX0_holeFaults_24 (nI_add _ _) ?_
    refine g_aald C (k + 1) (by omega) 3 rfl hA3 (cl + 1) rfl (by omega) (by decide) (hg4 (cl + 1) (by omega)) dX0_holeFaults_25 ?_
    refine g_calli C (r_V C (st := []) (c_X1_isWhole l V (by omega) (hp5 (cl + 1) (by omega))) (cwV 0 C.ts gX0_holeFaults_X1_isWhole rfl rfl rfl (by decide +kernel) ⟨(Nat.le_of_ble_eq_true rfl), (Nat.le_of_ble_eq_true rfl)⟩) (by omega) (hp5 (cl + 1) (by omega)) rfl rfl rfl (Nat.le_of_ble_eq_true rfl) dX0_holeFaults_26 ⟨(Nat.le_of_ble_eq_true rfl), (Nat.le_of_ble_eq_true rfl)⟩) (fun r u hu => ?_)
    subst hu
    refine g_if_ne C (tgt := 36) dX0_holeFaults_29 (by decide) (fun c29 => ?_) (fun c29 => ?_)
    · -- 36
      refine g_iload_n C 0 rfl dX0_holeFaults_36 ?_
      exact g_iret C rfl dX0_holeFaults_37 () rfl rfl rfl (by rw [s_hole, s_hole1, if_pos (Classical.byContradiction (fun z => c29 (if_neg z))), if_pos (Classical.byContradiction (fun z => c11 (if_neg z)))] <;> rfl) (Nat.le_of_ble_eq_true rfl) (Nat.le_of_ble_eq_true rfl)
    · -- 32
      refine g_iload_n C 0 rfl dX0_holeFaults_32 ?_
      refine g_iconst C (v := nI 4) dX0_holeFaults_33 (by decide) ?_
      refine g_ior C (v := 0 ||| 4) dX0_holeFaults_34 rfl ?_
      refine g_istore_n C (lv' := [(2, .int (0 ||| 4)), (0, .ref (ad k)), (1, .int (nI cl))]) dX0_holeFaults_35 (by decide) rfl ?_
      refine g_iload_n C 0 rfl dX0_holeFaults_36 ?_
      exact g_iret C rfl dX0_holeFaults_37 () rfl rfl rfl (by rw [s_hole, s_hole1, if_neg (fun z => by rw [if_pos z] at c29; exact absurd c29 (by decide)), if_pos (Classical.byContradiction (fun z => c11 (if_neg z)))] <;> rfl) (Nat.le_of_ble_eq_true rfl) (Nat.le_of_ble_eq_true rfl)
  · -- 14
    refine g_iload_n C 0 rfl dX0_holeFaults_14 ?_
    refine g_iconst C (v := nI 2) dX0_holeFaults_15 (by decide) ?_
    refine g_ior C (v := 0 ||| 2) dX0_holeFaults_16 rfl ?_
    refine g_istore_n C (lv' := [(2, .int (0 ||| 2)), (0, .ref (ad k)), (1, .int (nI cl))]) dX0_holeFaults_17 (by decide) rfl ?_
    refine g_aload_n C 1 rfl dX0_holeFaults_18 ?_
    refine g_getf C k (by omega) hM1 rfl 0 (by decide) (fun w h => (List.mem_cons_of_mem _ (List.mem_append_left _ (List.mem_append_right _ h)))) (List.mem_of_getElem? (i := 1) rfl) rfl rfl dX0_holeFaults_19 ?_
    refine g_iload_n C 2 rfl dX0_holeFaults_22 ?_
    refine g_iconst C (v := nI 1) dX0_holeFaults_23 (by decide) ?_
    refine g_iadd C (v := nI (cl + 1)) dX0_holeFaults_24 (nI_add _ _) ?_
    refine g_aald C (k + 1) (by omega) 3 rfl hA3 (cl + 1) rfl (by omega) (by decide) (hg4 (cl + 1) (by omega)) dX0_holeFaults_25 ?_
    refine g_calli C (r_V C (st := []) (c_X1_isWhole l V (by omega) (hp5 (cl + 1) (by omega))) (cwV 0 C.ts gX0_holeFaults_X1_isWhole rfl rfl rfl (by decide +kernel) ⟨(Nat.le_of_ble_eq_true rfl), (Nat.le_of_ble_eq_true rfl)⟩) (by omega) (hp5 (cl + 1) (by omega)) rfl rfl rfl (Nat.le_of_ble_eq_true rfl) dX0_holeFaults_26 ⟨(Nat.le_of_ble_eq_true rfl), (Nat.le_of_ble_eq_true rfl)⟩) (fun r u hu => ?_)
    subst hu
    refine g_if_ne C (tgt := 36) dX0_holeFaults_29 (by decide) (fun c29 => ?_) (fun c29 => ?_)
    · -- 36
      refine g_iload_n C 0 rfl dX0_holeFaults_36 ?_
      exact g_iret C rfl dX0_holeFaults_37 () rfl rfl rfl (by rw [s_hole, s_hole1, if_pos (Classical.byContradiction (fun z => c29 (if_neg z))), if_neg (fun z => by rw [if_pos z] at c11; exact absurd c11 (by decide))] <;> rfl) (Nat.le_of_ble_eq_true rfl) (Nat.le_of_ble_eq_true rfl)
    · -- 32
      refine g_iload_n C 0 rfl dX0_holeFaults_32 ?_
      refine g_iconst C (v := nI 4) dX0_holeFaults_33 (by decide) ?_
      refine g_ior C (v := (0 ||| 2) ||| 4) dX0_holeFaults_34 rfl ?_
      refine g_istore_n C (lv' := [(2, .int ((0 ||| 2) ||| 4)), (0, .ref (ad k)), (1, .int (nI cl))]) dX0_holeFaults_35 (by decide) rfl ?_
      refine g_iload_n C 0 rfl dX0_holeFaults_36 ?_
      exact g_iret C rfl dX0_holeFaults_37 () rfl rfl rfl (by rw [s_hole, s_hole1, if_neg (fun z => by rw [if_pos z] at c29; exact absurd c29 (by decide)), if_neg (fun z => by rw [if_pos z] at c11; exact absurd c11 (by decide))] <;> rfl) (Nat.le_of_ble_eq_true rfl) (Nat.le_of_ble_eq_true rfl)

set_option maxHeartbeats 4000000 in
set_option maxRecDepth 100000 in
theorem c_X0_hasWatermark (l : Launch) (V : gT) {n : Nat} {ad : Nat → Nat} {el : Nat → va_E} {k : Nat} {M St We : Nat → Int32} (hk : k + 9 ≤ n) (h : MacAt V ad el k M St We) (cl : Nat) : TT l V yX0_hasWatermark wsX0_hasWatermark { frames := 0, cells := 0, slots := 0, locals := 0 } n ad el [.ref (ad k), .int (nI cl)] (QIr V n ad el (fun r => r = s_wmi M cl)) 0 0 := by
  refine TT.body (cc := cX0_hasWatermark) (maxL := 2) (ret := (some .boolean)) (by decide) rfl (Nat.le_of_ble_eq_true rfl) ?_
  intro p e s m below meth c C hnm
  refine g_lv [0, 1] (lv' := [(0, .ref (ad k)), (1, .int (nI cl))]) rfl ?_
  obtain ⟨hM1, ⟨g2, hA3, hg4⟩, hp5⟩ := id h
  refine g_aload_n C 0 rfl dX0_hasWatermark_0 ?_
  refine g_getf C k (by omega) hM1 rfl 6 (by decide) (fun w h => (List.mem_cons_of_mem _ (List.mem_append_right _ h))) (List.mem_of_getElem? (i := 1) rfl) rfl rfl dX0_hasWatermark_1 ?_
  refine g_if_le C (tgt := 25) dX0_hasWatermark_4 (by decide) (fun c4 => ?_) (fun c4 => ?_)
  · -- 25
    refine g_iconst C (v := nI 0) dX0_hasWatermark_25 (by decide) ?_
    exact g_zret C rfl rfl dX0_hasWatermark_26 () rfl rfl rfl (by rw [s_wmi, if_neg (fun z => i_nlt c4 z.1)] <;> rfl) (Nat.le_of_ble_eq_true rfl) (Nat.le_of_ble_eq_true rfl)
  · -- 7
    refine g_aload_n C 0 rfl dX0_hasWatermark_7 ?_
    refine g_getf C k (by omega) hM1 rfl 5 (by decide) (fun w h => (List.mem_cons_of_mem _ (List.mem_append_right _ h))) (List.mem_of_getElem? (i := 2) rfl) rfl rfl dX0_hasWatermark_8 ?_
    refine g_iload_n C 1 rfl dX0_hasWatermark_11 ?_
    refine g_iadd C (v := (M 5) + (nI cl)) dX0_hasWatermark_12 rfl ?_
    refine g_aload_n C 0 rfl dX0_hasWatermark_13 ?_
    refine g_getf C k (by omega) hM1 rfl 6 (by decide) (fun w h => (List.mem_cons_of_mem _ (List.mem_append_right _ h))) (List.mem_of_getElem? (i := 1) rfl) rfl rfl dX0_hasWatermark_14 ?_
    refine g_irem C (v := ((M 5) + (nI cl)) - ((M 5) + (nI cl)) / (M 4) * (M 4)) dX0_hasWatermark_17 (fun z => c4 (by rw [z]; decide)) rfl ?_
    refine g_if_ne C (tgt := 25) dX0_hasWatermark_18 (by decide) (fun c18 => ?_) (fun c18 => ?_)
    · -- 25
      refine g_iconst C (v := nI 0) dX0_hasWatermark_25 (by decide) ?_
      exact g_zret C rfl rfl dX0_hasWatermark_26 () rfl rfl rfl (by rw [s_wmi, if_neg (fun z => c18 z.2)] <;> rfl) (Nat.le_of_ble_eq_true rfl) (Nat.le_of_ble_eq_true rfl)
    · -- 21
      refine g_iconst C (v := nI 1) dX0_hasWatermark_21 (by decide) ?_
      refine g_goto C (tgt := 26) dX0_hasWatermark_22 (by decide) ?_
      exact g_zret C rfl rfl dX0_hasWatermark_26 () rfl rfl rfl (by rw [s_wmi, if_pos ⟨i_gt c4, c18⟩] <;> rfl) (Nat.le_of_ble_eq_true rfl) (Nat.le_of_ble_eq_true rfl)

set_option maxHeartbeats 4000000 in
set_option maxRecDepth 100000 in
theorem c_X0_brokenPins (l : Launch) (V : gT) {n : Nat} {ad : Nat → Nat} {el : Nat → va_E} {k : Nat} {M St We : Nat → Int32} (hk : k + 9 ≤ n) (h : MacAt V ad el k M St We) : TT l V yX0_brokenPins wsX0_brokenPins { frames := 1, cells := 0, slots := 0, locals := 20 } n ad el [.ref (ad k)] (QIr V n ad el (fun r => r = s_broken St We)) 0 0 := by
  refine TT.body (cc := cX0_brokenPins) (maxL := 3) (ret := (some .int)) (by decide) rfl (Nat.le_of_ble_eq_true rfl) ?_
  intro p e s m below meth c C hnm
  refine g_lv [0] (lv' := [(0, .ref (ad k))]) rfl ?_
  obtain ⟨hM1, ⟨g2, hA3, hg4⟩, hp5⟩ := id h
  refine g_iconst C (v := nI 0) dX0_brokenPins_0 (by decide) ?_
  refine g_istore_n C (lv' := [(1, .int (nI 0)), (0, .ref (ad k))]) dX0_brokenPins_1 (by decide) rfl ?_
  refine g_iconst C (v := nI 0) dX0_brokenPins_2 (by decide) ?_
  refine g_istore_n C (lv' := [(2, .int (nI 0)), (1, .int (nI 0)), (0, .ref (ad k))]) dX0_brokenPins_3 (by decide) rfl ?_
  refine g_lv [0, 1, 2] (lv' := [(2, .int (nI 0)), (1, .int (nI 0)), (0, .ref (ad k))]) rfl ?_
  refine g_for 7 (fun (i : Nat) => [(2, .int (nI i)), (1, .int (s_sum (fun i => if We i ≤ St i then 0 else 1) i)), (0, .ref (ad k))]) ?_ (fun i hi ih => ?_)
  · -- loop 4: its end
    refine g_iload_n C 0 rfl dX0_brokenPins_4 ?_
    refine g_bipush C (v := nI 7) dX0_brokenPins_5 (by decide) ?_
    refine g_icmp_ge C (tgt := 31) dX0_brokenPins_7 (by decide) (fun c7 => ?_) (fun c7 => ?_)
    rotate_left
    · exact absurd c7 (by decide)
    refine g_iload_n C 1 rfl dX0_brokenPins_31 ?_
    exact g_iret C rfl dX0_brokenPins_32 () rfl rfl rfl rfl (Nat.le_of_ble_eq_true rfl) (Nat.le_of_ble_eq_true rfl)
  · -- loop 4: its body
    refine g_iload_n C 0 rfl dX0_brokenPins_4 ?_
    refine g_bipush C (v := nI 7) dX0_brokenPins_5 (by decide) ?_
    refine g_icmp_ge C (tgt := 31) dX0_brokenPins_7 (by decide) (fun c7 => ?_) (fun c7 => ?_)
    · -- 31
      have c7 : 7 ≤ i := (nI_leI (by omega) (by omega)).mp c7
      exact absurd c7 (by omega)
    · -- 10
      have c7 : i < 7 := Nat.lt_of_not_le (fun z => c7 ((nI_leI (by omega) (by omega)).mpr z))
      refine g_aload_n C 2 rfl dX0_brokenPins_10 ?_
      refine g_getf C k (by omega) hM1 rfl 0 (by decide) (fun w h => (List.mem_cons_of_mem _ (List.mem_append_left _ (List.mem_append_right _ h)))) (List.mem_of_getElem? (i := 1) rfl) rfl rfl dX0_brokenPins_11 ?_
      refine g_iload_n C 0 rfl dX0_brokenPins_14 ?_
      refine g_aald C (k + 1) (by omega) 3 rfl hA3 i rfl (by omega) (by decide) (hg4 i (by omega)) dX0_brokenPins_15 ?_
      refine g_calli C (r_V C (st := []) (c_X1_isWhole l V (by omega) (hp5 i (by omega))) (cwV 0 C.ts gX0_brokenPins_X1_isWhole rfl rfl rfl (by decide +kernel) ⟨(Nat.le_of_ble_eq_true rfl), (Nat.le_of_ble_eq_true rfl)⟩) (by omega) (hp5 i (by omega)) rfl rfl rfl (Nat.le_of_ble_eq_true rfl) dX0_brokenPins_16 ⟨(Nat.le_of_ble_eq_true rfl), (Nat.le_of_ble_eq_true rfl)⟩) (fun r u hu => ?_)
      subst hu
      refine g_if_ne C (tgt := 25) dX0_brokenPins_19 (by decide) (fun c19 => ?_) (fun c19 => ?_)
      · -- 25
        refine g_iinc C 0 rfl (v := nI (i + 1)) (lv' := [(2, .int (nI (i + 1))), (1, .int (s_sum (fun i => if We i ≤ St i then 0 else 1) i)), (0, .ref (ad k))]) dX0_brokenPins_25 (nI_add _ _) (by decide) rfl ?_
        refine g_goto C (tgt := 4) dX0_brokenPins_28 (by decide) ?_
        refine g_lv [0, 1, 2] (lv' := [(2, .int (nI (i + 1))), (1, .int (s_sum (fun i => if We i ≤ St i then 0 else 1) i)), (0, .ref (ad k))]) rfl ?_
        have e9 : s_sum (fun i => if We i ≤ St i then 0 else 1) (i + 1) = s_sum (fun i => if We i ≤ St i then 0 else 1) i := s_sum_f (if_pos (Classical.byContradiction (fun z => c19 (if_neg z))))
        refine g_lveq (lv' := [(2, .int (nI (i + 1))), (1, .int (s_sum (fun i => if We i ≤ St i then 0 else 1) (i + 1))), (0, .ref (ad k))]) (by rw [e9]) ?_
        exact ih
      · -- 22
        refine g_iinc C 1 rfl (v := (s_sum (fun i => if We i ≤ St i then 0 else 1) i) + 1) (lv' := [(1, .int ((s_sum (fun i => if We i ≤ St i then 0 else 1) i) + 1)), (2, .int (nI i)), (0, .ref (ad k))]) dX0_brokenPins_22 rfl (by decide) rfl ?_
        refine g_iinc C 1 rfl (v := nI (i + 1)) (lv' := [(2, .int (nI (i + 1))), (1, .int ((s_sum (fun i => if We i ≤ St i then 0 else 1) i) + 1)), (0, .ref (ad k))]) dX0_brokenPins_25 (nI_add _ _) (by decide) rfl ?_
        refine g_goto C (tgt := 4) dX0_brokenPins_28 (by decide) ?_
        refine g_lv [0, 1, 2] (lv' := [(2, .int (nI (i + 1))), (1, .int ((s_sum (fun i => if We i ≤ St i then 0 else 1) i) + 1)), (0, .ref (ad k))]) rfl ?_
        have e9 : s_sum (fun i => if We i ≤ St i then 0 else 1) (i + 1) = s_sum (fun i => if We i ≤ St i then 0 else 1) i + 1 := s_sum_t (if_neg (fun z => by rw [if_pos z] at c19; exact absurd c19 (by decide)))
        refine g_lveq (lv' := [(2, .int (nI (i + 1))), (1, .int (s_sum (fun i => if We i ≤ St i then 0 else 1) (i + 1))), (0, .ref (ad k))]) (by rw [e9]) ?_
        exact ih

set_option maxHeartbeats 4000000 in
set_option maxRecDepth 100000 in
theorem c_X0_strikeAll (l : Launch) (V : gT) {n : Nat} {ad : Nat → Nat} {el : Nat → va_E} {k : Nat} {M St We : Nat → Int32} (hk : k + 9 ≤ n) (h : MacAt V ad el k M St We) : TT l V yX0_strikeAll wsX0_strikeAll { frames := 2, cells := 0, slots := 0, locals := 40 } n ad el [.ref (ad k)] (QVw V n ad (fun u => MacAt V ad u k M St (s_rowW St We) ∧ ∀ j, (j < k ∨ k + 9 ≤ j) → u j = el j)) 0 0 := by
  refine TT.body (cc := cX0_strikeAll) (maxL := 2) (ret := none) (by decide) rfl (Nat.le_of_ble_eq_true rfl) ?_
  intro p e s m below meth c C hnm
  refine g_lv [0] (lv' := [(0, .ref (ad k))]) rfl ?_
  obtain ⟨hM1, ⟨g2, hA3, hg4⟩, hp5⟩ := id h
  refine g_iconst C (v := nI 0) dX0_strikeAll_0 (by decide) ?_
  refine g_istore_n C (lv' := [(1, .int (nI 0)), (0, .ref (ad k))]) dX0_strikeAll_1 (by decide) rfl ?_
  refine g_lv [0, 1] (lv' := [(1, .int (nI 0)), (0, .ref (ad k))]) rfl ?_
  refine g_forE 7 (fun (i : Nat) => [(1, .int (nI i)), (0, .ref (ad k))]) (fun i el1 => (∀ q, q < i → el1 (k + 2 + q) = .inr (1, [.int (St q), .int (s_rowW St We q)])) ∧ (∀ q, i ≤ q → q < 7 → el1 (k + 2 + q) = .inr (1, [.int (St q), .int (We q)])) ∧ ∀ j, (j < k + 2 ∨ k + 9 ≤ j) → el1 j = el j) ⟨fun q hq => absurd hq (by omega), fun q _ hq => hp5 q hq, fun j _ => rfl⟩ (fun el1 h1 => ?_) (fun i el1 hi h1 ih => ?_)
  · -- loop 2: its end
    have m6 := (h1.2.2 (k) (by omega)).trans hM1
    have m7 := (h1.2.2 (k + 1) (by omega)).trans hA3
    refine g_iload_n C 0 rfl dX0_strikeAll_2 ?_
    refine g_bipush C (v := nI 7) dX0_strikeAll_3 (by decide) ?_
    refine g_icmp_ge C (tgt := 23) dX0_strikeAll_5 (by decide) (fun c5 => ?_) (fun c5 => ?_)
    rotate_left
    · exact absurd c5 (by decide)
    exact g_vret C rfl dX0_strikeAll_23 el1 rfl rfl rfl ⟨⟨m6, ⟨_, m7, hg4⟩, fun q hq => h1.1 q hq⟩, fun j hj => h1.2.2 j (by omega)⟩ (Nat.le_of_ble_eq_true rfl) (Nat.le_of_ble_eq_true rfl)
  · -- loop 2: its body
    have m8 := (h1.2.2 (k) (by omega)).trans hM1
    have m9 := (h1.2.2 (k + 1) (by omega)).trans hA3
    have hpi := h1.2.1 i (by omega) hi
    refine g_iload_n C 0 rfl dX0_strikeAll_2 ?_
    refine g_bipush C (v := nI 7) dX0_strikeAll_3 (by decide) ?_
    refine g_icmp_ge C (tgt := 23) dX0_strikeAll_5 (by decide) (fun c5 => ?_) (fun c5 => ?_)
    · -- 23
      have c5 : 7 ≤ i := (nI_leI (by omega) (by omega)).mp c5
      exact absurd c5 (by omega)
    · -- 8
      have c5 : i < 7 := Nat.lt_of_not_le (fun z => c5 ((nI_leI (by omega) (by omega)).mpr z))
      refine g_aload_n C 1 rfl dX0_strikeAll_8 ?_
      refine g_getf C k (by omega) m8 rfl 0 (by decide) (fun w h => (List.mem_cons_of_mem _ (List.mem_append_left _ (List.mem_append_right _ h)))) (List.mem_of_getElem? (i := 1) rfl) rfl rfl dX0_strikeAll_9 ?_
      refine g_iload_n C 0 rfl dX0_strikeAll_12 ?_
      refine g_aald C (k + 1) (by omega) 3 rfl m9 i rfl (by omega) (by decide) (hg4 i (by omega)) dX0_strikeAll_13 ?_
      refine g_callv C (r_V C (st := []) (c_X1_strike l V (by omega) hpi) (cwV 0 C.ts gX0_strikeAll_X1_strike rfl rfl rfl (by decide +kernel) ⟨(Nat.le_of_ble_eq_true rfl), (Nat.le_of_ble_eq_true rfl)⟩) (by omega) hpi rfl rfl rfl (Nat.le_of_ble_eq_true rfl) dX0_strikeAll_14 ⟨(Nat.le_of_ble_eq_true rfl), (Nat.le_of_ble_eq_true rfl)⟩) (fun u hu => ?_)
      refine g_iinc C 0 rfl (v := nI (i + 1)) (lv' := [(1, .int (nI (i + 1))), (0, .ref (ad k))]) dX0_strikeAll_17 (nI_add _ _) (by decide) rfl ?_
      refine g_goto C (tgt := 2) dX0_strikeAll_20 (by decide) ?_
      refine g_lv [0, 1] (lv' := [(1, .int (nI (i + 1))), (0, .ref (ad k))]) rfl ?_
      exact ih _ ⟨fun q hq => by
          by_cases e : q = i
          · subst e; exact hu.1
          · exact (hu.2 _ (by omega)).trans (h1.1 q (by omega)), fun q hq hq2 => (hu.2 _ (by omega)).trans (h1.2.1 q (by omega) hq2), fun j hj => (hu.2 j (by omega)).trans (h1.2.2 j hj)⟩
