/-! ===== the sheets of the class ===== -/
set_option maxHeartbeats 4000000 in
set_option maxRecDepth 100000 in
theorem c_X2_isLeftWith (l : Launch) (V : gT) {n : Nat} {ad : Nat → Nat} {el : Nat → va_E} {k : Nat} {f t : Nat → Int32} (hk : k + 2 < n) (h0 : el k = .inr (2, [.ref (ad (k + 1)), .ref (ad (k + 2))])) (h1 : el (k + 1) = .inl (V.2 0, 30, .inl f)) (h2 : el (k + 2) = .inl (V.2 1, 30, .inl t)) (i : Nat) (hi : i < 30) (x : Int32) : TT l V yX2_isLeftWith wsX2_isLeftWith { frames := 0, cells := 0, slots := 0, locals := 0 } n ad el [.ref (ad k), .int (nI i), .int x] (QIr V n ad el (fun r => r = s_lw (f i) (t i) x)) 0 0 := by
  refine TT.body (cc := cX2_isLeftWith) (maxL := 3) (ret := (some .boolean)) (by decide) rfl (Nat.le_of_ble_eq_true rfl) ?_
  intro p e s m below meth c C hnm
  refine g_lv [0, 1, 2] (lv' := [(0, .ref (ad k)), (1, .int (nI i)), (2, .int x)]) rfl ?_
  refine g_aload_n C 0 rfl dX2_isLeftWith_0 ?_
  refine g_getf C k (by omega) h0 rfl 1 (by decide) (fun w h => (List.mem_cons_of_mem _ (List.mem_append_right _ h))) (List.mem_of_getElem? (i := 1) rfl) rfl rfl dX2_isLeftWith_1 ?_
  refine g_iload_n C 1 rfl dX2_isLeftWith_4 ?_
  refine g_zald C (k + 2) (by omega) h2 i rfl (by omega) (by decide) dX2_isLeftWith_5 ?_
  refine g_if_ne C (tgt := 23) dX2_isLeftWith_6 (by decide) (fun c6 => ?_) (fun c6 => ?_)
  · -- 23
    refine g_iconst C (v := nI 0) dX2_isLeftWith_23 (by decide) ?_
    exact g_zret C rfl rfl dX2_isLeftWith_24 () rfl rfl rfl (by rw [s_lw, if_neg (fun z => c6 z.1)] <;> rfl) (Nat.le_of_ble_eq_true rfl) (Nat.le_of_ble_eq_true rfl)
  · -- 9
    refine g_aload_n C 0 rfl dX2_isLeftWith_9 ?_
    refine g_getf C k (by omega) h0 rfl 0 (by decide) (fun w h => (List.mem_cons_of_mem _ (List.mem_append_right _ h))) (List.mem_of_getElem? (i := 2) rfl) rfl rfl dX2_isLeftWith_10 ?_
    refine g_iload_n C 1 rfl dX2_isLeftWith_13 ?_
    refine g_iald C (k + 1) (by omega) h1 i rfl (by omega) (by decide) dX2_isLeftWith_14 ?_
    refine g_iload_n C 2 rfl dX2_isLeftWith_15 ?_
    refine g_icmp_ne C (tgt := 23) dX2_isLeftWith_16 (by decide) (fun c16 => ?_) (fun c16 => ?_)
    · -- 23
      refine g_iconst C (v := nI 0) dX2_isLeftWith_23 (by decide) ?_
      exact g_zret C rfl rfl dX2_isLeftWith_24 () rfl rfl rfl (by rw [s_lw, if_neg (fun z => c16 z.2)] <;> rfl) (Nat.le_of_ble_eq_true rfl) (Nat.le_of_ble_eq_true rfl)
    · -- 19
      refine g_iconst C (v := nI 1) dX2_isLeftWith_19 (by decide) ?_
      refine g_goto C (tgt := 24) dX2_isLeftWith_20 (by decide) ?_
      exact g_zret C rfl rfl dX2_isLeftWith_24 () rfl rfl rfl (by rw [s_lw, if_pos ⟨c6, c16⟩] <;> rfl) (Nat.le_of_ble_eq_true rfl) (Nat.le_of_ble_eq_true rfl)

set_option maxHeartbeats 4000000 in
set_option maxRecDepth 100000 in
theorem c_X2_left (l : Launch) (V : gT) {n : Nat} {ad : Nat → Nat} {el : Nat → va_E} {k : Nat} {f t : Nat → Int32} (hk : k + 2 < n) (h0 : el k = .inr (2, [.ref (ad (k + 1)), .ref (ad (k + 2))])) (h1 : el (k + 1) = .inl (V.2 0, 30, .inl f)) (h2 : el (k + 2) = .inl (V.2 1, 30, .inl t)) : TT l V yX2_left wsX2_left { frames := 0, cells := 0, slots := 0, locals := 0 } n ad el [.ref (ad k)] (QIr V n ad el (fun r => r = s_left t)) 0 0 := by
  refine TT.body (cc := cX2_left) (maxL := 3) (ret := (some .int)) (by decide) rfl (Nat.le_of_ble_eq_true rfl) ?_
  intro p e s m below meth c C hnm
  refine g_lv [0] (lv' := [(0, .ref (ad k))]) rfl ?_
  refine g_iconst C (v := nI 0) dX2_left_0 (by decide) ?_
  refine g_istore_n C (lv' := [(1, .int (nI 0)), (0, .ref (ad k))]) dX2_left_1 (by decide) rfl ?_
  refine g_iconst C (v := nI 0) dX2_left_2 (by decide) ?_
  refine g_istore_n C (lv' := [(2, .int (nI 0)), (1, .int (nI 0)), (0, .ref (ad k))]) dX2_left_3 (by decide) rfl ?_
  refine g_lv [0, 1, 2] (lv' := [(2, .int (nI 0)), (1, .int (nI 0)), (0, .ref (ad k))]) rfl ?_
  refine g_for 30 (fun (i : Nat) => [(2, .int (nI i)), (1, .int (s_sum (fun j => if t j = 0 then 1 else 0) i)), (0, .ref (ad k))]) ?_ (fun i hi ih => ?_)
  · -- loop 4: its end
    refine g_iload_n C 0 rfl dX2_left_4 ?_
    refine g_bipush C (v := nI 30) dX2_left_5 (by decide) ?_
    refine g_icmp_ge C (tgt := 28) dX2_left_7 (by decide) (fun c7 => ?_) (fun c7 => ?_)
    rotate_left
    · exact absurd c7 (by decide)
    refine g_iload_n C 1 rfl dX2_left_28 ?_
    exact g_iret C rfl dX2_left_29 () rfl rfl rfl rfl (Nat.le_of_ble_eq_true rfl) (Nat.le_of_ble_eq_true rfl)
  · -- loop 4: its body
    refine g_iload_n C 0 rfl dX2_left_4 ?_
    refine g_bipush C (v := nI 30) dX2_left_5 (by decide) ?_
    refine g_icmp_ge C (tgt := 28) dX2_left_7 (by decide) (fun c7 => ?_) (fun c7 => ?_)
    · -- 28
      have c7 : 30 ≤ i := (nI_leI (by omega) (by omega)).mp c7
      exact absurd c7 (by omega)
    · -- 10
      have c7 : i < 30 := Nat.lt_of_not_le (fun z => c7 ((nI_leI (by omega) (by omega)).mpr z))
      refine g_aload_n C 2 rfl dX2_left_10 ?_
      refine g_getf C k (by omega) h0 rfl 1 (by decide) (fun w h => (List.mem_cons_of_mem _ (List.mem_append_right _ h))) (List.mem_of_getElem? (i := 1) rfl) rfl rfl dX2_left_11 ?_
      refine g_iload_n C 0 rfl dX2_left_14 ?_
      refine g_zald C (k + 2) (by omega) h2 i rfl (by omega) (by decide) dX2_left_15 ?_
      refine g_if_ne C (tgt := 22) dX2_left_16 (by decide) (fun c16 => ?_) (fun c16 => ?_)
      · -- 22
        refine g_iinc C 0 rfl (v := nI (i + 1)) (lv' := [(2, .int (nI (i + 1))), (1, .int (s_sum (fun j => if t j = 0 then 1 else 0) i)), (0, .ref (ad k))]) dX2_left_22 (nI_add _ _) (by decide) rfl ?_
        refine g_goto C (tgt := 4) dX2_left_25 (by decide) ?_
        refine g_lv [0, 1, 2] (lv' := [(2, .int (nI (i + 1))), (1, .int (s_sum (fun j => if t j = 0 then 1 else 0) i)), (0, .ref (ad k))]) rfl ?_
        have e9 : s_sum (fun j => if t j = 0 then 1 else 0) (i + 1) = s_sum (fun j => if t j = 0 then 1 else 0) i := s_sum_f (if_neg c16)
        refine g_lveq (lv' := [(2, .int (nI (i + 1))), (1, .int (s_sum (fun j => if t j = 0 then 1 else 0) (i + 1))), (0, .ref (ad k))]) (by rw [e9]) ?_
        exact ih
      · -- 19
        refine g_iinc C 1 rfl (v := (s_sum (fun j => if t j = 0 then 1 else 0) i) + 1) (lv' := [(1, .int ((s_sum (fun j => if t j = 0 then 1 else 0) i) + 1)), (2, .int (nI i)), (0, .ref (ad k))]) dX2_left_19 rfl (by decide) rfl ?_
        refine g_iinc C 1 rfl (v := nI (i + 1)) (lv' := [(2, .int (nI (i + 1))), (1, .int ((s_sum (fun j => if t j = 0 then 1 else 0) i) + 1)), (0, .ref (ad k))]) dX2_left_22 (nI_add _ _) (by decide) rfl ?_
        refine g_goto C (tgt := 4) dX2_left_25 (by decide) ?_
        refine g_lv [0, 1, 2] (lv' := [(2, .int (nI (i + 1))), (1, .int ((s_sum (fun j => if t j = 0 then 1 else 0) i) + 1)), (0, .ref (ad k))]) rfl ?_
        have e9 : s_sum (fun j => if t j = 0 then 1 else 0) (i + 1) = s_sum (fun j => if t j = 0 then 1 else 0) i + 1 := s_sum_t (if_pos c16)
        refine g_lveq (lv' := [(2, .int (nI (i + 1))), (1, .int (s_sum (fun j => if t j = 0 then 1 else 0) (i + 1))), (0, .ref (ad k))]) (by rw [e9]) ?_
        exact ih

set_option maxHeartbeats 4000000 in
set_option maxRecDepth 100000 in
theorem c_X2_leftWith (l : Launch) (V : gT) {n : Nat} {ad : Nat → Nat} {el : Nat → va_E} {k : Nat} {f t : Nat → Int32} (hk : k + 2 < n) (h0 : el k = .inr (2, [.ref (ad (k + 1)), .ref (ad (k + 2))])) (h1 : el (k + 1) = .inl (V.2 0, 30, .inl f)) (h2 : el (k + 2) = .inl (V.2 1, 30, .inl t)) (x : Int32) : TT l V yX2_leftWith wsX2_leftWith { frames := 1, cells := 0, slots := 0, locals := 22 } n ad el [.ref (ad k), .int x] (QIr V n ad el (fun r => r = s_leftWith f t x)) 0 0 := by
  refine TT.body (cc := cX2_leftWith) (maxL := 4) (ret := (some .int)) (by decide) rfl (Nat.le_of_ble_eq_true rfl) ?_
  intro p e s m below meth c C hnm
  refine g_lv [0, 1] (lv' := [(0, .ref (ad k)), (1, .int x)]) rfl ?_
  refine g_iconst C (v := nI 0) dX2_leftWith_0 (by decide) ?_
  refine g_istore_n C (lv' := [(2, .int (nI 0)), (0, .ref (ad k)), (1, .int x)]) dX2_leftWith_1 (by decide) rfl ?_
  refine g_iconst C (v := nI 0) dX2_leftWith_2 (by decide) ?_
  refine g_istore_n C (lv' := [(3, .int (nI 0)), (2, .int (nI 0)), (0, .ref (ad k)), (1, .int x)]) dX2_leftWith_3 (by decide) rfl ?_
  refine g_lv [0, 1, 2, 3] (lv' := [(3, .int (nI 0)), (2, .int (nI 0)), (0, .ref (ad k)), (1, .int x)]) rfl ?_
  refine g_for 30 (fun (i : Nat) => [(3, .int (nI i)), (2, .int (s_sum (fun j => s_lw (f j) (t j) x) i)), (0, .ref (ad k)), (1, .int x)]) ?_ (fun i hi ih => ?_)
  · -- loop 4: its end
    refine g_iload_n C 0 rfl dX2_leftWith_4 ?_
    refine g_bipush C (v := nI 30) dX2_leftWith_5 (by decide) ?_
    refine g_icmp_ge C (tgt := 28) dX2_leftWith_7 (by decide) (fun c7 => ?_) (fun c7 => ?_)
    rotate_left
    · exact absurd c7 (by decide)
    refine g_iload_n C 1 rfl dX2_leftWith_28 ?_
    exact g_iret C rfl dX2_leftWith_29 () rfl rfl rfl rfl (Nat.le_of_ble_eq_true rfl) (Nat.le_of_ble_eq_true rfl)
  · -- loop 4: its body
    refine g_iload_n C 0 rfl dX2_leftWith_4 ?_
    refine g_bipush C (v := nI 30) dX2_leftWith_5 (by decide) ?_
    refine g_icmp_ge C (tgt := 28) dX2_leftWith_7 (by decide) (fun c7 => ?_) (fun c7 => ?_)
    · -- 28
      have c7 : 30 ≤ i := (nI_leI (by omega) (by omega)).mp c7
      exact absurd c7 (by omega)
    · -- 10
      have c7 : i < 30 := Nat.lt_of_not_le (fun z => c7 ((nI_leI (by omega) (by omega)).mpr z))
      refine g_aload_n C 2 rfl dX2_leftWith_10 ?_
      refine g_iload_n C 0 rfl dX2_leftWith_11 ?_
      refine g_iload_n C 3 rfl dX2_leftWith_12 ?_
      refine g_calli C (r_V C (st := []) (c_X2_isLeftWith l V (by omega) h0 h1 h2 i (by omega) x) (cwV 2 C.ts gX2_leftWith_X2_isLeftWith rfl rfl rfl (by decide +kernel) ⟨(Nat.le_of_ble_eq_true rfl), (Nat.le_of_ble_eq_true rfl)⟩) (by omega) h0 rfl rfl rfl (Nat.le_of_ble_eq_true rfl) dX2_leftWith_13 ⟨(Nat.le_of_ble_eq_true rfl), (Nat.le_of_ble_eq_true rfl)⟩) (fun r u hu => ?_)
      subst hu
      refine g_if_eq C (tgt := 22) dX2_leftWith_16 (by decide) (fun c16 => ?_) (fun c16 => ?_)
      · -- 22
        refine g_iinc C 0 rfl (v := nI (i + 1)) (lv' := [(3, .int (nI (i + 1))), (2, .int (s_sum (fun j => s_lw (f j) (t j) x) i)), (0, .ref (ad k)), (1, .int x)]) dX2_leftWith_22 (nI_add _ _) (by decide) rfl ?_
        refine g_goto C (tgt := 4) dX2_leftWith_25 (by decide) ?_
        refine g_lv [0, 1, 2, 3] (lv' := [(3, .int (nI (i + 1))), (2, .int (s_sum (fun j => s_lw (f j) (t j) x) i)), (0, .ref (ad k)), (1, .int x)]) rfl ?_
        have e9 : s_sum (fun j => s_lw (f j) (t j) x) (i + 1) = s_sum (fun j => s_lw (f j) (t j) x) i := s_sum_f c16
        refine g_lveq (lv' := [(3, .int (nI (i + 1))), (2, .int (s_sum (fun j => s_lw (f j) (t j) x) (i + 1))), (0, .ref (ad k)), (1, .int x)]) (by rw [e9]) ?_
        exact ih
      · -- 19
        refine g_iinc C 1 rfl (v := (s_sum (fun j => s_lw (f j) (t j) x) i) + 1) (lv' := [(2, .int ((s_sum (fun j => s_lw (f j) (t j) x) i) + 1)), (3, .int (nI i)), (0, .ref (ad k)), (1, .int x)]) dX2_leftWith_19 rfl (by decide) rfl ?_
        refine g_iinc C 1 rfl (v := nI (i + 1)) (lv' := [(3, .int (nI (i + 1))), (2, .int ((s_sum (fun j => s_lw (f j) (t j) x) i) + 1)), (0, .ref (ad k)), (1, .int x)]) dX2_leftWith_22 (nI_add _ _) (by decide) rfl ?_
        refine g_goto C (tgt := 4) dX2_leftWith_25 (by decide) ?_
        refine g_lv [0, 1, 2, 3] (lv' := [(3, .int (nI (i + 1))), (2, .int ((s_sum (fun j => s_lw (f j) (t j) x) i) + 1)), (0, .ref (ad k)), (1, .int x)]) rfl ?_
        have e9 : s_sum (fun j => s_lw (f j) (t j) x) (i + 1) = s_sum (fun j => s_lw (f j) (t j) x) i + 1 := s_sum_t (s_lw_t c16)
        refine g_lveq (lv' := [(3, .int (nI (i + 1))), (2, .int (s_sum (fun j => s_lw (f j) (t j) x) (i + 1))), (0, .ref (ad k)), (1, .int x)]) (by rw [e9]) ?_
        exact ih

set_option maxHeartbeats 4000000 in
set_option maxRecDepth 100000 in
theorem c_X2_worthOf (l : Launch) (V : gT) {n : Nat} {ad : Nat → Nat} {el : Nat → va_E} {k : Nat} {f t : Nat → Int32} (hk : k + 2 < n) (h0 : el k = .inr (2, [.ref (ad (k + 1)), .ref (ad (k + 2))])) (h1 : el (k + 1) = .inl (V.2 0, 30, .inl f)) (h2 : el (k + 2) = .inl (V.2 1, 30, .inl t)) (i : Nat) (hi : i < 30) : TT l V yX2_worthOf wsX2_worthOf { frames := 0, cells := 0, slots := 0, locals := 0 } n ad el [.ref (ad k), .int (nI i)] (QIr V n ad el (fun r => r = s_worth (f i) (t i))) 0 0 := by
  refine TT.body (cc := cX2_worthOf) (maxL := 4) (ret := (some .int)) (by decide) rfl (Nat.le_of_ble_eq_true rfl) ?_
  intro p e s m below meth c C hnm
  refine g_lv [0, 1] (lv' := [(0, .ref (ad k)), (1, .int (nI i))]) rfl ?_
  refine g_aload_n C 0 rfl dX2_worthOf_0 ?_
  refine g_getf C k (by omega) h0 rfl 0 (by decide) (fun w h => (List.mem_cons_of_mem _ (List.mem_append_right _ h))) (List.mem_of_getElem? (i := 1) rfl) rfl rfl dX2_worthOf_1 ?_
  refine g_iload_n C 1 rfl dX2_worthOf_4 ?_
  refine g_iald C (k + 1) (by omega) h1 i rfl (by omega) (by decide) dX2_worthOf_5 ?_
  refine g_istore_n C (lv' := [(2, .int (f i)), (0, .ref (ad k)), (1, .int (nI i))]) dX2_worthOf_6 (by decide) rfl ?_
  refine g_aload_n C 1 rfl dX2_worthOf_7 ?_
  refine g_getf C k (by omega) h0 rfl 1 (by decide) (fun w h => (List.mem_cons_of_mem _ (List.mem_append_right _ h))) (List.mem_of_getElem? (i := 2) rfl) rfl rfl dX2_worthOf_8 ?_
  refine g_iload_n C 2 rfl dX2_worthOf_11 ?_
  refine g_zald C (k + 2) (by omega) h2 i rfl (by omega) (by decide) dX2_worthOf_12 ?_
  refine g_if_ne C (tgt := 23) dX2_worthOf_13 (by decide) (fun c13 => ?_) (fun c13 => ?_)
  · -- 23
    refine g_iconst C (v := nI 0) dX2_worthOf_23 (by decide) ?_
    exact g_iret C rfl dX2_worthOf_24 () rfl rfl rfl (by rw [s_worth, if_neg (fun z => c13 z.1)] <;> rfl) (Nat.le_of_ble_eq_true rfl) (Nat.le_of_ble_eq_true rfl)
  · -- 16
    refine g_iload_n C 0 rfl dX2_worthOf_16 ?_
    refine g_bipush C (v := nI 7) dX2_worthOf_17 (by decide) ?_
    refine g_iand C (v := (f i) &&& 7) dX2_worthOf_19 rfl ?_
    refine g_if_eq C (tgt := 25) dX2_worthOf_20 (by decide) (fun c20 => ?_) (fun c20 => ?_)
    · -- 25
      refine g_iconst C (v := nI 1) dX2_worthOf_25 (by decide) ?_
      refine g_istore_n C (lv' := [(3, .int (nI 1)), (2, .int (f i)), (0, .ref (ad k)), (1, .int (nI i))]) dX2_worthOf_26 (by decide) rfl ?_
      refine g_iload_n C 1 rfl dX2_worthOf_27 ?_
      refine g_bipush C (v := nI 8) dX2_worthOf_28 (by decide) ?_
      refine g_iand C (v := (f i) &&& 8) dX2_worthOf_30 rfl ?_
      refine g_if_eq C (tgt := 37) dX2_worthOf_31 (by decide) (fun c31 => ?_) (fun c31 => ?_)
      · -- 37
        refine g_iload_n C 1 rfl dX2_worthOf_37 ?_
        refine g_bipush C (v := nI 16) dX2_worthOf_38 (by decide) ?_
        refine g_iand C (v := (f i) &&& 16) dX2_worthOf_40 rfl ?_
        refine g_if_eq C (tgt := 47) dX2_worthOf_41 (by decide) (fun c41 => ?_) (fun c41 => ?_)
        · -- 47
          refine g_iload_n C 0 rfl dX2_worthOf_47 ?_
          exact g_iret C rfl dX2_worthOf_48 () rfl rfl rfl (by rw [s_worth, if_pos ⟨c13, c20⟩, if_pos c31, if_pos c41] <;> rfl) (Nat.le_of_ble_eq_true rfl) (Nat.le_of_ble_eq_true rfl)
        · -- 44
          refine g_iinc C 0 rfl (v := nI (1 + 4)) (lv' := [(3, .int (nI (1 + 4))), (2, .int (f i)), (0, .ref (ad k)), (1, .int (nI i))]) dX2_worthOf_44 (nI_add _ _) (by decide) rfl ?_
          refine g_iload_n C 0 rfl dX2_worthOf_47 ?_
          exact g_iret C rfl dX2_worthOf_48 () rfl rfl rfl (by rw [s_worth, if_pos ⟨c13, c20⟩, if_pos c31, if_neg c41] <;> rfl) (Nat.le_of_ble_eq_true rfl) (Nat.le_of_ble_eq_true rfl)
      · -- 34
        refine g_iinc C 0 rfl (v := nI (1 + 20)) (lv' := [(3, .int (nI (1 + 20))), (2, .int (f i)), (0, .ref (ad k)), (1, .int (nI i))]) dX2_worthOf_34 (nI_add _ _) (by decide) rfl ?_
        refine g_iload_n C 1 rfl dX2_worthOf_37 ?_
        refine g_bipush C (v := nI 16) dX2_worthOf_38 (by decide) ?_
        refine g_iand C (v := (f i) &&& 16) dX2_worthOf_40 rfl ?_
        refine g_if_eq C (tgt := 47) dX2_worthOf_41 (by decide) (fun c41 => ?_) (fun c41 => ?_)
        · -- 47
          refine g_iload_n C 0 rfl dX2_worthOf_47 ?_
          exact g_iret C rfl dX2_worthOf_48 () rfl rfl rfl (by rw [s_worth, if_pos ⟨c13, c20⟩, if_neg c31, if_pos c41] <;> rfl) (Nat.le_of_ble_eq_true rfl) (Nat.le_of_ble_eq_true rfl)
        · -- 44
          refine g_iinc C 0 rfl (v := nI (1 + 20 + 4)) (lv' := [(3, .int (nI (1 + 20 + 4))), (2, .int (f i)), (0, .ref (ad k)), (1, .int (nI i))]) dX2_worthOf_44 (nI_add _ _) (by decide) rfl ?_
          refine g_iload_n C 0 rfl dX2_worthOf_47 ?_
          exact g_iret C rfl dX2_worthOf_48 () rfl rfl rfl (by rw [s_worth, if_pos ⟨c13, c20⟩, if_neg c31, if_neg c41] <;> rfl) (Nat.le_of_ble_eq_true rfl) (Nat.le_of_ble_eq_true rfl)
    · -- 23
      refine g_iconst C (v := nI 0) dX2_worthOf_23 (by decide) ?_
      exact g_iret C rfl dX2_worthOf_24 () rfl rfl rfl (by rw [s_worth, if_neg (fun z => c20 z.2)] <;> rfl) (Nat.le_of_ble_eq_true rfl) (Nat.le_of_ble_eq_true rfl)

set_option maxHeartbeats 4000000 in
set_option maxRecDepth 100000 in
theorem c_X2_worth (l : Launch) (V : gT) {n : Nat} {ad : Nat → Nat} {el : Nat → va_E} {k : Nat} {f t : Nat → Int32} (hk : k + 2 < n) (h0 : el k = .inr (2, [.ref (ad (k + 1)), .ref (ad (k + 2))])) (h1 : el (k + 1) = .inl (V.2 0, 30, .inl f)) (h2 : el (k + 2) = .inl (V.2 1, 30, .inl t)) : TT l V yX2_worth wsX2_worth { frames := 1, cells := 0, slots := 0, locals := 23 } n ad el [.ref (ad k)] (QIr V n ad el (fun r => r = s_worths f t)) 0 0 := by
  refine TT.body (cc := cX2_worth) (maxL := 3) (ret := (some .int)) (by decide) rfl (Nat.le_of_ble_eq_true rfl) ?_
  intro p e s m below meth c C hnm
  refine g_lv [0] (lv' := [(0, .ref (ad k))]) rfl ?_
  refine g_iconst C (v := nI 0) dX2_worth_0 (by decide) ?_
  refine g_istore_n C (lv' := [(1, .int (nI 0)), (0, .ref (ad k))]) dX2_worth_1 (by decide) rfl ?_
  refine g_iconst C (v := nI 0) dX2_worth_2 (by decide) ?_
  refine g_istore_n C (lv' := [(2, .int (nI 0)), (1, .int (nI 0)), (0, .ref (ad k))]) dX2_worth_3 (by decide) rfl ?_
  refine g_lv [0, 1, 2] (lv' := [(2, .int (nI 0)), (1, .int (nI 0)), (0, .ref (ad k))]) rfl ?_
  refine g_for 30 (fun (i : Nat) => [(2, .int (nI i)), (1, .int (s_sum (fun j => s_worth (f j) (t j)) i)), (0, .ref (ad k))]) ?_ (fun i hi ih => ?_)
  · -- loop 4: its end
    refine g_iload_n C 0 rfl dX2_worth_4 ?_
    refine g_bipush C (v := nI 30) dX2_worth_5 (by decide) ?_
    refine g_icmp_ge C (tgt := 24) dX2_worth_7 (by decide) (fun c7 => ?_) (fun c7 => ?_)
    rotate_left
    · exact absurd c7 (by decide)
    refine g_iload_n C 1 rfl dX2_worth_24 ?_
    exact g_iret C rfl dX2_worth_25 () rfl rfl rfl rfl (Nat.le_of_ble_eq_true rfl) (Nat.le_of_ble_eq_true rfl)
  · -- loop 4: its body
    refine g_iload_n C 0 rfl dX2_worth_4 ?_
    refine g_bipush C (v := nI 30) dX2_worth_5 (by decide) ?_
    refine g_icmp_ge C (tgt := 24) dX2_worth_7 (by decide) (fun c7 => ?_) (fun c7 => ?_)
    · -- 24
      have c7 : 30 ≤ i := (nI_leI (by omega) (by omega)).mp c7
      exact absurd c7 (by omega)
    · -- 10
      have c7 : i < 30 := Nat.lt_of_not_le (fun z => c7 ((nI_leI (by omega) (by omega)).mpr z))
      refine g_iload_n C 1 rfl dX2_worth_10 ?_
      refine g_aload_n C 2 rfl dX2_worth_11 ?_
      refine g_iload_n C 0 rfl dX2_worth_12 ?_
      refine g_calli C (r_V C (st := [.int (s_sum (fun j => s_worth (f j) (t j)) i)]) (c_X2_worthOf l V (by omega) h0 h1 h2 i (by omega)) (cwV 1 C.ts gX2_worth_X2_worthOf rfl rfl rfl (by decide +kernel) ⟨(Nat.le_of_ble_eq_true rfl), (Nat.le_of_ble_eq_true rfl)⟩) (by omega) h0 rfl rfl rfl (Nat.le_of_ble_eq_true rfl) dX2_worth_13 ⟨(Nat.le_of_ble_eq_true rfl), (Nat.le_of_ble_eq_true rfl)⟩) (fun r u hu => ?_)
      subst hu
      refine g_iadd C (v := (s_sum (fun j => s_worth (f j) (t j)) i) + (s_worth (f i) (t i))) dX2_worth_16 rfl ?_
      refine g_istore_n C (lv' := [(1, .int ((s_sum (fun j => s_worth (f j) (t j)) i) + (s_worth (f i) (t i)))), (2, .int (nI i)), (0, .ref (ad k))]) dX2_worth_17 (by decide) rfl ?_
      refine g_iinc C 1 rfl (v := nI (i + 1)) (lv' := [(2, .int (nI (i + 1))), (1, .int ((s_sum (fun j => s_worth (f j) (t j)) i) + (s_worth (f i) (t i)))), (0, .ref (ad k))]) dX2_worth_18 (nI_add _ _) (by decide) rfl ?_
      refine g_goto C (tgt := 4) dX2_worth_21 (by decide) ?_
      refine g_lv [0, 1, 2] (lv' := [(2, .int (nI (i + 1))), (1, .int ((s_sum (fun j => s_worth (f j) (t j)) i) + (s_worth (f i) (t i)))), (0, .ref (ad k))]) rfl ?_
      exact ih

set_option maxHeartbeats 4000000 in
set_option maxRecDepth 100000 in
theorem c_X2_isInvertedPair (l : Launch) (V : gT) {n : Nat} {ad : Nat → Nat} {el : Nat → va_E} {k : Nat} {f t : Nat → Int32} (hk : k + 2 < n) (h0 : el k = .inr (2, [.ref (ad (k + 1)), .ref (ad (k + 2))])) (h1 : el (k + 1) = .inl (V.2 0, 30, .inl f)) (h2 : el (k + 2) = .inl (V.2 1, 30, .inl t)) (i : Nat) (hi : i + 1 < 30) : TT l V yX2_isInvertedPair wsX2_isInvertedPair { frames := 0, cells := 0, slots := 0, locals := 0 } n ad el [.ref (ad k), .int (nI i)] (QIr V n ad el (fun r => r = s_pr (f i) (t i) (f (i + 1)) (t (i + 1)))) 0 0 := by
  refine TT.body (cc := cX2_isInvertedPair) (maxL := 3) (ret := (some .boolean)) (by decide) rfl (Nat.le_of_ble_eq_true rfl) ?_
  intro p e s m below meth c C hnm
  refine g_lv [0, 1] (lv' := [(0, .ref (ad k)), (1, .int (nI i))]) rfl ?_
  refine g_iload_n C 1 rfl dX2_isInvertedPair_0 ?_
  refine g_iconst C (v := nI 1) dX2_isInvertedPair_1 (by decide) ?_
  refine g_iadd C (v := nI (i + 1)) dX2_isInvertedPair_2 (nI_add _ _) ?_
  refine g_istore_n C (lv' := [(2, .int (nI (i + 1))), (0, .ref (ad k)), (1, .int (nI i))]) dX2_isInvertedPair_3 (by decide) rfl ?_
  refine g_aload_n C 1 rfl dX2_isInvertedPair_4 ?_
  refine g_getf C k (by omega) h0 rfl 1 (by decide) (fun w h => (List.mem_cons_of_mem _ (List.mem_append_right _ h))) (List.mem_of_getElem? (i := 1) rfl) rfl rfl dX2_isInvertedPair_5 ?_
  refine g_iload_n C 2 rfl dX2_isInvertedPair_8 ?_
  refine g_zald C (k + 2) (by omega) h2 i rfl (by omega) (by decide) dX2_isInvertedPair_9 ?_
  refine g_if_ne C (tgt := 45) dX2_isInvertedPair_10 (by decide) (fun c10 => ?_) (fun c10 => ?_)
  · -- 45
    refine g_iconst C (v := nI 0) dX2_isInvertedPair_45 (by decide) ?_
    exact g_zret C rfl rfl dX2_isInvertedPair_46 () rfl rfl rfl (by rw [s_pr, if_neg (fun z => c10 z.1)] <;> rfl) (Nat.le_of_ble_eq_true rfl) (Nat.le_of_ble_eq_true rfl)
  · -- 13
    refine g_aload_n C 1 rfl dX2_isInvertedPair_13 ?_
    refine g_getf C k (by omega) h0 rfl 1 (by decide) (fun w h => (List.mem_cons_of_mem _ (List.mem_append_right _ h))) (List.mem_of_getElem? (i := 1) rfl) rfl rfl dX2_isInvertedPair_14 ?_
    refine g_iload_n C 0 rfl dX2_isInvertedPair_17 ?_
    refine g_zald C (k + 2) (by omega) h2 (i + 1) rfl (by omega) (by decide) dX2_isInvertedPair_18 ?_
    refine g_if_ne C (tgt := 45) dX2_isInvertedPair_19 (by decide) (fun c19 => ?_) (fun c19 => ?_)
    · -- 45
      refine g_iconst C (v := nI 0) dX2_isInvertedPair_45 (by decide) ?_
      exact g_zret C rfl rfl dX2_isInvertedPair_46 () rfl rfl rfl (by rw [s_pr, if_neg (fun z => c19 z.2.1)] <;> rfl) (Nat.le_of_ble_eq_true rfl) (Nat.le_of_ble_eq_true rfl)
    · -- 22
      refine g_aload_n C 1 rfl dX2_isInvertedPair_22 ?_
      refine g_getf C k (by omega) h0 rfl 0 (by decide) (fun w h => (List.mem_cons_of_mem _ (List.mem_append_right _ h))) (List.mem_of_getElem? (i := 2) rfl) rfl rfl dX2_isInvertedPair_23 ?_
      refine g_iload_n C 2 rfl dX2_isInvertedPair_26 ?_
      refine g_iald C (k + 1) (by omega) h1 i rfl (by omega) (by decide) dX2_isInvertedPair_27 ?_
      refine g_aload_n C 1 rfl dX2_isInvertedPair_28 ?_
      refine g_getf C k (by omega) h0 rfl 0 (by decide) (fun w h => (List.mem_cons_of_mem _ (List.mem_append_right _ h))) (List.mem_of_getElem? (i := 2) rfl) rfl rfl dX2_isInvertedPair_29 ?_
      refine g_iload_n C 0 rfl dX2_isInvertedPair_32 ?_
      refine g_iald C (k + 1) (by omega) h1 (i + 1) rfl (by omega) (by decide) dX2_isInvertedPair_33 ?_
      refine g_ixor C (v := (f i) ^^^ (f (i + 1))) dX2_isInvertedPair_34 rfl ?_
      refine g_bipush C (v := nI 8) dX2_isInvertedPair_35 (by decide) ?_
      refine g_iand C (v := ((f i) ^^^ (f (i + 1))) &&& 8) dX2_isInvertedPair_37 rfl ?_
      refine g_if_eq C (tgt := 45) dX2_isInvertedPair_38 (by decide) (fun c38 => ?_) (fun c38 => ?_)
      · -- 45
        refine g_iconst C (v := nI 0) dX2_isInvertedPair_45 (by decide) ?_
        exact g_zret C rfl rfl dX2_isInvertedPair_46 () rfl rfl rfl (by rw [s_pr, if_neg (fun z => z.2.2 c38)] <;> rfl) (Nat.le_of_ble_eq_true rfl) (Nat.le_of_ble_eq_true rfl)
      · -- 41
        refine g_iconst C (v := nI 1) dX2_isInvertedPair_41 (by decide) ?_
        refine g_goto C (tgt := 46) dX2_isInvertedPair_42 (by decide) ?_
        exact g_zret C rfl rfl dX2_isInvertedPair_46 () rfl rfl rfl (by rw [s_pr, if_pos ⟨c10, c19, c38⟩] <;> rfl) (Nat.le_of_ble_eq_true rfl) (Nat.le_of_ble_eq_true rfl)

set_option maxHeartbeats 4000000 in
set_option maxRecDepth 100000 in
theorem c_X2_invertedPairs (l : Launch) (V : gT) {n : Nat} {ad : Nat → Nat} {el : Nat → va_E} {k : Nat} {f t : Nat → Int32} (hk : k + 2 < n) (h0 : el k = .inr (2, [.ref (ad (k + 1)), .ref (ad (k + 2))])) (h1 : el (k + 1) = .inl (V.2 0, 30, .inl f)) (h2 : el (k + 2) = .inl (V.2 1, 30, .inl t)) : TT l V yX2_invertedPairs wsX2_invertedPairs { frames := 1, cells := 0, slots := 0, locals := 22 } n ad el [.ref (ad k)] (QIr V n ad el (fun r => r = s_pairs f t)) 0 0 := by
  refine TT.body (cc := cX2_invertedPairs) (maxL := 4) (ret := (some .int)) (by decide) rfl (Nat.le_of_ble_eq_true rfl) ?_
  intro p e s m below meth c C hnm
  refine g_lv [0] (lv' := [(0, .ref (ad k))]) rfl ?_
  refine g_iconst C (v := nI 0) dX2_invertedPairs_0 (by decide) ?_
  refine g_istore_n C (lv' := [(1, .int (nI 0)), (0, .ref (ad k))]) dX2_invertedPairs_1 (by decide) rfl ?_
  refine g_iconst C (v := nI 0) dX2_invertedPairs_2 (by decide) ?_
  refine g_istore_n C (lv' := [(2, .int (nI 0)), (1, .int (nI 0)), (0, .ref (ad k))]) dX2_invertedPairs_3 (by decide) rfl ?_
  refine g_lv [0, 1, 2] (lv' := [(2, .int (nI 0)), (1, .int (nI 0)), (0, .ref (ad k))]) rfl ?_
  refine g_for 5 (fun (i : Nat) => [(2, .int (nI i)), (1, .int (s_prs f t i)), (0, .ref (ad k))]) ?_ (fun i hi ih => ?_)
  · -- loop 4: its end
    refine g_iload_n C 0 rfl dX2_invertedPairs_4 ?_
    refine g_iconst C (v := nI 5) dX2_invertedPairs_5 (by decide) ?_
    refine g_icmp_ge C (tgt := 44) dX2_invertedPairs_6 (by decide) (fun c6 => ?_) (fun c6 => ?_)
    rotate_left
    · exact absurd c6 (by decide)
    refine g_iload_n C 1 rfl dX2_invertedPairs_44 ?_
    exact g_iret C rfl dX2_invertedPairs_45 () rfl rfl rfl rfl (Nat.le_of_ble_eq_true rfl) (Nat.le_of_ble_eq_true rfl)
  · -- loop 4: its body
    refine g_iload_n C 0 rfl dX2_invertedPairs_4 ?_
    refine g_iconst C (v := nI 5) dX2_invertedPairs_5 (by decide) ?_
    refine g_icmp_ge C (tgt := 44) dX2_invertedPairs_6 (by decide) (fun c6 => ?_) (fun c6 => ?_)
    · -- 44
      have c6 : 5 ≤ i := (nI_leI (by omega) (by omega)).mp c6
      exact absurd c6 (by omega)
    · -- 9
      have c6 : i < 5 := Nat.lt_of_not_le (fun z => c6 ((nI_leI (by omega) (by omega)).mpr z))
      refine g_iconst C (v := nI 0) dX2_invertedPairs_9 (by decide) ?_
      refine g_istore_n C (lv' := [(3, .int (nI 0)), (2, .int (nI i)), (1, .int (s_prs f t i)), (0, .ref (ad k))]) dX2_invertedPairs_10 (by decide) rfl ?_
      refine g_lv [0, 1, 2, 3] (lv' := [(3, .int (nI 0)), (2, .int (nI i)), (1, .int (s_prs f t i)), (0, .ref (ad k))]) rfl ?_
      refine g_for 5 (fun (j : Nat) => [(3, .int (nI j)), (2, .int (nI i)), (1, .int (s_acc (fun c => s_pr (f (6 * i + c)) (t (6 * i + c)) (f (6 * i + c + 1)) (t (6 * i + c + 1))) (s_prs f t i) j)), (0, .ref (ad k))]) ?_ (fun j hj jh => ?_)
      · -- loop 11: its end
        refine g_iload_n C 0 rfl dX2_invertedPairs_11 ?_
        refine g_iconst C (v := nI 5) dX2_invertedPairs_12 (by decide) ?_
        refine g_icmp_ge C (tgt := 38) dX2_invertedPairs_13 (by decide) (fun c13 => ?_) (fun c13 => ?_)
        rotate_left
        · exact absurd c13 (by decide)
        refine g_iinc C 1 rfl (v := nI (i + 1)) (lv' := [(2, .int (nI (i + 1))), (3, .int (nI 5)), (1, .int (s_acc (fun c => s_pr (f (6 * i + c)) (t (6 * i + c)) (f (6 * i + c + 1)) (t (6 * i + c + 1))) (s_prs f t i) 5)), (0, .ref (ad k))]) dX2_invertedPairs_38 (nI_add _ _) (by decide) rfl ?_
        refine g_goto C (tgt := 4) dX2_invertedPairs_41 (by decide) ?_
        refine g_lv [0, 2, 3] (lv' := [(2, .int (nI (i + 1))), (1, .int (s_acc (fun c => s_pr (f (6 * i + c)) (t (6 * i + c)) (f (6 * i + c + 1)) (t (6 * i + c + 1))) (s_prs f t i) 5)), (0, .ref (ad k))]) rfl ?_
        exact ih
      · -- loop 11: its body
        refine g_iload_n C 0 rfl dX2_invertedPairs_11 ?_
        refine g_iconst C (v := nI 5) dX2_invertedPairs_12 (by decide) ?_
        refine g_icmp_ge C (tgt := 38) dX2_invertedPairs_13 (by decide) (fun c13 => ?_) (fun c13 => ?_)
        · -- 38
          have c13 : 5 ≤ j := (nI_leI (by omega) (by omega)).mp c13
          exact absurd c13 (by omega)
        · -- 16
          have c13 : j < 5 := Nat.lt_of_not_le (fun z => c13 ((nI_leI (by omega) (by omega)).mpr z))
          refine g_aload_n C 3 rfl dX2_invertedPairs_16 ?_
          refine g_bipush C (v := nI 6) dX2_invertedPairs_17 (by decide) ?_
          refine g_iload_n C 1 rfl dX2_invertedPairs_19 ?_
          refine g_imul C (v := nI (6 * i)) dX2_invertedPairs_20 (pk_mul _ _) ?_
          refine g_iload_n C 0 rfl dX2_invertedPairs_21 ?_
          refine g_iadd C (v := nI ((6 * i) + j)) dX2_invertedPairs_22 (nI_add _ _) ?_
          refine g_calli C (r_V C (st := []) (c_X2_isInvertedPair l V (by omega) h0 h1 h2 ((6 * i) + j) (by omega)) (cwV 1 C.ts gX2_invertedPairs_X2_isInvertedPair rfl rfl rfl (by decide +kernel) ⟨(Nat.le_of_ble_eq_true rfl), (Nat.le_of_ble_eq_true rfl)⟩) (by omega) h0 rfl rfl rfl (Nat.le_of_ble_eq_true rfl) dX2_invertedPairs_23 ⟨(Nat.le_of_ble_eq_true rfl), (Nat.le_of_ble_eq_true rfl)⟩) (fun r u hu => ?_)
          subst hu
          refine g_if_eq C (tgt := 32) dX2_invertedPairs_26 (by decide) (fun c26 => ?_) (fun c26 => ?_)
          · -- 32
            refine g_iinc C 0 rfl (v := nI (j + 1)) (lv' := [(3, .int (nI (j + 1))), (2, .int (nI i)), (1, .int (s_acc (fun c => s_pr (f (6 * i + c)) (t (6 * i + c)) (f (6 * i + c + 1)) (t (6 * i + c + 1))) (s_prs f t i) j)), (0, .ref (ad k))]) dX2_invertedPairs_32 (nI_add _ _) (by decide) rfl ?_
            refine g_goto C (tgt := 11) dX2_invertedPairs_35 (by decide) ?_
            refine g_lv [0, 1, 2, 3] (lv' := [(3, .int (nI (j + 1))), (2, .int (nI i)), (1, .int (s_acc (fun c => s_pr (f (6 * i + c)) (t (6 * i + c)) (f (6 * i + c + 1)) (t (6 * i + c + 1))) (s_prs f t i) j)), (0, .ref (ad k))]) rfl ?_
            have e9 : s_acc (fun c => s_pr (f (6 * i + c)) (t (6 * i + c)) (f (6 * i + c + 1)) (t (6 * i + c + 1))) (s_prs f t i) (j + 1) = s_acc (fun c => s_pr (f (6 * i + c)) (t (6 * i + c)) (f (6 * i + c + 1)) (t (6 * i + c + 1))) (s_prs f t i) j := s_acc_f c26
            refine g_lveq (lv' := [(3, .int (nI (j + 1))), (2, .int (nI i)), (1, .int (s_acc (fun c => s_pr (f (6 * i + c)) (t (6 * i + c)) (f (6 * i + c + 1)) (t (6 * i + c + 1))) (s_prs f t i) (j + 1))), (0, .ref (ad k))]) (by rw [e9]) ?_
            exact jh
          · -- 29
            refine g_iinc C 2 rfl (v := (s_acc (fun c => s_pr (f (6 * i + c)) (t (6 * i + c)) (f (6 * i + c + 1)) (t (6 * i + c + 1))) (s_prs f t i) j) + 1) (lv' := [(1, .int ((s_acc (fun c => s_pr (f (6 * i + c)) (t (6 * i + c)) (f (6 * i + c + 1)) (t (6 * i + c + 1))) (s_prs f t i) j) + 1)), (3, .int (nI j)), (2, .int (nI i)), (0, .ref (ad k))]) dX2_invertedPairs_29 rfl (by decide) rfl ?_
            refine g_iinc C 1 rfl (v := nI (j + 1)) (lv' := [(3, .int (nI (j + 1))), (1, .int ((s_acc (fun c => s_pr (f (6 * i + c)) (t (6 * i + c)) (f (6 * i + c + 1)) (t (6 * i + c + 1))) (s_prs f t i) j) + 1)), (2, .int (nI i)), (0, .ref (ad k))]) dX2_invertedPairs_32 (nI_add _ _) (by decide) rfl ?_
            refine g_goto C (tgt := 11) dX2_invertedPairs_35 (by decide) ?_
            refine g_lv [0, 2, 1, 3] (lv' := [(3, .int (nI (j + 1))), (2, .int (nI i)), (1, .int ((s_acc (fun c => s_pr (f (6 * i + c)) (t (6 * i + c)) (f (6 * i + c + 1)) (t (6 * i + c + 1))) (s_prs f t i) j) + 1)), (0, .ref (ad k))]) rfl ?_
            have e9 : s_acc (fun c => s_pr (f (6 * i + c)) (t (6 * i + c)) (f (6 * i + c + 1)) (t (6 * i + c + 1))) (s_prs f t i) (j + 1) = s_acc (fun c => s_pr (f (6 * i + c)) (t (6 * i + c)) (f (6 * i + c + 1)) (t (6 * i + c + 1))) (s_prs f t i) j + 1 := s_acc_t (s_pr_t c26)
            refine g_lveq (lv' := [(3, .int (nI (j + 1))), (2, .int (nI i)), (1, .int (s_acc (fun c => s_pr (f (6 * i + c)) (t (6 * i + c)) (f (6 * i + c + 1)) (t (6 * i + c + 1))) (s_prs f t i) (j + 1))), (0, .ref (ad k))]) (by rw [e9]) ?_
            exact jh

set_option maxHeartbeats 4000000 in
set_option maxRecDepth 100000 in
theorem c_X2_rowsOff (l : Launch) (V : gT) {n : Nat} {ad : Nat → Nat} {el : Nat → va_E} {k : Nat} {f t : Nat → Int32} (hk : k + 2 < n) (h0 : el k = .inr (2, [.ref (ad (k + 1)), .ref (ad (k + 2))])) (h1 : el (k + 1) = .inl (V.2 0, 30, .inl f)) (h2 : el (k + 2) = .inl (V.2 1, 30, .inl t)) : TT l V yX2_rowsOff wsX2_rowsOff { frames := 0, cells := 0, slots := 0, locals := 0 } n ad el [.ref (ad k)] (QIr V n ad el (fun r => r = s_off f)) 0 0 := by
  refine TT.body (cc := cX2_rowsOff) (maxL := 3) (ret := (some .int)) (by decide) rfl (Nat.le_of_ble_eq_true rfl) ?_
  intro p e s m below meth c C hnm
  refine g_lv [0] (lv' := [(0, .ref (ad k))]) rfl ?_
  refine g_iconst C (v := nI 0) dX2_rowsOff_0 (by decide) ?_
  refine g_istore_n C (lv' := [(1, .int (nI 0)), (0, .ref (ad k))]) dX2_rowsOff_1 (by decide) rfl ?_
  refine g_iconst C (v := nI 0) dX2_rowsOff_2 (by decide) ?_
  refine g_istore_n C (lv' := [(2, .int (nI 0)), (1, .int (nI 0)), (0, .ref (ad k))]) dX2_rowsOff_3 (by decide) rfl ?_
  refine g_lv [0, 1, 2] (lv' := [(2, .int (nI 0)), (1, .int (nI 0)), (0, .ref (ad k))]) rfl ?_
  refine g_for 5 (fun (i : Nat) => [(2, .int (nI i)), (1, .int (s_sum (fun r => if f (6 * r) &&& 1 = 0 then 0 else 1) i)), (0, .ref (ad k))]) ?_ (fun i hi ih => ?_)
  · -- loop 4: its end
    refine g_iload_n C 0 rfl dX2_rowsOff_4 ?_
    refine g_iconst C (v := nI 5) dX2_rowsOff_5 (by decide) ?_
    refine g_icmp_ge C (tgt := 32) dX2_rowsOff_6 (by decide) (fun c6 => ?_) (fun c6 => ?_)
    rotate_left
    · exact absurd c6 (by decide)
    refine g_iload_n C 1 rfl dX2_rowsOff_32 ?_
    exact g_iret C rfl dX2_rowsOff_33 () rfl rfl rfl rfl (Nat.le_of_ble_eq_true rfl) (Nat.le_of_ble_eq_true rfl)
  · -- loop 4: its body
    refine g_iload_n C 0 rfl dX2_rowsOff_4 ?_
    refine g_iconst C (v := nI 5) dX2_rowsOff_5 (by decide) ?_
    refine g_icmp_ge C (tgt := 32) dX2_rowsOff_6 (by decide) (fun c6 => ?_) (fun c6 => ?_)
    · -- 32
      have c6 : 5 ≤ i := (nI_leI (by omega) (by omega)).mp c6
      exact absurd c6 (by omega)
    · -- 9
      have c6 : i < 5 := Nat.lt_of_not_le (fun z => c6 ((nI_leI (by omega) (by omega)).mpr z))
      refine g_aload_n C 2 rfl dX2_rowsOff_9 ?_
      refine g_getf C k (by omega) h0 rfl 0 (by decide) (fun w h => (List.mem_cons_of_mem _ (List.mem_append_right _ h))) (List.mem_of_getElem? (i := 1) rfl) rfl rfl dX2_rowsOff_10 ?_
      refine g_bipush C (v := nI 6) dX2_rowsOff_13 (by decide) ?_
      refine g_iload_n C 0 rfl dX2_rowsOff_15 ?_
      refine g_imul C (v := nI (6 * i)) dX2_rowsOff_16 (pk_mul _ _) ?_
      refine g_iald C (k + 1) (by omega) h1 (6 * i) rfl (by omega) (by decide) dX2_rowsOff_17 ?_
      refine g_iconst C (v := nI 1) dX2_rowsOff_18 (by decide) ?_
      refine g_iand C (v := (f (6 * i)) &&& 1) dX2_rowsOff_19 rfl ?_
      refine g_if_eq C (tgt := 26) dX2_rowsOff_20 (by decide) (fun c20 => ?_) (fun c20 => ?_)
      · -- 26
        refine g_iinc C 0 rfl (v := nI (i + 1)) (lv' := [(2, .int (nI (i + 1))), (1, .int (s_sum (fun r => if f (6 * r) &&& 1 = 0 then 0 else 1) i)), (0, .ref (ad k))]) dX2_rowsOff_26 (nI_add _ _) (by decide) rfl ?_
        refine g_goto C (tgt := 4) dX2_rowsOff_29 (by decide) ?_
        refine g_lv [0, 1, 2] (lv' := [(2, .int (nI (i + 1))), (1, .int (s_sum (fun r => if f (6 * r) &&& 1 = 0 then 0 else 1) i)), (0, .ref (ad k))]) rfl ?_
        have e9 : s_sum (fun r => if f (6 * r) &&& 1 = 0 then 0 else 1) (i + 1) = s_sum (fun r => if f (6 * r) &&& 1 = 0 then 0 else 1) i := s_sum_f (if_pos c20)
        refine g_lveq (lv' := [(2, .int (nI (i + 1))), (1, .int (s_sum (fun r => if f (6 * r) &&& 1 = 0 then 0 else 1) (i + 1))), (0, .ref (ad k))]) (by rw [e9]) ?_
        exact ih
      · -- 23
        refine g_iinc C 1 rfl (v := (s_sum (fun r => if f (6 * r) &&& 1 = 0 then 0 else 1) i) + 1) (lv' := [(1, .int ((s_sum (fun r => if f (6 * r) &&& 1 = 0 then 0 else 1) i) + 1)), (2, .int (nI i)), (0, .ref (ad k))]) dX2_rowsOff_23 rfl (by decide) rfl ?_
        refine g_iinc C 1 rfl (v := nI (i + 1)) (lv' := [(2, .int (nI (i + 1))), (1, .int ((s_sum (fun r => if f (6 * r) &&& 1 = 0 then 0 else 1) i) + 1)), (0, .ref (ad k))]) dX2_rowsOff_26 (nI_add _ _) (by decide) rfl ?_
        refine g_goto C (tgt := 4) dX2_rowsOff_29 (by decide) ?_
        refine g_lv [0, 1, 2] (lv' := [(2, .int (nI (i + 1))), (1, .int ((s_sum (fun r => if f (6 * r) &&& 1 = 0 then 0 else 1) i) + 1)), (0, .ref (ad k))]) rfl ?_
        have e9 : s_sum (fun r => if f (6 * r) &&& 1 = 0 then 0 else 1) (i + 1) = s_sum (fun r => if f (6 * r) &&& 1 = 0 then 0 else 1) i + 1 := s_sum_t (if_neg c20)
        refine g_lveq (lv' := [(2, .int (nI (i + 1))), (1, .int (s_sum (fun r => if f (6 * r) &&& 1 = 0 then 0 else 1) (i + 1))), (0, .ref (ad k))]) (by rw [e9]) ?_
        exact ih

set_option maxHeartbeats 4000000 in
set_option maxRecDepth 100000 in
theorem c_X2_goodColumns (l : Launch) (V : gT) {n : Nat} {ad : Nat → Nat} {el : Nat → va_E} {k : Nat} {f t : Nat → Int32} (hk : k + 2 < n) (h0 : el k = .inr (2, [.ref (ad (k + 1)), .ref (ad (k + 2))])) (h1 : el (k + 1) = .inl (V.2 0, 30, .inl f)) (h2 : el (k + 2) = .inl (V.2 1, 30, .inl t)) (r : Nat) (hr : r < 5) : TT l V yX2_goodColumns wsX2_goodColumns { frames := 1, cells := 0, slots := 0, locals := 22 } n ad el [.ref (ad k), .int (nI r)] (QIr V n ad el (fun z => z = s_good f t r 6)) 0 0 := by
  refine TT.body (cc := cX2_goodColumns) (maxL := 4) (ret := (some .int)) (by decide) rfl (Nat.le_of_ble_eq_true rfl) ?_
  intro p e s m below meth c C hnm
  refine g_lv [0, 1] (lv' := [(0, .ref (ad k)), (1, .int (nI r))]) rfl ?_
  refine g_iconst C (v := nI 0) dX2_goodColumns_0 (by decide) ?_
  refine g_istore_n C (lv' := [(2, .int (nI 0)), (0, .ref (ad k)), (1, .int (nI r))]) dX2_goodColumns_1 (by decide) rfl ?_
  refine g_iconst C (v := nI 0) dX2_goodColumns_2 (by decide) ?_
  refine g_istore_n C (lv' := [(3, .int (nI 0)), (2, .int (nI 0)), (0, .ref (ad k)), (1, .int (nI r))]) dX2_goodColumns_3 (by decide) rfl ?_
  refine g_lv [0, 1, 2, 3] (lv' := [(3, .int (nI 0)), (2, .int (nI 0)), (0, .ref (ad k)), (1, .int (nI r))]) rfl ?_
  refine g_for 6 (fun (i : Nat) => [(3, .int (nI i)), (2, .int (s_good f t r i)), (0, .ref (ad k)), (1, .int (nI r))]) ?_ (fun i hi ih => ?_)
  · -- loop 4: its end
    refine g_iload_n C 0 rfl dX2_goodColumns_4 ?_
    refine g_bipush C (v := nI 6) dX2_goodColumns_5 (by decide) ?_
    refine g_icmp_ge C (tgt := 36) dX2_goodColumns_7 (by decide) (fun c7 => ?_) (fun c7 => ?_)
    rotate_left
    · exact absurd c7 (by decide)
    refine g_iload_n C 1 rfl dX2_goodColumns_36 ?_
    exact g_iret C rfl dX2_goodColumns_37 () rfl rfl rfl rfl (Nat.le_of_ble_eq_true rfl) (Nat.le_of_ble_eq_true rfl)
  · -- loop 4: its body
    refine g_iload_n C 0 rfl dX2_goodColumns_4 ?_
    refine g_bipush C (v := nI 6) dX2_goodColumns_5 (by decide) ?_
    refine g_icmp_ge C (tgt := 36) dX2_goodColumns_7 (by decide) (fun c7 => ?_) (fun c7 => ?_)
    · -- 36
      have c7 : 6 ≤ i := (nI_leI (by omega) (by omega)).mp c7
      exact absurd c7 (by omega)
    · -- 10
      have c7 : i < 6 := Nat.lt_of_not_le (fun z => c7 ((nI_leI (by omega) (by omega)).mpr z))
      refine g_aload_n C 2 rfl dX2_goodColumns_10 ?_
      refine g_bipush C (v := nI 6) dX2_goodColumns_11 (by decide) ?_
      refine g_iload_n C 3 rfl dX2_goodColumns_13 ?_
      refine g_imul C (v := nI (6 * r)) dX2_goodColumns_14 (pk_mul _ _) ?_
      refine g_iload_n C 0 rfl dX2_goodColumns_15 ?_
      refine g_iadd C (v := nI ((6 * r) + i)) dX2_goodColumns_16 (nI_add _ _) ?_
      refine g_iconst C (v := nI 0) dX2_goodColumns_17 (by decide) ?_
      refine g_calli C (r_V C (st := []) (c_X2_isLeftWith l V (by omega) h0 h1 h2 ((6 * r) + i) (by omega) 0) (cwV 2 C.ts gX2_goodColumns_X2_isLeftWith rfl rfl rfl (by decide +kernel) ⟨(Nat.le_of_ble_eq_true rfl), (Nat.le_of_ble_eq_true rfl)⟩) (by omega) h0 rfl rfl rfl (Nat.le_of_ble_eq_true rfl) dX2_goodColumns_18 ⟨(Nat.le_of_ble_eq_true rfl), (Nat.le_of_ble_eq_true rfl)⟩) (fun r u hu => ?_)
      subst hu
      refine g_if_eq C (tgt := 30) dX2_goodColumns_21 (by decide) (fun c21 => ?_) (fun c21 => ?_)
      · -- 30
        refine g_iinc C 0 rfl (v := nI (i + 1)) (lv' := [(3, .int (nI (i + 1))), (2, .int (s_good f t r i)), (0, .ref (ad k)), (1, .int (nI r))]) dX2_goodColumns_30 (nI_add _ _) (by decide) rfl ?_
        refine g_goto C (tgt := 4) dX2_goodColumns_33 (by decide) ?_
        refine g_lv [0, 1, 2, 3] (lv' := [(3, .int (nI (i + 1))), (2, .int (s_good f t r i)), (0, .ref (ad k)), (1, .int (nI r))]) rfl ?_
        have e9 : s_good f t r (i + 1) = s_good f t r i := if_neg (s_lw_0 c21)
        refine g_lveq (lv' := [(3, .int (nI (i + 1))), (2, .int (s_good f t r (i + 1))), (0, .ref (ad k)), (1, .int (nI r))]) (by rw [e9]) ?_
        exact ih
      · -- 24
        refine g_iload_n C 1 rfl dX2_goodColumns_24 ?_
        refine g_iconst C (v := nI 1) dX2_goodColumns_25 (by decide) ?_
        refine g_iload_n C 0 rfl dX2_goodColumns_26 ?_
        refine g_ishl C (v := (1 : Int32) <<< ((nI i) &&& 31)) dX2_goodColumns_27 rfl ?_
        refine g_ior C (v := (s_good f t r i) ||| ((1 : Int32) <<< ((nI i) &&& 31))) dX2_goodColumns_28 rfl ?_
        refine g_istore_n C (lv' := [(2, .int ((s_good f t r i) ||| ((1 : Int32) <<< ((nI i) &&& 31)))), (3, .int (nI i)), (0, .ref (ad k)), (1, .int (nI r))]) dX2_goodColumns_29 (by decide) rfl ?_
        refine g_iinc C 1 rfl (v := nI (i + 1)) (lv' := [(3, .int (nI (i + 1))), (2, .int ((s_good f t r i) ||| ((1 : Int32) <<< ((nI i) &&& 31)))), (0, .ref (ad k)), (1, .int (nI r))]) dX2_goodColumns_30 (nI_add _ _) (by decide) rfl ?_
        refine g_goto C (tgt := 4) dX2_goodColumns_33 (by decide) ?_
        refine g_lv [0, 1, 2, 3] (lv' := [(3, .int (nI (i + 1))), (2, .int ((s_good f t r i) ||| ((1 : Int32) <<< ((nI i) &&& 31)))), (0, .ref (ad k)), (1, .int (nI r))]) rfl ?_
        have e9 : s_good f t r (i + 1) = s_good f t r i ||| ((1 : Int32) <<< (nI i &&& 31)) := if_pos (s_lw_1 c21)
        refine g_lveq (lv' := [(3, .int (nI (i + 1))), (2, .int (s_good f t r (i + 1))), (0, .ref (ad k)), (1, .int (nI r))]) (by rw [e9]) ?_
        exact ih

set_option maxHeartbeats 4000000 in
set_option maxRecDepth 100000 in
theorem c_X2_longestRun (l : Launch) (V : gT) {n : Nat} {ad : Nat → Nat} {el : Nat → va_E} (b : Int32) : TT l V yX2_longestRun wsX2_longestRun { frames := 1, cells := 0, slots := 0, locals := 24 } n ad el [.int b] (QIr V n ad el (fun r => r = s_longest b 6)) 0 0 := by
  refine TT.body (cc := cX2_longestRun) (maxL := 4) (ret := (some .int)) (by decide) rfl (Nat.le_of_ble_eq_true rfl) ?_
  intro p e s m below meth c C hnm
  refine g_lv [0] (lv' := [(0, .int b)]) rfl ?_
  refine g_iconst C (v := nI 0) dX2_longestRun_0 (by decide) ?_
  refine g_istore_n C (lv' := [(1, .int (nI 0)), (0, .int b)]) dX2_longestRun_1 (by decide) rfl ?_
  refine g_iconst C (v := nI 0) dX2_longestRun_2 (by decide) ?_
  refine g_istore_n C (lv' := [(2, .int (nI 0)), (1, .int (nI 0)), (0, .int b)]) dX2_longestRun_3 (by decide) rfl ?_
  refine g_iconst C (v := nI 0) dX2_longestRun_4 (by decide) ?_
  refine g_istore_n C (lv' := [(3, .int (nI 0)), (2, .int (nI 0)), (1, .int (nI 0)), (0, .int b)]) dX2_longestRun_5 (by decide) rfl ?_
  refine g_lv [0, 2, 1, 3] (lv' := [(3, .int (nI 0)), (1, .int (nI 0)), (2, .int (nI 0)), (0, .int b)]) rfl ?_
  refine g_for 6 (fun (i : Nat) => [(3, .int (nI i)), (1, .int (s_longest b i)), (2, .int (s_run b i)), (0, .int b)]) ?_ (fun i hi ih => ?_)
  · -- loop 6: its end
    refine g_iload_n C 0 rfl dX2_longestRun_6 ?_
    refine g_bipush C (v := nI 6) dX2_longestRun_7 (by decide) ?_
    refine g_icmp_ge C (tgt := 40) dX2_longestRun_9 (by decide) (fun c9 => ?_) (fun c9 => ?_)
    rotate_left
    · exact absurd c9 (by decide)
    refine g_iload_n C 1 rfl dX2_longestRun_40 ?_
    exact g_iret C rfl dX2_longestRun_41 () rfl rfl rfl rfl (Nat.le_of_ble_eq_true rfl) (Nat.le_of_ble_eq_true rfl)
  · -- loop 6: its body
    refine g_iload_n C 0 rfl dX2_longestRun_6 ?_
    refine g_bipush C (v := nI 6) dX2_longestRun_7 (by decide) ?_
    refine g_icmp_ge C (tgt := 40) dX2_longestRun_9 (by decide) (fun c9 => ?_) (fun c9 => ?_)
    · -- 40
      have c9 : 6 ≤ i := (nI_leI (by omega) (by omega)).mp c9
      exact absurd c9 (by omega)
    · -- 12
      have c9 : i < 6 := Nat.lt_of_not_le (fun z => c9 ((nI_leI (by omega) (by omega)).mpr z))
      refine g_iload_n C 3 rfl dX2_longestRun_12 ?_
      refine g_iconst C (v := nI 1) dX2_longestRun_13 (by decide) ?_
      refine g_iload_n C 0 rfl dX2_longestRun_14 ?_
      refine g_ishl C (v := (1 : Int32) <<< ((nI i) &&& 31)) dX2_longestRun_15 rfl ?_
      refine g_iand C (v := b &&& ((1 : Int32) <<< ((nI i) &&& 31))) dX2_longestRun_16 rfl ?_
      refine g_if_eq C (tgt := 26) dX2_longestRun_17 (by decide) (fun c17 => ?_) (fun c17 => ?_)
      · -- 26
        refine g_iconst C (v := nI 0) dX2_longestRun_26 (by decide) ?_
        refine g_istore_n C (lv' := [(2, .int (nI 0)), (3, .int (nI i)), (1, .int (s_longest b i)), (0, .int b)]) dX2_longestRun_27 (by decide) rfl ?_
        refine g_iload_n C 2 rfl dX2_longestRun_28 ?_
        refine g_iload_n C 0 rfl dX2_longestRun_29 ?_
        refine g_mmax C (v := s_max (s_longest b i) 0) rfl (List.mem_of_getElem? (i := 1) rfl) (List.mem_of_getElem? (i := 2) rfl) (List.mem_of_getElem? (i := 3) rfl) (List.mem_of_getElem? (i := 4) rfl) (Nat.le_of_ble_eq_true rfl) (Nat.le_of_ble_eq_true rfl) (Nat.le_of_ble_eq_true rfl) (Nat.le_of_ble_eq_true rfl) dX2_longestRun_30 ?_
        refine g_istore_n C (lv' := [(1, .int (s_max (s_longest b i) 0)), (2, .int (nI 0)), (3, .int (nI i)), (0, .int b)]) dX2_longestRun_33 (by decide) rfl ?_
        refine g_iinc C 2 rfl (v := nI (i + 1)) (lv' := [(3, .int (nI (i + 1))), (1, .int (s_max (s_longest b i) 0)), (2, .int (nI 0)), (0, .int b)]) dX2_longestRun_34 (nI_add _ _) (by decide) rfl ?_
        refine g_goto C (tgt := 6) dX2_longestRun_37 (by decide) ?_
        refine g_lv [0, 1, 2, 3] (lv' := [(3, .int (nI (i + 1))), (1, .int (s_max (s_longest b i) 0)), (2, .int (nI 0)), (0, .int b)]) rfl ?_
        have e9 : s_run b (i + 1) = nI 0 := if_pos c17
        refine g_lveq (lv' := [(3, .int (nI (i + 1))), (1, .int (s_longest b (i + 1))), (2, .int (s_run b (i + 1))), (0, .int b)]) (by rw [s_longest, e9] <;> rfl) ?_
        exact ih
      · -- 20
        refine g_iload_n C 2 rfl dX2_longestRun_20 ?_
        refine g_iconst C (v := nI 1) dX2_longestRun_21 (by decide) ?_
        refine g_iadd C (v := (s_run b i) + 1) dX2_longestRun_22 rfl ?_
        refine g_goto C (tgt := 27) dX2_longestRun_23 (by decide) ?_
        refine g_istore_n C (lv' := [(2, .int ((s_run b i) + 1)), (3, .int (nI i)), (1, .int (s_longest b i)), (0, .int b)]) dX2_longestRun_27 (by decide) rfl ?_
        refine g_iload_n C 2 rfl dX2_longestRun_28 ?_
        refine g_iload_n C 0 rfl dX2_longestRun_29 ?_
        refine g_mmax C (v := s_max (s_longest b i) ((s_run b i) + 1)) rfl (List.mem_of_getElem? (i := 1) rfl) (List.mem_of_getElem? (i := 2) rfl) (List.mem_of_getElem? (i := 3) rfl) (List.mem_of_getElem? (i := 4) rfl) (Nat.le_of_ble_eq_true rfl) (Nat.le_of_ble_eq_true rfl) (Nat.le_of_ble_eq_true rfl) (Nat.le_of_ble_eq_true rfl) dX2_longestRun_30 ?_
        refine g_istore_n C (lv' := [(1, .int (s_max (s_longest b i) ((s_run b i) + 1))), (2, .int ((s_run b i) + 1)), (3, .int (nI i)), (0, .int b)]) dX2_longestRun_33 (by decide) rfl ?_
        refine g_iinc C 2 rfl (v := nI (i + 1)) (lv' := [(3, .int (nI (i + 1))), (1, .int (s_max (s_longest b i) ((s_run b i) + 1))), (2, .int ((s_run b i) + 1)), (0, .int b)]) dX2_longestRun_34 (nI_add _ _) (by decide) rfl ?_
        refine g_goto C (tgt := 6) dX2_longestRun_37 (by decide) ?_
        refine g_lv [0, 1, 2, 3] (lv' := [(3, .int (nI (i + 1))), (1, .int (s_max (s_longest b i) ((s_run b i) + 1))), (2, .int ((s_run b i) + 1)), (0, .int b)]) rfl ?_
        have e9 : s_run b (i + 1) = s_run b i + 1 := if_neg c17
        refine g_lveq (lv' := [(3, .int (nI (i + 1))), (1, .int (s_longest b (i + 1))), (2, .int (s_run b (i + 1))), (0, .int b)]) (by rw [s_longest, e9] <;> rfl) ?_
        exact ih

set_option maxHeartbeats 4000000 in
set_option maxRecDepth 100000 in
theorem c_X2_greatestBlock (l : Launch) (V : gT) {n : Nat} {ad : Nat → Nat} {el : Nat → va_E} {k : Nat} {f t : Nat → Int32} (hk : k + 2 < n) (h0 : el k = .inr (2, [.ref (ad (k + 1)), .ref (ad (k + 2))])) (h1 : el (k + 1) = .inl (V.2 0, 30, .inl f)) (h2 : el (k + 2) = .inl (V.2 1, 30, .inl t)) : TT l V yX2_greatestBlock wsX2_greatestBlock { frames := 2, cells := 0, slots := 0, locals := 47 } n ad el [.ref (ad k)] (QIr V n ad el (fun r => r = s_block f t)) 0 0 := by
  refine TT.body (cc := cX2_greatestBlock) (maxL := 5) (ret := (some .int)) (by decide) rfl (Nat.le_of_ble_eq_true rfl) ?_
  intro p e s m below meth c C hnm
  refine g_lv [0] (lv' := [(0, .ref (ad k))]) rfl ?_
  refine g_iconst C (v := nI 0) dX2_greatestBlock_0 (by decide) ?_
  refine g_istore_n C (lv' := [(1, .int (nI 0)), (0, .ref (ad k))]) dX2_greatestBlock_1 (by decide) rfl ?_
  refine g_iconst C (v := nI 0) dX2_greatestBlock_2 (by decide) ?_
  refine g_istore_n C (lv' := [(2, .int (nI 0)), (1, .int (nI 0)), (0, .ref (ad k))]) dX2_greatestBlock_3 (by decide) rfl ?_
  refine g_lv [0, 1, 2] (lv' := [(2, .int (nI 0)), (1, .int (nI 0)), (0, .ref (ad k))]) rfl ?_
  refine g_for 5 (fun (i : Nat) => [(2, .int (nI i)), (1, .int (s_blk f t i)), (0, .ref (ad k))]) ?_ (fun i hi ih => ?_)
  · -- loop 4: its end
    refine g_iload_n C 0 rfl dX2_greatestBlock_4 ?_
    refine g_iconst C (v := nI 5) dX2_greatestBlock_5 (by decide) ?_
    refine g_icmp_ge C (tgt := 61) dX2_greatestBlock_6 (by decide) (fun c6 => ?_) (fun c6 => ?_)
    rotate_left
    · exact absurd c6 (by decide)
    refine g_iload_n C 1 rfl dX2_greatestBlock_61 ?_
    exact g_iret C rfl dX2_greatestBlock_62 () rfl rfl rfl rfl (Nat.le_of_ble_eq_true rfl) (Nat.le_of_ble_eq_true rfl)
  · -- loop 4: its body
    refine g_iload_n C 0 rfl dX2_greatestBlock_4 ?_
    refine g_iconst C (v := nI 5) dX2_greatestBlock_5 (by decide) ?_
    refine g_icmp_ge C (tgt := 61) dX2_greatestBlock_6 (by decide) (fun c6 => ?_) (fun c6 => ?_)
    · -- 61
      have c6 : 5 ≤ i := (nI_leI (by omega) (by omega)).mp c6
      exact absurd c6 (by omega)
    · -- 9
      have c6 : i < 5 := Nat.lt_of_not_le (fun z => c6 ((nI_leI (by omega) (by omega)).mpr z))
      refine g_aload_n C 2 rfl dX2_greatestBlock_9 ?_
      refine g_iload_n C 0 rfl dX2_greatestBlock_10 ?_
      refine g_calli C (r_V C (st := []) (c_X2_goodColumns l V (by omega) h0 h1 h2 i (by omega)) (cwV 1 C.ts gX2_greatestBlock_X2_goodColumns rfl rfl rfl (by decide +kernel) ⟨(Nat.le_of_ble_eq_true rfl), (Nat.le_of_ble_eq_true rfl)⟩) (by omega) h0 rfl rfl rfl (Nat.le_of_ble_eq_true rfl) dX2_greatestBlock_11 ⟨(Nat.le_of_ble_eq_true rfl), (Nat.le_of_ble_eq_true rfl)⟩) (fun r u hu => ?_)
      subst hu
      refine g_istore_n C (lv' := [(3, .int (s_good f t i 6)), (2, .int (nI i)), (1, .int (s_blk f t i)), (0, .ref (ad k))]) dX2_greatestBlock_14 (by decide) rfl ?_
      refine g_iload_n C 1 rfl dX2_greatestBlock_15 ?_
      refine g_istore C (lv' := [(4, .int (nI i)), (3, .int (s_good f t i 6)), (2, .int (nI i)), (1, .int (s_blk f t i)), (0, .ref (ad k))]) dX2_greatestBlock_16 (by decide) rfl ?_
      refine g_lv [0, 1, 2, 3, 4] (lv' := [(4, .int (nI i)), (3, .int (s_good f t i 6)), (2, .int (nI i)), (1, .int (s_blk f t i)), (0, .ref (ad k))]) rfl ?_
      refine g_for (5 - i) (fun (j : Nat) => [(4, .int (nI (i + j))), (3, .int (s_cols f t i j)), (2, .int (nI i)), (1, .int (s_down f t i (s_blk f t i) j)), (0, .ref (ad k))]) ?_ (fun j hj jh => ?_)
      · -- loop 18: its end
        refine g_iload C 0 rfl dX2_greatestBlock_18 ?_
        refine g_iconst C (v := nI 5) dX2_greatestBlock_20 (by decide) ?_
        refine g_icmp_ge C (tgt := 55) dX2_greatestBlock_21 (by decide) (fun c21 => ?_) (fun c21 => ?_)
        · -- 55
          have c21 : 5 ≤ (i + (5 - i)) := (nI_leI (by omega) (by omega)).mp c21
          refine g_iinc C 2 rfl (v := nI (i + 1)) (lv' := [(2, .int (nI (i + 1))), (4, .int (nI (i + (5 - i)))), (3, .int (s_cols f t i (5 - i))), (1, .int (s_down f t i (s_blk f t i) (5 - i))), (0, .ref (ad k))]) dX2_greatestBlock_55 (nI_add _ _) (by decide) rfl ?_
          refine g_goto C (tgt := 4) dX2_greatestBlock_58 (by decide) ?_
          refine g_lv [0, 3, 4] (lv' := [(2, .int (nI (i + 1))), (1, .int (s_down f t i (s_blk f t i) (5 - i))), (0, .ref (ad k))]) rfl ?_
          exact ih
        · -- 24
          have c21 : (i + (5 - i)) < 5 := Nat.lt_of_not_le (fun z => c21 ((nI_leI (by omega) (by omega)).mpr z))
          exact absurd c21 (by omega)
      · -- loop 18: its body
        refine g_iload C 0 rfl dX2_greatestBlock_18 ?_
        refine g_iconst C (v := nI 5) dX2_greatestBlock_20 (by decide) ?_
        refine g_icmp_ge C (tgt := 55) dX2_greatestBlock_21 (by decide) (fun c21 => ?_) (fun c21 => ?_)
        · -- 55
          have c21 : 5 ≤ (i + j) := (nI_leI (by omega) (by omega)).mp c21
          exact absurd c21 (by omega)
        · -- 24
          have c21 : (i + j) < 5 := Nat.lt_of_not_le (fun z => c21 ((nI_leI (by omega) (by omega)).mpr z))
          refine g_iload_n C 1 rfl dX2_greatestBlock_24 ?_
          refine g_aload_n C 4 rfl dX2_greatestBlock_25 ?_
          refine g_iload C 0 rfl dX2_greatestBlock_26 ?_
          refine g_calli C (r_V C (st := [.int (s_cols f t i j)]) (c_X2_goodColumns l V (by omega) h0 h1 h2 (i + j) (by omega)) (cwV 1 C.ts gX2_greatestBlock_X2_goodColumns rfl rfl rfl (by decide +kernel) ⟨(Nat.le_of_ble_eq_true rfl), (Nat.le_of_ble_eq_true rfl)⟩) (by omega) h0 rfl rfl rfl (Nat.le_of_ble_eq_true rfl) dX2_greatestBlock_28 ⟨(Nat.le_of_ble_eq_true rfl), (Nat.le_of_ble_eq_true rfl)⟩) (fun r u hu => ?_)
          subst hu
          refine g_iand C (v := (s_cols f t i j) &&& (s_good f t (i + j) 6)) dX2_greatestBlock_31 rfl ?_
          refine g_istore_n C (lv' := [(3, .int ((s_cols f t i j) &&& (s_good f t (i + j) 6))), (4, .int (nI (i + j))), (2, .int (nI i)), (1, .int (s_down f t i (s_blk f t i) j)), (0, .ref (ad k))]) dX2_greatestBlock_32 (by decide) rfl ?_
          refine g_iload_n C 3 rfl dX2_greatestBlock_33 ?_
          refine g_iload C 1 rfl dX2_greatestBlock_34 ?_
          refine g_iload_n C 2 rfl dX2_greatestBlock_36 ?_
          refine g_isub C (v := nI j) dX2_greatestBlock_37 (by rw [pk_sub (by omega)]; exact congrArg nI (by omega)) ?_
          refine g_iconst C (v := nI 1) dX2_greatestBlock_38 (by decide) ?_
          refine g_iadd C (v := nI (j + 1)) dX2_greatestBlock_39 (nI_add _ _) ?_
          refine g_iload_n C 0 rfl dX2_greatestBlock_40 ?_
          refine g_calli C (r_S C (st := [.int (nI (j + 1)), .int (s_down f t i (s_blk f t i) j)]) (c_X2_longestRun l V ((s_cols f t i j) &&& (s_good f t (i + j) 6))) (va_cwS 1 C.ts gX2_greatestBlock_X2_longestRun rfl rfl rfl (by decide +kernel) ⟨(Nat.le_of_ble_eq_true rfl), (Nat.le_of_ble_eq_true rfl)⟩) rfl rfl (Nat.le_of_ble_eq_true rfl) dX2_greatestBlock_41 ⟨(Nat.le_of_ble_eq_true rfl), (Nat.le_of_ble_eq_true rfl)⟩) (fun r u hu => ?_)
          subst hu
          refine g_imul C (v := (nI (j + 1)) * (s_longest ((s_cols f t i j) &&& (s_good f t (i + j) 6)) 6)) dX2_greatestBlock_44 rfl ?_
          refine g_mmax C (v := s_max (s_down f t i (s_blk f t i) j) ((nI (j + 1)) * (s_longest ((s_cols f t i j) &&& (s_good f t (i + j) 6)) 6))) rfl (List.mem_of_getElem? (i := 1) rfl) (List.mem_of_getElem? (i := 2) rfl) (List.mem_of_getElem? (i := 3) rfl) (List.mem_of_getElem? (i := 4) rfl) (Nat.le_of_ble_eq_true rfl) (Nat.le_of_ble_eq_true rfl) (Nat.le_of_ble_eq_true rfl) (Nat.le_of_ble_eq_true rfl) dX2_greatestBlock_45 ?_
          refine g_istore_n C (lv' := [(1, .int (s_max (s_down f t i (s_blk f t i) j) ((nI (j + 1)) * (s_longest ((s_cols f t i j) &&& (s_good f t (i + j) 6)) 6)))), (3, .int ((s_cols f t i j) &&& (s_good f t (i + j) 6))), (4, .int (nI (i + j))), (2, .int (nI i)), (0, .ref (ad k))]) dX2_greatestBlock_48 (by decide) rfl ?_
          refine g_iinc C 2 rfl (v := nI (i + j + 1)) (lv' := [(4, .int (nI (i + j + 1))), (1, .int (s_max (s_down f t i (s_blk f t i) j) ((nI (j + 1)) * (s_longest ((s_cols f t i j) &&& (s_good f t (i + j) 6)) 6)))), (3, .int ((s_cols f t i j) &&& (s_good f t (i + j) 6))), (2, .int (nI i)), (0, .ref (ad k))]) dX2_greatestBlock_49 (nI_add _ _) (by decide) rfl ?_
          refine g_goto C (tgt := 18) dX2_greatestBlock_52 (by decide) ?_
          refine g_lv [0, 2, 3, 1, 4] (lv' := [(4, .int (nI (i + j + 1))), (3, .int ((s_cols f t i j) &&& (s_good f t (i + j) 6))), (2, .int (nI i)), (1, .int (s_max (s_down f t i (s_blk f t i) j) ((nI (j + 1)) * (s_longest ((s_cols f t i j) &&& (s_good f t (i + j) 6)) 6)))), (0, .ref (ad k))]) rfl ?_
          exact jh

set_option maxHeartbeats 4000000 in
set_option maxRecDepth 100000 in
theorem c_X2_answer (l : Launch) (V : gT) {n : Nat} {ad : Nat → Nat} {el : Nat → va_E} {k : Nat} {f t : Nat → Int32} (hk : k + 2 < n) (h0 : el k = .inr (2, [.ref (ad (k + 1)), .ref (ad (k + 2))])) (h1 : el (k + 1) = .inl (V.2 0, 30, .inl f)) (h2 : el (k + 2) = .inl (V.2 1, 30, .inl t)) (x : Int32) : TT l V yX2_answer wsX2_answer { frames := 3, cells := 0, slots := 0, locals := 71 } n ad el [.ref (ad k), .int x] (QIr V n ad el (fun r => r = s_sheet f t x)) 0 0 := by
  refine TT.body (cc := cX2_answer) (maxL := 2) (ret := (some .int)) (by decide) rfl (Nat.le_of_ble_eq_true rfl) ?_
  intro p e s m below meth c C hnm
  refine g_lv [0, 1] (lv' := [(0, .ref (ad k)), (1, .int x)]) rfl ?_
  refine g_iload_n C 1 rfl dX2_answer_0 ?_
  by_cases q0 : x = 0
  · -- case
    refine g_tableIn C (tgt := 36) (off := 35) dX2_answer_1 (by rw [q0]; decide) (by rw [q0]; decide) (by rw [q0]; rfl) (by decide) ?_
    refine g_aload_n C 0 rfl dX2_answer_36 ?_
    refine g_calli C (r_V C (st := []) (c_X2_left l V (by omega) h0 h1 h2) (cwV 0 C.ts gX2_answer_X2_left rfl rfl rfl (by decide +kernel) ⟨(Nat.le_of_ble_eq_true rfl), (Nat.le_of_ble_eq_true rfl)⟩) (by omega) h0 rfl rfl rfl (Nat.le_of_ble_eq_true rfl) dX2_answer_37 ⟨(Nat.le_of_ble_eq_true rfl), (Nat.le_of_ble_eq_true rfl)⟩) (fun r u hu => ?_)
    subst hu
    exact g_iret C rfl dX2_answer_40 () rfl rfl rfl (by rw [s_sheet, if_pos q0]) (Nat.le_of_ble_eq_true rfl) (Nat.le_of_ble_eq_true rfl)
  by_cases q1 : x = 1
  · -- case
    refine g_tableIn C (tgt := 41) (off := 40) dX2_answer_1 (by rw [q1]; decide) (by rw [q1]; decide) (by rw [q1]; rfl) (by decide) ?_
    refine g_aload_n C 0 rfl dX2_answer_41 ?_
    refine g_iconst C (v := nI 0) dX2_answer_42 (by decide) ?_
    refine g_calli C (r_V C (st := []) (c_X2_leftWith l V (by omega) h0 h1 h2 0) (cwV 1 C.ts gX2_answer_X2_leftWith rfl rfl rfl (by decide +kernel) ⟨(Nat.le_of_ble_eq_true rfl), (Nat.le_of_ble_eq_true rfl)⟩) (by omega) h0 rfl rfl rfl (Nat.le_of_ble_eq_true rfl) dX2_answer_43 ⟨(Nat.le_of_ble_eq_true rfl), (Nat.le_of_ble_eq_true rfl)⟩) (fun r u hu => ?_)
    subst hu
    exact g_iret C rfl dX2_answer_46 () rfl rfl rfl (by rw [s_sheet, if_neg q0, if_pos q1]) (Nat.le_of_ble_eq_true rfl) (Nat.le_of_ble_eq_true rfl)
  by_cases q2 : x = 2
  · -- case
    refine g_tableIn C (tgt := 47) (off := 46) dX2_answer_1 (by rw [q2]; decide) (by rw [q2]; decide) (by rw [q2]; rfl) (by decide) ?_
    refine g_aload_n C 0 rfl dX2_answer_47 ?_
    refine g_calli C (r_V C (st := []) (c_X2_worth l V (by omega) h0 h1 h2) (cwV 0 C.ts gX2_answer_X2_worth rfl rfl rfl (by decide +kernel) ⟨(Nat.le_of_ble_eq_true rfl), (Nat.le_of_ble_eq_true rfl)⟩) (by omega) h0 rfl rfl rfl (Nat.le_of_ble_eq_true rfl) dX2_answer_48 ⟨(Nat.le_of_ble_eq_true rfl), (Nat.le_of_ble_eq_true rfl)⟩) (fun r u hu => ?_)
    subst hu
    exact g_iret C rfl dX2_answer_51 () rfl rfl rfl (by rw [s_sheet, if_neg q0, if_neg q1, if_pos q2]) (Nat.le_of_ble_eq_true rfl) (Nat.le_of_ble_eq_true rfl)
  by_cases q3 : x = 3
  · -- case
    refine g_tableIn C (tgt := 52) (off := 51) dX2_answer_1 (by rw [q3]; decide) (by rw [q3]; decide) (by rw [q3]; rfl) (by decide) ?_
    refine g_aload_n C 0 rfl dX2_answer_52 ?_
    refine g_calli C (r_V C (st := []) (c_X2_invertedPairs l V (by omega) h0 h1 h2) (cwV 0 C.ts gX2_answer_X2_invertedPairs rfl rfl rfl (by decide +kernel) ⟨(Nat.le_of_ble_eq_true rfl), (Nat.le_of_ble_eq_true rfl)⟩) (by omega) h0 rfl rfl rfl (Nat.le_of_ble_eq_true rfl) dX2_answer_53 ⟨(Nat.le_of_ble_eq_true rfl), (Nat.le_of_ble_eq_true rfl)⟩) (fun r u hu => ?_)
    subst hu
    exact g_iret C rfl dX2_answer_56 () rfl rfl rfl (by rw [s_sheet, if_neg q0, if_neg q1, if_neg q2, if_pos q3]) (Nat.le_of_ble_eq_true rfl) (Nat.le_of_ble_eq_true rfl)
  by_cases q4 : x = 4
  · -- case
    refine g_tableIn C (tgt := 57) (off := 56) dX2_answer_1 (by rw [q4]; decide) (by rw [q4]; decide) (by rw [q4]; rfl) (by decide) ?_
    refine g_aload_n C 0 rfl dX2_answer_57 ?_
    refine g_calli C (r_V C (st := []) (c_X2_rowsOff l V (by omega) h0 h1 h2) (cwV 0 C.ts gX2_answer_X2_rowsOff rfl rfl rfl (by decide +kernel) ⟨(Nat.le_of_ble_eq_true rfl), (Nat.le_of_ble_eq_true rfl)⟩) (by omega) h0 rfl rfl rfl (Nat.le_of_ble_eq_true rfl) dX2_answer_58 ⟨(Nat.le_of_ble_eq_true rfl), (Nat.le_of_ble_eq_true rfl)⟩) (fun r u hu => ?_)
    subst hu
    exact g_iret C rfl dX2_answer_61 () rfl rfl rfl (by rw [s_sheet, if_neg q0, if_neg q1, if_neg q2, if_neg q3, if_pos q4]) (Nat.le_of_ble_eq_true rfl) (Nat.le_of_ble_eq_true rfl)
  have qq : x.toInt < 0 ∨ 4 < x.toInt := by
    have z0 : x.toInt ≠ 0 := fun z => q0 (Int32.toInt_inj.mp z)
    have z1 : x.toInt ≠ 1 := fun z => q1 (Int32.toInt_inj.mp z)
    have z2 : x.toInt ≠ 2 := fun z => q2 (Int32.toInt_inj.mp z)
    have z3 : x.toInt ≠ 3 := fun z => q3 (Int32.toInt_inj.mp z)
    have z4 : x.toInt ≠ 4 := fun z => q4 (Int32.toInt_inj.mp z)
    omega
  refine g_tableOut C (tgt := 62) dX2_answer_1 qq (by decide) ?_
  refine g_aload_n C 0 rfl dX2_answer_62 ?_
  refine g_calli C (r_V C (st := []) (c_X2_greatestBlock l V (by omega) h0 h1 h2) (cwV 0 C.ts gX2_answer_X2_greatestBlock rfl rfl rfl (by decide +kernel) ⟨(Nat.le_of_ble_eq_true rfl), (Nat.le_of_ble_eq_true rfl)⟩) (by omega) h0 rfl rfl rfl (Nat.le_of_ble_eq_true rfl) dX2_answer_63 ⟨(Nat.le_of_ble_eq_true rfl), (Nat.le_of_ble_eq_true rfl)⟩) (fun r u hu => ?_)
  subst hu
  exact g_iret C rfl dX2_answer_66 () rfl rfl rfl (by rw [s_sheet, if_neg q0, if_neg q1, if_neg q2, if_neg q3, if_neg q4]) (Nat.le_of_ble_eq_true rfl) (Nat.le_of_ble_eq_true rfl)
