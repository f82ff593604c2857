/-! ===== the class's methods where nothing is thrown: checks, and what only reads ===== -/
theorem in_le {i N : Nat} (h : i ≤ N) (hN : N < 2 ^ 31) : 0 ≤ nI i ∧ nI i ≤ nI N := ⟨nI_pos' (by omega), nI_le h hN⟩
theorem in_le1 {i N : Nat} (h1 : 1 ≤ i) (h : i ≤ N) (hN : N < 2 ^ 31) : 1 ≤ nI i ∧ nI i ≤ nI N := ⟨nI_le (a := 1) h1 (by omega), nI_le h hN⟩
theorem in_whl {i N : Nat} (h : i < N) (hN : N < 2 ^ 31) : 0 ≤ nI i ∧ nI i ≤ nI N - nI 1 := by
  rw [pk_sub (by omega)]
  exact ⟨nI_pos' (by omega), nI_le (by omega) (by omega)⟩

set_option maxHeartbeats 4000000 in
set_option maxRecDepth 100000 in
theorem c_X4_checkPin (l : Launch) (V : gT) {n : Nat} {ad : Nat → Nat} {el : Nat → va_E} (x : Int32) (hok : 0 ≤ x ∧ x ≤ 6) : TT l V yX4_checkPin wsX4_checkPin { frames := 6, cells := 0, slots := 0, locals := 90 } n ad el [.int x] (QVr V n ad el True) 0 0 := by
  refine TT.body (cc := cX4_checkPin) (maxL := 1) (ret := none) (by decide) rfl (Nat.le_of_ble_eq_true rfl) ?_
  intro p e s m below meth c C hnm
  refine g_lv [0] (lv' := [(0, .int x)]) rfl ?_
  refine g_iload_n C 0 rfl dX4_checkPin_0 ?_
  refine g_iconst C (v := nI 0) dX4_checkPin_1 (by decide) ?_
  refine g_bipush C (v := nI 6) dX4_checkPin_2 (by decide) ?_
  refine g_calli C (r_S C (st := []) (c_X4_isWithin l V x 0 6) (va_cwS 3 C.ts gX4_checkPin_X4_isWithin rfl rfl rfl (by decide +kernel) ⟨(Nat.le_of_ble_eq_true rfl), (Nat.le_of_ble_eq_true rfl)⟩) rfl rfl (Nat.le_of_ble_eq_true rfl) dX4_checkPin_4 ⟨(Nat.le_of_ble_eq_true rfl), (Nat.le_of_ble_eq_true rfl)⟩) (fun r u hu => ?_)
  subst hu
  refine g_if_ne C (tgt := 20) dX4_checkPin_7 (by decide) (fun c7 => ?_) (fun c7 => ?_)
  · -- 20
    exact g_vret C rfl dX4_checkPin_20 () rfl rfl rfl trivial (Nat.le_of_ble_eq_true rfl) (Nat.le_of_ble_eq_true rfl)
  · -- 10
    exact absurd hok (s_in_0 c7)

set_option maxHeartbeats 4000000 in
set_option maxRecDepth 100000 in
theorem c_X4_checkSheetsToRun (l : Launch) (V : gT) {n : Nat} {ad : Nat → Nat} {el : Nat → va_E} (x : Int32) (hok : 1 ≤ x ∧ x ≤ 20) : TT l V yX4_checkSheetsToRun wsX4_checkSheetsToRun { frames := 6, cells := 0, slots := 0, locals := 90 } n ad el [.int x] (QVr V n ad el True) 0 0 := by
  refine TT.body (cc := cX4_checkSheetsToRun) (maxL := 1) (ret := none) (by decide) rfl (Nat.le_of_ble_eq_true rfl) ?_
  intro p e s m below meth c C hnm
  refine g_lv [0] (lv' := [(0, .int x)]) rfl ?_
  refine g_iload_n C 0 rfl dX4_checkSheetsToRun_0 ?_
  refine g_iconst C (v := nI 1) dX4_checkSheetsToRun_1 (by decide) ?_
  refine g_bipush C (v := nI 20) dX4_checkSheetsToRun_2 (by decide) ?_
  refine g_calli C (r_S C (st := []) (c_X4_isWithin l V x 1 20) (va_cwS 3 C.ts gX4_checkSheetsToRun_X4_isWithin rfl rfl rfl (by decide +kernel) ⟨(Nat.le_of_ble_eq_true rfl), (Nat.le_of_ble_eq_true rfl)⟩) rfl rfl (Nat.le_of_ble_eq_true rfl) dX4_checkSheetsToRun_4 ⟨(Nat.le_of_ble_eq_true rfl), (Nat.le_of_ble_eq_true rfl)⟩) (fun r u hu => ?_)
  subst hu
  refine g_if_ne C (tgt := 20) dX4_checkSheetsToRun_7 (by decide) (fun c7 => ?_) (fun c7 => ?_)
  · -- 20
    exact g_vret C rfl dX4_checkSheetsToRun_20 () rfl rfl rfl trivial (Nat.le_of_ble_eq_true rfl) (Nat.le_of_ble_eq_true rfl)
  · -- 10
    exact absurd hok (s_in_0 c7)

set_option maxHeartbeats 4000000 in
set_option maxRecDepth 100000 in
theorem c_X4_checkWhat (l : Launch) (V : gT) {n : Nat} {ad : Nat → Nat} {el : Nat → va_E} (x a : Int32) (hok : 0 ≤ x ∧ x ≤ a - 1) : TT l V yX4_checkWhat wsX4_checkWhat { frames := 6, cells := 0, slots := 0, locals := 90 } n ad el [.int x, .int a] (QVr V n ad el True) 0 0 := by
  refine TT.body (cc := cX4_checkWhat) (maxL := 2) (ret := none) (by decide) rfl (Nat.le_of_ble_eq_true rfl) ?_
  intro p e s m below meth c C hnm
  refine g_lv [0, 1] (lv' := [(0, .int x), (1, .int a)]) rfl ?_
  refine g_iload_n C 0 rfl dX4_checkWhat_0 ?_
  refine g_iconst C (v := nI 0) dX4_checkWhat_1 (by decide) ?_
  refine g_iload_n C 1 rfl dX4_checkWhat_2 ?_
  refine g_iconst C (v := nI 1) dX4_checkWhat_3 (by decide) ?_
  refine g_isub C (v := a - 1) dX4_checkWhat_4 rfl ?_
  refine g_calli C (r_S C (st := []) (c_X4_isWithin l V x 0 (a - 1)) (va_cwS 3 C.ts gX4_checkWhat_X4_isWithin rfl rfl rfl (by decide +kernel) ⟨(Nat.le_of_ble_eq_true rfl), (Nat.le_of_ble_eq_true rfl)⟩) rfl rfl (Nat.le_of_ble_eq_true rfl) dX4_checkWhat_5 ⟨(Nat.le_of_ble_eq_true rfl), (Nat.le_of_ble_eq_true rfl)⟩) (fun r u hu => ?_)
  subst hu
  refine g_if_ne C (tgt := 21) dX4_checkWhat_8 (by decide) (fun c8 => ?_) (fun c8 => ?_)
  · -- 21
    exact g_vret C rfl dX4_checkWhat_21 () rfl rfl rfl trivial (Nat.le_of_ble_eq_true rfl) (Nat.le_of_ble_eq_true rfl)
  · -- 11
    exact absurd hok (s_in_0 c8)

set_option maxHeartbeats 4000000 in
set_option maxRecDepth 100000 in
theorem c_X4_checkSheet (l : Launch) (V : gT) {n : Nat} {ad : Nat → Nat} {el : Nat → va_E} {cnt : Nat} {M St We pl : Nat → Int32} {F T : Nat → Nat → Int32} (hn : 85 ≤ n) (hc : cnt ≤ 20) (h : X4At V ad el cnt M St We pl F T) (x : Int32) (hok : 0 ≤ x ∧ x ≤ nI cnt - nI 1) : TT l V yX4_checkSheet wsX4_checkSheet { frames := 6, cells := 0, slots := 0, locals := 90 } n ad el [.ref (ad 0), .int x] (QVr V n ad el True) 0 0 := by
  refine TT.body (cc := cX4_checkSheet) (maxL := 2) (ret := none) (by decide) rfl (Nat.le_of_ble_eq_true rfl) ?_
  intro p e s m below meth c C hnm
  refine g_lv [0, 1] (lv' := [(0, .ref (ad 0)), (1, .int x)]) rfl ?_
  obtain ⟨x1, x2, ⟨ta, tb, tM, tS, tW, tf, x3⟩, x4, ⟨g, x5, x6⟩, x7⟩ := id h
  obtain ⟨hM1, ⟨g2, hA3, hg4⟩, hp5⟩ := id x2
  refine g_iload_n C 1 rfl dX4_checkSheet_0 ?_
  refine g_iconst C (v := nI 0) dX4_checkSheet_1 (by decide) ?_
  refine g_aload_n C 0 rfl dX4_checkSheet_2 ?_
  refine g_getf C 0 (by omega) x1 rfl 4 (by decide) (fun w h => (List.mem_cons_of_mem _ (List.mem_append_left _ (List.mem_append_right _ h)))) (List.mem_of_getElem? (i := 3) rfl) rfl rfl dX4_checkSheet_3 ?_
  refine g_iconst C (v := nI 1) dX4_checkSheet_6 (by decide) ?_
  refine g_isub C (v := (nI cnt) - 1) dX4_checkSheet_7 rfl ?_
  refine g_calli C (r_S C (st := []) (c_X4_isWithin l V x 0 ((nI cnt) - 1)) (va_cwS 3 C.ts gX4_checkSheet_X4_isWithin rfl rfl rfl (by decide +kernel) ⟨(Nat.le_of_ble_eq_true rfl), (Nat.le_of_ble_eq_true rfl)⟩) rfl rfl (Nat.le_of_ble_eq_true rfl) dX4_checkSheet_8 ⟨(Nat.le_of_ble_eq_true rfl), (Nat.le_of_ble_eq_true rfl)⟩) (fun r u hu => ?_)
  subst hu
  refine g_if_ne C (tgt := 24) dX4_checkSheet_11 (by decide) (fun c11 => ?_) (fun c11 => ?_)
  · -- 24
    exact g_vret C rfl dX4_checkSheet_24 () rfl rfl rfl trivial (Nat.le_of_ble_eq_true rfl) (Nat.le_of_ble_eq_true rfl)
  · -- 14
    exact absurd hok (s_in_0 c11)

set_option maxHeartbeats 4000000 in
set_option maxRecDepth 100000 in
theorem c_X4_checkPlace (l : Launch) (V : gT) {n : Nat} {ad : Nat → Nat} {el : Nat → va_E} (x y : Int32) (hok : (0 ≤ x ∧ x ≤ 4) ∧ 0 ≤ y ∧ y ≤ 5) : TT l V yX4_checkPlace wsX4_checkPlace { frames := 6, cells := 0, slots := 0, locals := 90 } n ad el [.int x, .int y] (QVr V n ad el True) 0 0 := by
  refine TT.body (cc := cX4_checkPlace) (maxL := 2) (ret := none) (by decide) rfl (Nat.le_of_ble_eq_true rfl) ?_
  intro p e s m below meth c C hnm
  refine g_lv [0, 1] (lv' := [(0, .int x), (1, .int y)]) rfl ?_
  refine g_iload_n C 0 rfl dX4_checkPlace_0 ?_
  refine g_iconst C (v := nI 0) dX4_checkPlace_1 (by decide) ?_
  refine g_iconst C (v := nI 4) dX4_checkPlace_2 (by decide) ?_
  refine g_calli C (r_S C (st := []) (c_X4_isWithin l V x 0 4) (va_cwS 3 C.ts gX4_checkPlace_X4_isWithin rfl rfl rfl (by decide +kernel) ⟨(Nat.le_of_ble_eq_true rfl), (Nat.le_of_ble_eq_true rfl)⟩) rfl rfl (Nat.le_of_ble_eq_true rfl) dX4_checkPlace_3 ⟨(Nat.le_of_ble_eq_true rfl), (Nat.le_of_ble_eq_true rfl)⟩) (fun r u hu => ?_)
  subst hu
  refine g_if_eq C (tgt := 18) dX4_checkPlace_6 (by decide) (fun c6 => ?_) (fun c6 => ?_)
  · -- 18
    exact absurd hok.1 (s_in_0 c6)
  · -- 9
    refine g_iload_n C 1 rfl dX4_checkPlace_9 ?_
    refine g_iconst C (v := nI 0) dX4_checkPlace_10 (by decide) ?_
    refine g_iconst C (v := nI 5) dX4_checkPlace_11 (by decide) ?_
    refine g_calli C (r_S C (st := []) (c_X4_isWithin l V y 0 5) (va_cwS 3 C.ts gX4_checkPlace_X4_isWithin rfl rfl rfl (by decide +kernel) ⟨(Nat.le_of_ble_eq_true rfl), (Nat.le_of_ble_eq_true rfl)⟩) rfl rfl (Nat.le_of_ble_eq_true rfl) dX4_checkPlace_12 ⟨(Nat.le_of_ble_eq_true rfl), (Nat.le_of_ble_eq_true rfl)⟩) (fun r u hu => ?_)
    subst hu
    refine g_if_ne C (tgt := 28) dX4_checkPlace_15 (by decide) (fun c15 => ?_) (fun c15 => ?_)
    · -- 28
      exact g_vret C rfl dX4_checkPlace_28 () rfl rfl rfl trivial (Nat.le_of_ble_eq_true rfl) (Nat.le_of_ble_eq_true rfl)
    · -- 18
      exact absurd hok.2 (s_in_0 c15)

set_option maxHeartbeats 4000000 in
set_option maxRecDepth 100000 in
theorem c_X4_invertedPlaces (l : Launch) (V : gT) {n : Nat} {ad : Nat → Nat} {el : Nat → va_E} {cnt : Nat} {M St We pl : Nat → Int32} {F T : Nat → Nat → Int32} (hn : 85 ≤ n) (hc : cnt ≤ 20) (h : X4At V ad el cnt M St We pl F T) : TT l V yX4_invertedPlaces wsX4_invertedPlaces { frames := 0, cells := 0, slots := 0, locals := 0 } n ad el [.ref (ad 0)] (QIr V n ad el (fun r => r = s_inv pl)) 0 0 := by
  refine TT.body (cc := cX4_invertedPlaces) (maxL := 3) (ret := (some .int)) (by decide) rfl (Nat.le_of_ble_eq_true rfl) ?_
  intro p e s m below meth c C hnm
  refine g_lv [0] (lv' := [(0, .ref (ad 0))]) rfl ?_
  obtain ⟨x1, x2, ⟨ta, tb, tM, tS, tW, tf, x3⟩, x4, ⟨g, x5, x6⟩, x7⟩ := id h
  obtain ⟨hM1, ⟨g2, hA3, hg4⟩, hp5⟩ := id x2
  refine g_iconst C (v := nI 0) dX4_invertedPlaces_0 (by decide) ?_
  refine g_istore_n C (lv' := [(1, .int (nI 0)), (0, .ref (ad 0))]) dX4_invertedPlaces_1 (by decide) rfl ?_
  refine g_iconst C (v := nI 0) dX4_invertedPlaces_2 (by decide) ?_
  refine g_istore_n C (lv' := [(2, .int (nI 0)), (1, .int (nI 0)), (0, .ref (ad 0))]) dX4_invertedPlaces_3 (by decide) rfl ?_
  refine g_lv [0, 1, 2] (lv' := [(2, .int (nI 0)), (1, .int (nI 0)), (0, .ref (ad 0))]) rfl ?_
  refine g_for 30 (fun (i : Nat) => [(2, .int (nI i)), (1, .int (s_sum (fun j => if pl j = 0 then 0 else 1) i)), (0, .ref (ad 0))]) ?_ (fun i hi ih => ?_)
  · -- loop 4: its end
    refine g_iload_n C 0 rfl dX4_invertedPlaces_4 ?_
    refine g_bipush C (v := nI 30) dX4_invertedPlaces_5 (by decide) ?_
    refine g_icmp_ge C (tgt := 28) dX4_invertedPlaces_7 (by decide) (fun c7 => ?_) (fun c7 => ?_)
    rotate_left
    · exact absurd c7 (by decide)
    refine g_iload_n C 1 rfl dX4_invertedPlaces_28 ?_
    exact g_iret C rfl dX4_invertedPlaces_29 () rfl rfl rfl rfl (Nat.le_of_ble_eq_true rfl) (Nat.le_of_ble_eq_true rfl)
  · -- loop 4: its body
    refine g_iload_n C 0 rfl dX4_invertedPlaces_4 ?_
    refine g_bipush C (v := nI 30) dX4_invertedPlaces_5 (by decide) ?_
    refine g_icmp_ge C (tgt := 28) dX4_invertedPlaces_7 (by decide) (fun c7 => ?_) (fun c7 => ?_)
    · -- 28
      have c7 : 30 ≤ i := (nI_leI (by omega) (by omega)).mp c7
      exact absurd c7 (by omega)
    · -- 10
      have c7 : i < 30 := Nat.lt_of_not_le (fun z => c7 ((nI_leI (by omega) (by omega)).mpr z))
      refine g_aload_n C 2 rfl dX4_invertedPlaces_10 ?_
      refine g_getf C 0 (by omega) x1 rfl 2 (by decide) (fun w h => (List.mem_cons_of_mem _ (List.mem_append_right _ h))) (List.mem_of_getElem? (i := 1) rfl) rfl rfl dX4_invertedPlaces_11 ?_
      refine g_iload_n C 0 rfl dX4_invertedPlaces_14 ?_
      refine g_zald C 23 (by omega) x4 i rfl (by omega) (by decide) dX4_invertedPlaces_15 ?_
      refine g_if_eq C (tgt := 22) dX4_invertedPlaces_16 (by decide) (fun c16 => ?_) (fun c16 => ?_)
      · -- 22
        refine g_iinc C 0 rfl (v := nI (i + 1)) (lv' := [(2, .int (nI (i + 1))), (1, .int (s_sum (fun j => if pl j = 0 then 0 else 1) i)), (0, .ref (ad 0))]) dX4_invertedPlaces_22 (nI_add _ _) (by decide) rfl ?_
        refine g_goto C (tgt := 4) dX4_invertedPlaces_25 (by decide) ?_
        refine g_lv [0, 1, 2] (lv' := [(2, .int (nI (i + 1))), (1, .int (s_sum (fun j => if pl j = 0 then 0 else 1) i)), (0, .ref (ad 0))]) rfl ?_
        have e9 : s_sum (fun j => if pl j = 0 then 0 else 1) (i + 1) = s_sum (fun j => if pl j = 0 then 0 else 1) i := s_sum_f (if_pos c16)
        refine g_lveq (lv' := [(2, .int (nI (i + 1))), (1, .int (s_sum (fun j => if pl j = 0 then 0 else 1) (i + 1))), (0, .ref (ad 0))]) (by rw [e9]) ?_
        exact ih
      · -- 19
        refine g_iinc C 1 rfl (v := (s_sum (fun j => if pl j = 0 then 0 else 1) i) + 1) (lv' := [(1, .int ((s_sum (fun j => if pl j = 0 then 0 else 1) i) + 1)), (2, .int (nI i)), (0, .ref (ad 0))]) dX4_invertedPlaces_19 rfl (by decide) rfl ?_
        refine g_iinc C 1 rfl (v := nI (i + 1)) (lv' := [(2, .int (nI (i + 1))), (1, .int ((s_sum (fun j => if pl j = 0 then 0 else 1) i) + 1)), (0, .ref (ad 0))]) dX4_invertedPlaces_22 (nI_add _ _) (by decide) rfl ?_
        refine g_goto C (tgt := 4) dX4_invertedPlaces_25 (by decide) ?_
        refine g_lv [0, 1, 2] (lv' := [(2, .int (nI (i + 1))), (1, .int ((s_sum (fun j => if pl j = 0 then 0 else 1) i) + 1)), (0, .ref (ad 0))]) rfl ?_
        have e9 : s_sum (fun j => if pl j = 0 then 0 else 1) (i + 1) = s_sum (fun j => if pl j = 0 then 0 else 1) i + 1 := s_sum_t (if_neg c16)
        refine g_lveq (lv' := [(2, .int (nI (i + 1))), (1, .int (s_sum (fun j => if pl j = 0 then 0 else 1) (i + 1))), (0, .ref (ad 0))]) (by rw [e9]) ?_
        exact ih

set_option maxHeartbeats 4000000 in
set_option maxRecDepth 100000 in
theorem c_X4_worthOfSheets (l : Launch) (V : gT) {n : Nat} {ad : Nat → Nat} {el : Nat → va_E} {cnt : Nat} {M St We pl : Nat → Int32} {F T : Nat → Nat → Int32} (hn : 85 ≤ n) (hc : cnt ≤ 20) (h : X4At V ad el cnt M St We pl F T) : TT l V yX4_worthOfSheets wsX4_worthOfSheets { frames := 2, cells := 0, slots := 0, locals := 45 } n ad el [.ref (ad 0)] (QIr V n ad el (fun r => r = s_val F T cnt)) 0 0 := by
  refine TT.body (cc := cX4_worthOfSheets) (maxL := 3) (ret := (some .int)) (by decide) rfl (Nat.le_of_ble_eq_true rfl) ?_
  intro p e s m below meth c C hnm
  refine g_lv [0] (lv' := [(0, .ref (ad 0))]) rfl ?_
  obtain ⟨x1, x2, ⟨ta, tb, tM, tS, tW, tf, x3⟩, x4, ⟨g, x5, x6⟩, x7⟩ := id h
  obtain ⟨hM1, ⟨g2, hA3, hg4⟩, hp5⟩ := id x2
  refine g_iconst C (v := nI 0) dX4_worthOfSheets_0 (by decide) ?_
  refine g_istore_n C (lv' := [(1, .int (nI 0)), (0, .ref (ad 0))]) dX4_worthOfSheets_1 (by decide) rfl ?_
  refine g_iconst C (v := nI 0) dX4_worthOfSheets_2 (by decide) ?_
  refine g_istore_n C (lv' := [(2, .int (nI 0)), (1, .int (nI 0)), (0, .ref (ad 0))]) dX4_worthOfSheets_3 (by decide) rfl ?_
  refine g_lv [0, 1, 2] (lv' := [(2, .int (nI 0)), (1, .int (nI 0)), (0, .ref (ad 0))]) rfl ?_
  refine g_for cnt (fun (i : Nat) => [(2, .int (nI i)), (1, .int (s_sum (fun s => s_worths (F s) (T s)) i)), (0, .ref (ad 0))]) ?_ (fun i hi ih => ?_)
  · -- loop 4: its end
    refine g_iload_n C 0 rfl dX4_worthOfSheets_4 ?_
    refine g_aload_n C 2 rfl dX4_worthOfSheets_5 ?_
    refine g_getf C 0 (by omega) x1 rfl 4 (by decide) (fun w h => (List.mem_cons_of_mem _ (List.mem_append_left _ (List.mem_append_right _ h)))) (List.mem_of_getElem? (i := 1) rfl) rfl rfl dX4_worthOfSheets_6 ?_
    refine g_icmp_ge C (tgt := 30) dX4_worthOfSheets_9 (by decide) (fun c9 => ?_) (fun c9 => ?_)
    · -- 30
      have c9 : cnt ≤ cnt := (nI_leI (by omega) (by omega)).mp c9
      refine g_iload_n C 1 rfl dX4_worthOfSheets_30 ?_
      exact g_iret C rfl dX4_worthOfSheets_31 () rfl rfl rfl rfl (Nat.le_of_ble_eq_true rfl) (Nat.le_of_ble_eq_true rfl)
    · -- 12
      have c9 : cnt < cnt := Nat.lt_of_not_le (fun z => c9 ((nI_leI (by omega) (by omega)).mpr z))
      exact absurd c9 (by omega)
  · -- loop 4: its body
    refine g_iload_n C 0 rfl dX4_worthOfSheets_4 ?_
    refine g_aload_n C 2 rfl dX4_worthOfSheets_5 ?_
    refine g_getf C 0 (by omega) x1 rfl 4 (by decide) (fun w h => (List.mem_cons_of_mem _ (List.mem_append_left _ (List.mem_append_right _ h)))) (List.mem_of_getElem? (i := 1) rfl) rfl rfl dX4_worthOfSheets_6 ?_
    refine g_icmp_ge C (tgt := 30) dX4_worthOfSheets_9 (by decide) (fun c9 => ?_) (fun c9 => ?_)
    · -- 30
      have c9 : cnt ≤ i := (nI_leI (by omega) (by omega)).mp c9
      exact absurd c9 (by omega)
    · -- 12
      have c9 : i < cnt := Nat.lt_of_not_le (fun z => c9 ((nI_leI (by omega) (by omega)).mpr z))
      refine g_iload_n C 1 rfl dX4_worthOfSheets_12 ?_
      refine g_aload_n C 2 rfl dX4_worthOfSheets_13 ?_
      refine g_getf C 0 (by omega) x1 rfl 3 (by decide) (fun w h => (List.mem_cons_of_mem _ (List.mem_append_left _ (List.mem_append_right _ h)))) (List.mem_of_getElem? (i := 2) rfl) rfl rfl dX4_worthOfSheets_14 ?_
      refine g_iload_n C 0 rfl dX4_worthOfSheets_17 ?_
      refine g_aald C 24 (by omega) 4 rfl x5 i rfl (by omega) (by decide) (x6 i (by omega)) dX4_worthOfSheets_18 ?_
      obtain ⟨hs6, ha7, hb8⟩ := id (x7 i (by omega))
      refine g_calli C (r_V C (st := [.int (s_sum (fun s => s_worths (F s) (T s)) i)]) (c_X2_worth l V (by omega) hs6 ha7 hb8) (cwV 0 C.ts gX4_worthOfSheets_X2_worth rfl rfl rfl (by decide +kernel) ⟨(Nat.le_of_ble_eq_true rfl), (Nat.le_of_ble_eq_true rfl)⟩) (by omega) hs6 rfl rfl rfl (Nat.le_of_ble_eq_true rfl) dX4_worthOfSheets_19 ⟨(Nat.le_of_ble_eq_true rfl), (Nat.le_of_ble_eq_true rfl)⟩) (fun r u hu => ?_)
      subst hu
      refine g_iadd C (v := (s_sum (fun s => s_worths (F s) (T s)) i) + (s_worths ((F i)) ((T i)))) dX4_worthOfSheets_22 rfl ?_
      refine g_istore_n C (lv' := [(1, .int ((s_sum (fun s => s_worths (F s) (T s)) i) + (s_worths ((F i)) ((T i))))), (2, .int (nI i)), (0, .ref (ad 0))]) dX4_worthOfSheets_23 (by decide) rfl ?_
      refine g_iinc C 1 rfl (v := nI (i + 1)) (lv' := [(2, .int (nI (i + 1))), (1, .int ((s_sum (fun s => s_worths (F s) (T s)) i) + (s_worths ((F i)) ((T i))))), (0, .ref (ad 0))]) dX4_worthOfSheets_24 (nI_add _ _) (by decide) rfl ?_
      refine g_goto C (tgt := 4) dX4_worthOfSheets_27 (by decide) ?_
      refine g_lv [0, 1, 2] (lv' := [(2, .int (nI (i + 1))), (1, .int ((s_sum (fun s => s_worths (F s) (T s)) i) + (s_worths ((F i)) ((T i))))), (0, .ref (ad 0))]) rfl ?_
      exact ih

set_option maxHeartbeats 4000000 in
set_option maxRecDepth 100000 in
theorem c_X4_stampsWith (l : Launch) (V : gT) {n : Nat} {ad : Nat → Nat} {el : Nat → va_E} {cnt : Nat} {M St We pl : Nat → Int32} {F T : Nat → Nat → Int32} (hn : 85 ≤ n) (hc : cnt ≤ 20) (h : X4At V ad el cnt M St We pl F T) (x : Int32) : TT l V yX4_stampsWith wsX4_stampsWith { frames := 2, cells := 0, slots := 0, locals := 45 } n ad el [.ref (ad 0), .int x] (QIr V n ad el (fun r => r = s_with F T x cnt)) 0 0 := by
  refine TT.body (cc := cX4_stampsWith) (maxL := 4) (ret := (some .int)) (by decide) rfl (Nat.le_of_ble_eq_true rfl) ?_
  intro p e s m below meth c C hnm
  refine g_lv [0, 1] (lv' := [(0, .ref (ad 0)), (1, .int x)]) rfl ?_
  obtain ⟨x1, x2, ⟨ta, tb, tM, tS, tW, tf, x3⟩, x4, ⟨g, x5, x6⟩, x7⟩ := id h
  obtain ⟨hM1, ⟨g2, hA3, hg4⟩, hp5⟩ := id x2
  refine g_iconst C (v := nI 0) dX4_stampsWith_0 (by decide) ?_
  refine g_istore_n C (lv' := [(2, .int (nI 0)), (0, .ref (ad 0)), (1, .int x)]) dX4_stampsWith_1 (by decide) rfl ?_
  refine g_iconst C (v := nI 0) dX4_stampsWith_2 (by decide) ?_
  refine g_istore_n C (lv' := [(3, .int (nI 0)), (2, .int (nI 0)), (0, .ref (ad 0)), (1, .int x)]) dX4_stampsWith_3 (by decide) rfl ?_
  refine g_lv [0, 1, 2, 3] (lv' := [(3, .int (nI 0)), (2, .int (nI 0)), (0, .ref (ad 0)), (1, .int x)]) rfl ?_
  refine g_for cnt (fun (i : Nat) => [(3, .int (nI i)), (2, .int (s_sum (fun s => s_leftWith (F s) (T s) x) i)), (0, .ref (ad 0)), (1, .int x)]) ?_ (fun i hi ih => ?_)
  · -- loop 4: its end
    refine g_iload_n C 0 rfl dX4_stampsWith_4 ?_
    refine g_aload_n C 2 rfl dX4_stampsWith_5 ?_
    refine g_getf C 0 (by omega) x1 rfl 4 (by decide) (fun w h => (List.mem_cons_of_mem _ (List.mem_append_left _ (List.mem_append_right _ h)))) (List.mem_of_getElem? (i := 1) rfl) rfl rfl dX4_stampsWith_6 ?_
    refine g_icmp_ge C (tgt := 31) dX4_stampsWith_9 (by decide) (fun c9 => ?_) (fun c9 => ?_)
    · -- 31
      have c9 : cnt ≤ cnt := (nI_leI (by omega) (by omega)).mp c9
      refine g_iload_n C 1 rfl dX4_stampsWith_31 ?_
      exact g_iret C rfl dX4_stampsWith_32 () rfl rfl rfl rfl (Nat.le_of_ble_eq_true rfl) (Nat.le_of_ble_eq_true rfl)
    · -- 12
      have c9 : cnt < cnt := Nat.lt_of_not_le (fun z => c9 ((nI_leI (by omega) (by omega)).mpr z))
      exact absurd c9 (by omega)
  · -- loop 4: its body
    refine g_iload_n C 0 rfl dX4_stampsWith_4 ?_
    refine g_aload_n C 2 rfl dX4_stampsWith_5 ?_
    refine g_getf C 0 (by omega) x1 rfl 4 (by decide) (fun w h => (List.mem_cons_of_mem _ (List.mem_append_left _ (List.mem_append_right _ h)))) (List.mem_of_getElem? (i := 1) rfl) rfl rfl dX4_stampsWith_6 ?_
    refine g_icmp_ge C (tgt := 31) dX4_stampsWith_9 (by decide) (fun c9 => ?_) (fun c9 => ?_)
    · -- 31
      have c9 : cnt ≤ i := (nI_leI (by omega) (by omega)).mp c9
      exact absurd c9 (by omega)
    · -- 12
      have c9 : i < cnt := Nat.lt_of_not_le (fun z => c9 ((nI_leI (by omega) (by omega)).mpr z))
      refine g_iload_n C 1 rfl dX4_stampsWith_12 ?_
      refine g_aload_n C 2 rfl dX4_stampsWith_13 ?_
      refine g_getf C 0 (by omega) x1 rfl 3 (by decide) (fun w h => (List.mem_cons_of_mem _ (List.mem_append_left _ (List.mem_append_right _ h)))) (List.mem_of_getElem? (i := 2) rfl) rfl rfl dX4_stampsWith_14 ?_
      refine g_iload_n C 0 rfl dX4_stampsWith_17 ?_
      refine g_aald C 24 (by omega) 4 rfl x5 i rfl (by omega) (by decide) (x6 i (by omega)) dX4_stampsWith_18 ?_
      obtain ⟨hs6, ha7, hb8⟩ := id (x7 i (by omega))
      refine g_iload_n C 3 rfl dX4_stampsWith_19 ?_
      refine g_calli C (r_V C (st := [.int (s_sum (fun s => s_leftWith (F s) (T s) x) i)]) (c_X2_leftWith l V (by omega) hs6 ha7 hb8 x) (cwV 1 C.ts gX4_stampsWith_X2_leftWith rfl rfl rfl (by decide +kernel) ⟨(Nat.le_of_ble_eq_true rfl), (Nat.le_of_ble_eq_true rfl)⟩) (by omega) hs6 rfl rfl rfl (Nat.le_of_ble_eq_true rfl) dX4_stampsWith_20 ⟨(Nat.le_of_ble_eq_true rfl), (Nat.le_of_ble_eq_true rfl)⟩) (fun r u hu => ?_)
      subst hu
      refine g_iadd C (v := (s_sum (fun s => s_leftWith (F s) (T s) x) i) + (s_leftWith ((F i)) ((T i)) x)) dX4_stampsWith_23 rfl ?_
      refine g_istore_n C (lv' := [(2, .int ((s_sum (fun s => s_leftWith (F s) (T s) x) i) + (s_leftWith ((F i)) ((T i)) x))), (3, .int (nI i)), (0, .ref (ad 0)), (1, .int x)]) dX4_stampsWith_24 (by decide) rfl ?_
      refine g_iinc C 1 rfl (v := nI (i + 1)) (lv' := [(3, .int (nI (i + 1))), (2, .int ((s_sum (fun s => s_leftWith (F s) (T s) x) i) + (s_leftWith ((F i)) ((T i)) x))), (0, .ref (ad 0)), (1, .int x)]) dX4_stampsWith_25 (nI_add _ _) (by decide) rfl ?_
      refine g_goto C (tgt := 4) dX4_stampsWith_28 (by decide) ?_
      refine g_lv [0, 1, 2, 3] (lv' := [(3, .int (nI (i + 1))), (2, .int ((s_sum (fun s => s_leftWith (F s) (T s) x) i) + (s_leftWith ((F i)) ((T i)) x))), (0, .ref (ad 0)), (1, .int x)]) rfl ?_
      exact ih

set_option maxHeartbeats 4000000 in
set_option maxRecDepth 100000 in
theorem c_X4_countAnswer (l : Launch) (V : gT) {n : Nat} {ad : Nat → Nat} {el : Nat → va_E} {cnt : Nat} {M St We pl : Nat → Int32} {F T : Nat → Nat → Int32} (hn : 85 ≤ n) (hc : cnt ≤ 20) (h : X4At V ad el cnt M St We pl F T) (x : Int32) : TT l V yX4_countAnswer wsX4_countAnswer { frames := 3, cells := 0, slots := 0, locals := 67 } n ad el [.ref (ad 0), .int x] (QIr V n ad el (fun r => r = s_cnt cnt M St We pl F T x)) 0 0 := by
  refine TT.body (cc := cX4_countAnswer) (maxL := 2) (ret := (some .int)) (by decide) rfl (Nat.le_of_ble_eq_true rfl) ?_
  intro p e s m below meth c C hnm
  refine g_lv [0, 1] (lv' := [(0, .ref (ad 0)), (1, .int x)]) rfl ?_
  obtain ⟨x1, x2, ⟨ta, tb, tM, tS, tW, tf, x3⟩, x4, ⟨g, x5, x6⟩, x7⟩ := id h
  obtain ⟨hM1, ⟨g2, hA3, hg4⟩, hp5⟩ := id x2
  refine g_iload_n C 1 rfl dX4_countAnswer_0 ?_
  by_cases q0 : x = 0
  · -- case
    refine g_tableIn C (tgt := 52) (off := 51) dX4_countAnswer_1 (by rw [q0]; decide) (by rw [q0]; decide) (by rw [q0]; rfl) (by decide) ?_
    refine g_aload_n C 0 rfl dX4_countAnswer_52 ?_
    refine g_getf C 0 (by omega) x1 rfl 4 (by decide) (fun w h => (List.mem_cons_of_mem _ (List.mem_append_left _ (List.mem_append_left _ (List.mem_append_left _ (List.mem_append_right _ h)))))) (List.mem_of_getElem? (i := 1) rfl) rfl rfl dX4_countAnswer_53 ?_
    exact g_iret C rfl dX4_countAnswer_56 () rfl rfl rfl (by rw [s_cnt, if_pos q0]) (Nat.le_of_ble_eq_true rfl) (Nat.le_of_ble_eq_true rfl)
  by_cases q1 : x = 1
  · -- case
    refine g_tableIn C (tgt := 57) (off := 56) dX4_countAnswer_1 (by rw [q1]; decide) (by rw [q1]; decide) (by rw [q1]; rfl) (by decide) ?_
    refine g_aload_n C 0 rfl dX4_countAnswer_57 ?_
    refine g_getf C 0 (by omega) x1 rfl 0 (by decide) (fun w h => (List.mem_cons_of_mem _ (List.mem_append_left _ (List.mem_append_left _ (List.mem_append_left _ (List.mem_append_right _ h)))))) (List.mem_of_getElem? (i := 2) rfl) rfl rfl dX4_countAnswer_58 ?_
    refine g_getfN C 1 (by omega) hM1 rfl 1 (by decide) (fun w h => (List.mem_cons_of_mem _ (List.mem_append_left _ (List.mem_append_left _ (List.mem_append_right _ h))))) (List.mem_of_getElem? (i := 5) rfl) rfl rfl dX4_countAnswer_61 ?_
    exact g_iret C rfl dX4_countAnswer_64 () rfl rfl rfl (by rw [s_cnt, if_neg q0, if_pos q1]) (Nat.le_of_ble_eq_true rfl) (Nat.le_of_ble_eq_true rfl)
  by_cases q2 : x = 2
  · -- case
    refine g_tableIn C (tgt := 65) (off := 64) dX4_countAnswer_1 (by rw [q2]; decide) (by rw [q2]; decide) (by rw [q2]; rfl) (by decide) ?_
    refine g_aload_n C 0 rfl dX4_countAnswer_65 ?_
    refine g_getf C 0 (by omega) x1 rfl 0 (by decide) (fun w h => (List.mem_cons_of_mem _ (List.mem_append_left _ (List.mem_append_left _ (List.mem_append_left _ (List.mem_append_right _ h)))))) (List.mem_of_getElem? (i := 2) rfl) rfl rfl dX4_countAnswer_66 ?_
    refine g_getfN C 1 (by omega) hM1 rfl 2 (by decide) (fun w h => (List.mem_cons_of_mem _ (List.mem_append_left _ (List.mem_append_left _ (List.mem_append_right _ h))))) (List.mem_of_getElem? (i := 6) rfl) rfl rfl dX4_countAnswer_69 ?_
    exact g_iret C rfl dX4_countAnswer_72 () rfl rfl rfl (by rw [s_cnt, if_neg q0, if_neg q1, if_pos q2]) (Nat.le_of_ble_eq_true rfl) (Nat.le_of_ble_eq_true rfl)
  by_cases q3 : x = 3
  · -- case
    refine g_tableIn C (tgt := 73) (off := 72) dX4_countAnswer_1 (by rw [q3]; decide) (by rw [q3]; decide) (by rw [q3]; rfl) (by decide) ?_
    refine g_aload_n C 0 rfl dX4_countAnswer_73 ?_
    refine g_getf C 0 (by omega) x1 rfl 0 (by decide) (fun w h => (List.mem_cons_of_mem _ (List.mem_append_left _ (List.mem_append_left _ (List.mem_append_left _ (List.mem_append_right _ h)))))) (List.mem_of_getElem? (i := 2) rfl) rfl rfl dX4_countAnswer_74 ?_
    refine g_getfN C 1 (by omega) hM1 rfl 3 (by decide) (fun w h => (List.mem_cons_of_mem _ (List.mem_append_left _ (List.mem_append_left _ (List.mem_append_right _ h))))) (List.mem_of_getElem? (i := 7) rfl) rfl rfl dX4_countAnswer_77 ?_
    exact g_iret C rfl dX4_countAnswer_80 () rfl rfl rfl (by rw [s_cnt, if_neg q0, if_neg q1, if_neg q2, if_pos q3]) (Nat.le_of_ble_eq_true rfl) (Nat.le_of_ble_eq_true rfl)
  by_cases q4 : x = 4
  · -- case
    refine g_tableIn C (tgt := 81) (off := 80) dX4_countAnswer_1 (by rw [q4]; decide) (by rw [q4]; decide) (by rw [q4]; rfl) (by decide) ?_
    refine g_aload_n C 0 rfl dX4_countAnswer_81 ?_
    refine g_getf C 0 (by omega) x1 rfl 0 (by decide) (fun w h => (List.mem_cons_of_mem _ (List.mem_append_left _ (List.mem_append_left _ (List.mem_append_left _ (List.mem_append_right _ h)))))) (List.mem_of_getElem? (i := 2) rfl) rfl rfl dX4_countAnswer_82 ?_
    refine g_getfN C 1 (by omega) hM1 rfl 4 (by decide) (fun w h => (List.mem_cons_of_mem _ (List.mem_append_left _ (List.mem_append_left _ (List.mem_append_right _ h))))) (List.mem_of_getElem? (i := 9) rfl) rfl rfl dX4_countAnswer_85 ?_
    exact g_iret C rfl dX4_countAnswer_88 () rfl rfl rfl (by rw [s_cnt, if_neg q0, if_neg q1, if_neg q2, if_neg q3, if_pos q4]) (Nat.le_of_ble_eq_true rfl) (Nat.le_of_ble_eq_true rfl)
  by_cases q5 : x = 5
  · -- case
    refine g_tableIn C (tgt := 89) (off := 88) dX4_countAnswer_1 (by rw [q5]; decide) (by rw [q5]; decide) (by rw [q5]; rfl) (by decide) ?_
    refine g_aload_n C 0 rfl dX4_countAnswer_89 ?_
    refine g_getf C 0 (by omega) x1 rfl 0 (by decide) (fun w h => (List.mem_cons_of_mem _ (List.mem_append_left _ (List.mem_append_left _ (List.mem_append_left _ (List.mem_append_right _ h)))))) (List.mem_of_getElem? (i := 2) rfl) rfl rfl dX4_countAnswer_90 ?_
    refine g_getfN C 1 (by omega) hM1 rfl 6 (by decide) (fun w h => (List.mem_cons_of_mem _ (List.mem_append_left _ (List.mem_append_left _ (List.mem_append_right _ h))))) (List.mem_of_getElem? (i := 11) rfl) rfl rfl dX4_countAnswer_93 ?_
    exact g_iret C rfl dX4_countAnswer_96 () rfl rfl rfl (by rw [s_cnt, if_neg q0, if_neg q1, if_neg q2, if_neg q3, if_neg q4, if_pos q5]) (Nat.le_of_ble_eq_true rfl) (Nat.le_of_ble_eq_true rfl)
  by_cases q6 : x = 6
  · -- case
    refine g_tableIn C (tgt := 97) (off := 96) dX4_countAnswer_1 (by rw [q6]; decide) (by rw [q6]; decide) (by rw [q6]; rfl) (by decide) ?_
    refine g_aload_n C 0 rfl dX4_countAnswer_97 ?_
    refine g_getf C 0 (by omega) x1 rfl 0 (by decide) (fun w h => (List.mem_cons_of_mem _ (List.mem_append_left _ (List.mem_append_left _ (List.mem_append_left _ (List.mem_append_right _ h)))))) (List.mem_of_getElem? (i := 2) rfl) rfl rfl dX4_countAnswer_98 ?_
    refine g_getfN C 1 (by omega) hM1 rfl 5 (by decide) (fun w h => (List.mem_cons_of_mem _ (List.mem_append_left _ (List.mem_append_left _ (List.mem_append_right _ h))))) (List.mem_of_getElem? (i := 10) rfl) rfl rfl dX4_countAnswer_101 ?_
    exact g_iret C rfl dX4_countAnswer_104 () rfl rfl rfl (by rw [s_cnt, if_neg q0, if_neg q1, if_neg q2, if_neg q3, if_neg q4, if_neg q5, if_pos q6]) (Nat.le_of_ble_eq_true rfl) (Nat.le_of_ble_eq_true rfl)
  by_cases q7 : x = 7
  · -- case
    refine g_tableIn C (tgt := 105) (off := 104) dX4_countAnswer_1 (by rw [q7]; decide) (by rw [q7]; decide) (by rw [q7]; rfl) (by decide) ?_
    refine g_aload_n C 0 rfl dX4_countAnswer_105 ?_
    refine g_getf C 0 (by omega) x1 rfl 0 (by decide) (fun w h => (List.mem_cons_of_mem _ (List.mem_append_left _ (List.mem_append_left _ (List.mem_append_left _ (List.mem_append_right _ h)))))) (List.mem_of_getElem? (i := 2) rfl) rfl rfl dX4_countAnswer_106 ?_
    refine g_calli C (r_V C (st := []) (c_X0_brokenPins l V (by omega) ⟨hM1, ⟨_, hA3, fun i hi => (hg4 i hi)⟩, hp5⟩) (cwV 0 C.ts gX4_countAnswer_X0_brokenPins rfl rfl rfl (by decide +kernel) ⟨(Nat.le_of_ble_eq_true rfl), (Nat.le_of_ble_eq_true rfl)⟩) (by omega) hM1 rfl rfl rfl (Nat.le_of_ble_eq_true rfl) dX4_countAnswer_109 ⟨(Nat.le_of_ble_eq_true rfl), (Nat.le_of_ble_eq_true rfl)⟩) (fun r u hu => ?_)
    subst hu
    exact g_iret C rfl dX4_countAnswer_112 () rfl rfl rfl (by rw [s_cnt, if_neg q0, if_neg q1, if_neg q2, if_neg q3, if_neg q4, if_neg q5, if_neg q6, if_pos q7]) (Nat.le_of_ble_eq_true rfl) (Nat.le_of_ble_eq_true rfl)
  by_cases q8 : x = 8
  · -- case
    refine g_tableIn C (tgt := 113) (off := 112) dX4_countAnswer_1 (by rw [q8]; decide) (by rw [q8]; decide) (by rw [q8]; rfl) (by decide) ?_
    refine g_aload_n C 0 rfl dX4_countAnswer_113 ?_
    refine g_calli C (r_V C (st := []) (c_X4_invertedPlaces l V (by omega) (by omega) h) (cwV 0 C.ts gX4_countAnswer_X4_invertedPlaces rfl rfl rfl (by decide +kernel) ⟨(Nat.le_of_ble_eq_true rfl), (Nat.le_of_ble_eq_true rfl)⟩) (by omega) x1 rfl rfl rfl (Nat.le_of_ble_eq_true rfl) dX4_countAnswer_114 ⟨(Nat.le_of_ble_eq_true rfl), (Nat.le_of_ble_eq_true rfl)⟩) (fun r u hu => ?_)
    subst hu
    exact g_iret C rfl dX4_countAnswer_117 () rfl rfl rfl (by rw [s_cnt, if_neg q0, if_neg q1, if_neg q2, if_neg q3, if_neg q4, if_neg q5, if_neg q6, if_neg q7, if_pos q8]) (Nat.le_of_ble_eq_true rfl) (Nat.le_of_ble_eq_true rfl)
  have qq : x.toInt < 0 ∨ 8 < x.toInt := by
    have z0 : x.toInt ≠ 0 := fun z => q0 (Int32.toInt_inj.mp z)
    have z1 : x.toInt ≠ 1 := fun z => q1 (Int32.toInt_inj.mp z)
    have z2 : x.toInt ≠ 2 := fun z => q2 (Int32.toInt_inj.mp z)
    have z3 : x.toInt ≠ 3 := fun z => q3 (Int32.toInt_inj.mp z)
    have z4 : x.toInt ≠ 4 := fun z => q4 (Int32.toInt_inj.mp z)
    have z5 : x.toInt ≠ 5 := fun z => q5 (Int32.toInt_inj.mp z)
    have z6 : x.toInt ≠ 6 := fun z => q6 (Int32.toInt_inj.mp z)
    have z7 : x.toInt ≠ 7 := fun z => q7 (Int32.toInt_inj.mp z)
    have z8 : x.toInt ≠ 8 := fun z => q8 (Int32.toInt_inj.mp z)
    omega
  refine g_tableOut C (tgt := 118) dX4_countAnswer_1 qq (by decide) ?_
  refine g_aload_n C 0 rfl dX4_countAnswer_118 ?_
  refine g_calli C (r_V C (st := []) (c_X4_worthOfSheets l V (by omega) (by omega) h) (cwV 0 C.ts gX4_countAnswer_X4_worthOfSheets rfl rfl rfl (by decide +kernel) ⟨(Nat.le_of_ble_eq_true rfl), (Nat.le_of_ble_eq_true rfl)⟩) (by omega) x1 rfl rfl rfl (Nat.le_of_ble_eq_true rfl) dX4_countAnswer_119 ⟨(Nat.le_of_ble_eq_true rfl), (Nat.le_of_ble_eq_true rfl)⟩) (fun r u hu => ?_)
  subst hu
  exact g_iret C rfl dX4_countAnswer_122 () rfl rfl rfl (by rw [s_cnt, if_neg q0, if_neg q1, if_neg q2, if_neg q3, if_neg q4, if_neg q5, if_neg q6, if_neg q7, if_neg q8]) (Nat.le_of_ble_eq_true rfl) (Nat.le_of_ble_eq_true rfl)
