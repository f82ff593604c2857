/-! ===== the class's methods where nothing is thrown ===== -/
theorem if01_nar (q : Prop) (hq : Decidable q) : vp_nar .boolean (if q then 1 else 0) = if q then 1 else 0 := by
  by_cases h : q
  · rw [if_pos h]; rfl
  · rw [if_neg h]; rfl
theorem if01_nr (q : Prop) (hq : Decidable q) : narrow .boolean (.int (if q then 1 else 0)) = .int (if q then 1 else 0) := by
  by_cases h : q
  · rw [if_pos h]; rfl
  · rw [if_neg h]; rfl

set_option maxHeartbeats 4000000 in
set_option maxRecDepth 100000 in
theorem c_X4_setFeed (l : Launch) (V : gT) {n : Nat} {ad : Nat → Nat} {el : Nat → va_E} {cnt : Nat} {M St We pl : Nat → Int32} {F T : Nat → Nat → Int32} (hn : 85 ≤ n) (hc : cnt ≤ 20) (h : X4At V ad el cnt M St We pl F T) (x y : Int32) (hok : (10 ≤ x ∧ x ≤ 30) ∧ -9 ≤ y ∧ y ≤ 9) : TT l V yX4_setFeed wsX4_setFeed { frames := 6, cells := 0, slots := 0, locals := 90 } n ad el [.ref (ad 0), .int x, .int y] (QIw V n ad (fun r u => r = 100 * M 0 + M 1 ∧ X4At V ad u cnt (upd (upd M 0 x) 1 y) St We pl F T ∧ ∀ j, 85 ≤ j → u j = el j)) 0 0 := by
  refine TT.body (cc := cX4_setFeed) (maxL := 4) (ret := (some .int)) (by decide) rfl (Nat.le_of_ble_eq_true rfl) ?_
  intro p e s m below meth c C hnm
  refine g_lv [0, 1, 2] (lv' := [(0, .ref (ad 0)), (1, .int x), (2, .int y)]) rfl ?_
  obtain ⟨x1, x2, ⟨ta, tb, tM, tS, tW, tf, x3⟩, x4, ⟨g, x5, x6⟩, x7⟩ := id h
  obtain ⟨hM1, ⟨g2, hA3, hg4⟩, hp5⟩ := id x2
  refine g_iload_n C 1 rfl dX4_setFeed_0 ?_
  refine g_bipush C (v := nI 10) dX4_setFeed_1 (by decide) ?_
  refine g_bipush C (v := nI 30) dX4_setFeed_3 (by decide) ?_
  refine g_calli C (r_S C (st := []) (c_X4_isWithin l V x 10 30) (va_cwS 3 C.ts gX4_setFeed_X4_isWithin rfl rfl rfl (by decide +kernel) ⟨(Nat.le_of_ble_eq_true rfl), (Nat.le_of_ble_eq_true rfl)⟩) rfl rfl (Nat.le_of_ble_eq_true rfl) dX4_setFeed_5 ⟨(Nat.le_of_ble_eq_true rfl), (Nat.le_of_ble_eq_true rfl)⟩) (fun r u hu => ?_)
  subst hu
  refine g_if_eq C (tgt := 22) dX4_setFeed_8 (by decide) (fun c8 => ?_) (fun c8 => ?_)
  · -- 22
    exact absurd hok.1 (s_in_0 c8)
  · -- 11
    refine g_iload_n C 2 rfl dX4_setFeed_11 ?_
    refine g_bipush C (v := (-9)) dX4_setFeed_12 (by decide) ?_
    refine g_bipush C (v := nI 9) dX4_setFeed_14 (by decide) ?_
    refine g_calli C (r_S C (st := []) (c_X4_isWithin l V y ((-9)) 9) (va_cwS 3 C.ts gX4_setFeed_X4_isWithin rfl rfl rfl (by decide +kernel) ⟨(Nat.le_of_ble_eq_true rfl), (Nat.le_of_ble_eq_true rfl)⟩) rfl rfl (Nat.le_of_ble_eq_true rfl) dX4_setFeed_16 ⟨(Nat.le_of_ble_eq_true rfl), (Nat.le_of_ble_eq_true rfl)⟩) (fun r u hu => ?_)
    subst hu
    refine g_if_ne C (tgt := 32) dX4_setFeed_19 (by decide) (fun c19 => ?_) (fun c19 => ?_)
    · -- 32
      refine g_bipush C (v := nI 100) dX4_setFeed_32 (by decide) ?_
      refine g_aload_n C 0 rfl dX4_setFeed_34 ?_
      refine g_getf C 0 (by omega) x1 rfl 0 (by decide) (fun w h => (List.mem_cons_of_mem _ (List.mem_append_left _ (List.mem_append_left _ (List.mem_append_right _ h))))) (List.mem_of_getElem? (i := 3) rfl) rfl rfl dX4_setFeed_35 ?_
      refine g_getfN C 1 (by omega) hM1 rfl 1 (by decide) (fun w h => (List.mem_cons_of_mem _ (List.mem_append_left _ (List.mem_append_right _ h)))) (List.mem_of_getElem? (i := 5) rfl) rfl rfl dX4_setFeed_38 ?_
      refine g_imul C (v := 100 * (M 0)) dX4_setFeed_41 rfl ?_
      refine g_aload_n C 0 rfl dX4_setFeed_42 ?_
      refine g_getf C 0 (by omega) x1 rfl 0 (by decide) (fun w h => (List.mem_cons_of_mem _ (List.mem_append_left _ (List.mem_append_left _ (List.mem_append_right _ h))))) (List.mem_of_getElem? (i := 3) rfl) rfl rfl dX4_setFeed_43 ?_
      refine g_getfN C 1 (by omega) hM1 rfl 2 (by decide) (fun w h => (List.mem_cons_of_mem _ (List.mem_append_left _ (List.mem_append_right _ h)))) (List.mem_of_getElem? (i := 6) rfl) rfl rfl dX4_setFeed_46 ?_
      refine g_iadd C (v := (100 * (M 0)) + (M 1)) dX4_setFeed_49 rfl ?_
      refine g_istore_n C (lv' := [(3, .int ((100 * (M 0)) + (M 1))), (0, .ref (ad 0)), (1, .int x), (2, .int y)]) dX4_setFeed_50 (by decide) rfl ?_
      refine g_aload_n C 1 rfl dX4_setFeed_51 ?_
      refine g_getf C 0 (by omega) x1 rfl 0 (by decide) (fun w h => (List.mem_cons_of_mem _ (List.mem_append_left _ (List.mem_append_left _ (List.mem_append_right _ h))))) (List.mem_of_getElem? (i := 3) rfl) rfl rfl dX4_setFeed_52 ?_
      refine g_iload_n C 2 rfl dX4_setFeed_55 ?_
      refine g_putfN C 1 (by omega) hM1 rfl 1 (by decide) (fun w h => (List.mem_cons_of_mem _ (List.mem_append_left _ (List.mem_append_right _ h)))) tyX0 tyX0_ok nmX0 (List.mem_of_getElem? (i := 5) rfl) rfl rfl rfl rfl (Nat.le_of_ble_eq_true rfl) dX4_setFeed_56 (fun el6 e7 o8 => ?_)
      replace e7 : el6 1 = .inr (0, [.ref (ad 2), .int x, .int (M 1), .int (M 2), .int (M 3), .int (M 5), .int (M 4)]) := e7
      have m9 := (o8 0 (by omega)).trans x1
      have m10 := (o8 2 (by omega)).trans hA3
      have m11 := (o8 23 (by omega)).trans x4
      have m12 := (o8 24 (by omega)).trans x5
      have m13 : ∀ q, q < 7 → el6 (3 + q) = .inr (1, [.int (St q), .int (We q)]) := fun q hq => (o8 (3 + q) (by omega)).trans (hp5 q hq)
      have P14 := x3.keep (fun j h1 h2 => o8 j (by omega))
      have P15 : ∀ i, i < 20 → ShtAt V ad el6 (25 + 3 * i) (F i) (T i) := fun i hi => (x7 i hi).keep (fun j h1 h2 => o8 j (by omega))
      refine g_aload_n C 1 rfl dX4_setFeed_59 ?_
      refine g_getf C 0 (by omega) m9 rfl 0 (by decide) (fun w h => (List.mem_cons_of_mem _ (List.mem_append_left _ (List.mem_append_left _ (List.mem_append_right _ h))))) (List.mem_of_getElem? (i := 3) rfl) rfl rfl dX4_setFeed_60 ?_
      refine g_iload_n C 3 rfl dX4_setFeed_63 ?_
      refine g_putfN C 1 (by omega) e7 rfl 2 (by decide) (fun w h => (List.mem_cons_of_mem _ (List.mem_append_left _ (List.mem_append_right _ h)))) tyX0 tyX0_ok nmX0 (List.mem_of_getElem? (i := 6) rfl) rfl rfl rfl rfl (Nat.le_of_ble_eq_true rfl) dX4_setFeed_64 (fun el16 e17 o18 => ?_)
      replace e17 : el16 1 = .inr (0, [.ref (ad 2), .int x, .int y, .int (M 2), .int (M 3), .int (M 5), .int (M 4)]) := e17
      have m19 := (o18 0 (by omega)).trans m9
      have m20 := (o18 2 (by omega)).trans m10
      have m21 := (o18 23 (by omega)).trans m11
      have m22 := (o18 24 (by omega)).trans m12
      have m23 : ∀ q, q < 7 → el16 (3 + q) = .inr (1, [.int (St q), .int (We q)]) := fun q hq => (o18 (3 + q) (by omega)).trans (m13 q hq)
      have P24 := P14.keep (fun j h1 h2 => o18 j (by omega))
      have P25 : ∀ i, i < 20 → ShtAt V ad el16 (25 + 3 * i) (F i) (T i) := fun i hi => (P15 i hi).keep (fun j h1 h2 => o18 j (by omega))
      refine g_iload_n C 0 rfl dX4_setFeed_67 ?_
      exact g_iret C rfl dX4_setFeed_68 el16 rfl rfl rfl ⟨rfl, ⟨m19, ⟨e17, ⟨_, m20, fun i hi => (hg4 i hi)⟩, m23⟩, ⟨_, _, _, _, _, _, P24⟩, m21, ⟨_, m22, x6⟩, P25⟩, fun j hj => (o18 j (by omega)).trans ((o8 j (by omega)).trans (rfl))⟩ (Nat.le_of_ble_eq_true rfl) (Nat.le_of_ble_eq_true rfl)
    · -- 22
      exact absurd hok.2 (s_in_0 c19)

set_option maxHeartbeats 4000000 in
set_option maxRecDepth 100000 in
theorem c_X4_align (l : Launch) (V : gT) {n : Nat} {ad : Nat → Nat} {el : Nat → va_E} {cnt : Nat} {M St We pl : Nat → Int32} {F T : Nat → Nat → Int32} (hn : 85 ≤ n) (hc : cnt ≤ 20) (h : X4At V ad el cnt M St We pl F T) : TT l V yX4_align wsX4_align { frames := 0, cells := 0, slots := 0, locals := 0 } n ad el [.ref (ad 0)] (QIw V n ad (fun r u => r = M 2 ∧ X4At V ad u cnt (upd M 2 0) St We pl F T ∧ ∀ j, 85 ≤ j → u j = el j)) 0 0 := by
  refine TT.body (cc := cX4_align) (maxL := 2) (ret := (some .int)) (by decide) rfl (Nat.le_of_ble_eq_true rfl) ?_
  intro p e s m below meth c C hnm
  refine g_lv [0] (lv' := [(0, .ref (ad 0))]) rfl ?_
  obtain ⟨x1, x2, ⟨ta, tb, tM, tS, tW, tf, x3⟩, x4, ⟨g, x5, x6⟩, x7⟩ := id h
  obtain ⟨hM1, ⟨g2, hA3, hg4⟩, hp5⟩ := id x2
  refine g_aload_n C 0 rfl dX4_align_0 ?_
  refine g_getf C 0 (by omega) x1 rfl 0 (by decide) (fun w h => (List.mem_cons_of_mem _ (List.mem_append_left _ (List.mem_append_right _ h)))) (List.mem_of_getElem? (i := 1) rfl) rfl rfl dX4_align_1 ?_
  refine g_getfN C 1 (by omega) hM1 rfl 3 (by decide) (fun w h => (List.mem_cons_of_mem _ (List.mem_append_right _ h))) (List.mem_of_getElem? (i := 7) rfl) rfl rfl dX4_align_4 ?_
  refine g_istore_n C (lv' := [(1, .int (M 2)), (0, .ref (ad 0))]) dX4_align_7 (by decide) rfl ?_
  refine g_aload_n C 1 rfl dX4_align_8 ?_
  refine g_getf C 0 (by omega) x1 rfl 0 (by decide) (fun w h => (List.mem_cons_of_mem _ (List.mem_append_left _ (List.mem_append_right _ h)))) (List.mem_of_getElem? (i := 1) rfl) rfl rfl dX4_align_9 ?_
  refine g_iconst C (v := nI 0) dX4_align_12 (by decide) ?_
  refine g_putfN C 1 (by omega) hM1 rfl 3 (by decide) (fun w h => (List.mem_cons_of_mem _ (List.mem_append_right _ h))) tyX0 tyX0_ok nmX0 (List.mem_of_getElem? (i := 7) rfl) rfl rfl rfl rfl (Nat.le_of_ble_eq_true rfl) dX4_align_13 (fun el6 e7 o8 => ?_)
  replace e7 : el6 1 = .inr (0, [.ref (ad 2), .int (M 0), .int (M 1), .int (nI 0), .int (M 3), .int (M 5), .int (M 4)]) := e7
  have m9 := (o8 0 (by omega)).trans x1
  have m10 := (o8 2 (by omega)).trans hA3
  have m11 := (o8 23 (by omega)).trans x4
  have m12 := (o8 24 (by omega)).trans x5
  have m13 : ∀ q, q < 7 → el6 (3 + q) = .inr (1, [.int (St q), .int (We q)]) := fun q hq => (o8 (3 + q) (by omega)).trans (hp5 q hq)
  have P14 := x3.keep (fun j h1 h2 => o8 j (by omega))
  have P15 : ∀ i, i < 20 → ShtAt V ad el6 (25 + 3 * i) (F i) (T i) := fun i hi => (x7 i hi).keep (fun j h1 h2 => o8 j (by omega))
  refine g_iload_n C 0 rfl dX4_align_16 ?_
  exact g_iret C rfl dX4_align_17 el6 rfl rfl rfl ⟨rfl, ⟨m9, ⟨e7, ⟨_, m10, fun i hi => (hg4 i hi)⟩, m13⟩, ⟨_, _, _, _, _, _, P14⟩, m11, ⟨_, m12, x6⟩, P15⟩, fun j hj => (o8 j (by omega)).trans (rfl)⟩ (Nat.le_of_ble_eq_true rfl) (Nat.le_of_ble_eq_true rfl)

set_option maxHeartbeats 4000000 in
set_option maxRecDepth 100000 in
theorem c_X4_roll (l : Launch) (V : gT) {n : Nat} {ad : Nat → Nat} {el : Nat → va_E} {cnt : Nat} {M St We pl : Nat → Int32} {F T : Nat → Nat → Int32} (hn : 85 ≤ n) (hc : cnt ≤ 20) (h : X4At V ad el cnt M St We pl F T) (x y : Int32) (hok : (1 ≤ x ∧ x ≤ 400) ∧ 1 ≤ y ∧ y ≤ 9) : TT l V yX4_roll wsX4_roll { frames := 6, cells := 0, slots := 0, locals := 90 } n ad el [.ref (ad 0), .int x, .int y] (QIw V n ad (fun r u => r = M 3 ∧ X4At V ad u cnt (upd (upd (upd M 3 x) 5 0) 4 y) St We pl F T ∧ ∀ j, 85 ≤ j → u j = el j)) 0 0 := by
  refine TT.body (cc := cX4_roll) (maxL := 4) (ret := (some .int)) (by decide) rfl (Nat.le_of_ble_eq_true rfl) ?_
  intro p e s m below meth c C hnm
  refine g_lv [0, 1, 2] (lv' := [(0, .ref (ad 0)), (1, .int x), (2, .int y)]) rfl ?_
  obtain ⟨x1, x2, ⟨ta, tb, tM, tS, tW, tf, x3⟩, x4, ⟨g, x5, x6⟩, x7⟩ := id h
  obtain ⟨hM1, ⟨g2, hA3, hg4⟩, hp5⟩ := id x2
  refine g_iload_n C 1 rfl dX4_roll_0 ?_
  refine g_iconst C (v := nI 1) dX4_roll_1 (by decide) ?_
  refine g_sipush C (v := nI 400) dX4_roll_2 (by decide) ?_
  refine g_calli C (r_S C (st := []) (c_X4_isWithin l V x 1 400) (va_cwS 3 C.ts gX4_roll_X4_isWithin rfl rfl rfl (by decide +kernel) ⟨(Nat.le_of_ble_eq_true rfl), (Nat.le_of_ble_eq_true rfl)⟩) rfl rfl (Nat.le_of_ble_eq_true rfl) dX4_roll_5 ⟨(Nat.le_of_ble_eq_true rfl), (Nat.le_of_ble_eq_true rfl)⟩) (fun r u hu => ?_)
  subst hu
  refine g_if_eq C (tgt := 21) dX4_roll_8 (by decide) (fun c8 => ?_) (fun c8 => ?_)
  · -- 21
    exact absurd hok.1 (s_in_0 c8)
  · -- 11
    refine g_iload_n C 2 rfl dX4_roll_11 ?_
    refine g_iconst C (v := nI 1) dX4_roll_12 (by decide) ?_
    refine g_bipush C (v := nI 9) dX4_roll_13 (by decide) ?_
    refine g_calli C (r_S C (st := []) (c_X4_isWithin l V y 1 9) (va_cwS 3 C.ts gX4_roll_X4_isWithin rfl rfl rfl (by decide +kernel) ⟨(Nat.le_of_ble_eq_true rfl), (Nat.le_of_ble_eq_true rfl)⟩) rfl rfl (Nat.le_of_ble_eq_true rfl) dX4_roll_15 ⟨(Nat.le_of_ble_eq_true rfl), (Nat.le_of_ble_eq_true rfl)⟩) (fun r u hu => ?_)
    subst hu
    refine g_if_ne C (tgt := 31) dX4_roll_18 (by decide) (fun c18 => ?_) (fun c18 => ?_)
    · -- 31
      refine g_aload_n C 0 rfl dX4_roll_31 ?_
      refine g_getf C 0 (by omega) x1 rfl 0 (by decide) (fun w h => (List.mem_cons_of_mem _ (List.mem_append_left _ (List.mem_append_left _ (List.mem_append_right _ h))))) (List.mem_of_getElem? (i := 3) rfl) rfl rfl dX4_roll_32 ?_
      refine g_getfN C 1 (by omega) hM1 rfl 4 (by decide) (fun w h => (List.mem_cons_of_mem _ (List.mem_append_left _ (List.mem_append_right _ h)))) (List.mem_of_getElem? (i := 9) rfl) rfl rfl dX4_roll_35 ?_
      refine g_istore_n C (lv' := [(3, .int (M 3)), (0, .ref (ad 0)), (1, .int x), (2, .int y)]) dX4_roll_38 (by decide) rfl ?_
      refine g_aload_n C 1 rfl dX4_roll_39 ?_
      refine g_getf C 0 (by omega) x1 rfl 0 (by decide) (fun w h => (List.mem_cons_of_mem _ (List.mem_append_left _ (List.mem_append_left _ (List.mem_append_right _ h))))) (List.mem_of_getElem? (i := 3) rfl) rfl rfl dX4_roll_40 ?_
      refine g_iload_n C 2 rfl dX4_roll_43 ?_
      refine g_putfN C 1 (by omega) hM1 rfl 4 (by decide) (fun w h => (List.mem_cons_of_mem _ (List.mem_append_left _ (List.mem_append_right _ h)))) tyX0 tyX0_ok nmX0 (List.mem_of_getElem? (i := 9) rfl) rfl rfl rfl rfl (Nat.le_of_ble_eq_true rfl) dX4_roll_44 (fun el6 e7 o8 => ?_)
      replace e7 : el6 1 = .inr (0, [.ref (ad 2), .int (M 0), .int (M 1), .int (M 2), .int x, .int (M 5), .int (M 4)]) := e7
      have m9 := (o8 0 (by omega)).trans x1
      have m10 := (o8 2 (by omega)).trans hA3
      have m11 := (o8 23 (by omega)).trans x4
      have m12 := (o8 24 (by omega)).trans x5
      have m13 : ∀ q, q < 7 → el6 (3 + q) = .inr (1, [.int (St q), .int (We q)]) := fun q hq => (o8 (3 + q) (by omega)).trans (hp5 q hq)
      have P14 := x3.keep (fun j h1 h2 => o8 j (by omega))
      have P15 : ∀ i, i < 20 → ShtAt V ad el6 (25 + 3 * i) (F i) (T i) := fun i hi => (x7 i hi).keep (fun j h1 h2 => o8 j (by omega))
      refine g_aload_n C 1 rfl dX4_roll_47 ?_
      refine g_getf C 0 (by omega) m9 rfl 0 (by decide) (fun w h => (List.mem_cons_of_mem _ (List.mem_append_left _ (List.mem_append_left _ (List.mem_append_right _ h))))) (List.mem_of_getElem? (i := 3) rfl) rfl rfl dX4_roll_48 ?_
      refine g_iconst C (v := nI 0) dX4_roll_51 (by decide) ?_
      refine g_putfN C 1 (by omega) e7 rfl 5 (by decide) (fun w h => (List.mem_cons_of_mem _ (List.mem_append_left _ (List.mem_append_right _ h)))) tyX0 tyX0_ok nmX0 (List.mem_of_getElem? (i := 10) rfl) rfl rfl rfl rfl (Nat.le_of_ble_eq_true rfl) dX4_roll_52 (fun el16 e17 o18 => ?_)
      replace e17 : el16 1 = .inr (0, [.ref (ad 2), .int (M 0), .int (M 1), .int (M 2), .int x, .int (nI 0), .int (M 4)]) := e17
      have m19 := (o18 0 (by omega)).trans m9
      have m20 := (o18 2 (by omega)).trans m10
      have m21 := (o18 23 (by omega)).trans m11
      have m22 := (o18 24 (by omega)).trans m12
      have m23 : ∀ q, q < 7 → el16 (3 + q) = .inr (1, [.int (St q), .int (We q)]) := fun q hq => (o18 (3 + q) (by omega)).trans (m13 q hq)
      have P24 := P14.keep (fun j h1 h2 => o18 j (by omega))
      have P25 : ∀ i, i < 20 → ShtAt V ad el16 (25 + 3 * i) (F i) (T i) := fun i hi => (P15 i hi).keep (fun j h1 h2 => o18 j (by omega))
      refine g_aload_n C 1 rfl dX4_roll_55 ?_
      refine g_getf C 0 (by omega) m19 rfl 0 (by decide) (fun w h => (List.mem_cons_of_mem _ (List.mem_append_left _ (List.mem_append_left _ (List.mem_append_right _ h))))) (List.mem_of_getElem? (i := 3) rfl) rfl rfl dX4_roll_56 ?_
      refine g_iload_n C 3 rfl dX4_roll_59 ?_
      refine g_putfN C 1 (by omega) e17 rfl 6 (by decide) (fun w h => (List.mem_cons_of_mem _ (List.mem_append_left _ (List.mem_append_right _ h)))) tyX0 tyX0_ok nmX0 (List.mem_of_getElem? (i := 11) rfl) rfl rfl rfl rfl (Nat.le_of_ble_eq_true rfl) dX4_roll_60 (fun el26 e27 o28 => ?_)
      replace e27 : el26 1 = .inr (0, [.ref (ad 2), .int (M 0), .int (M 1), .int (M 2), .int x, .int (nI 0), .int y]) := e27
      have m29 := (o28 0 (by omega)).trans m19
      have m30 := (o28 2 (by omega)).trans m20
      have m31 := (o28 23 (by omega)).trans m21
      have m32 := (o28 24 (by omega)).trans m22
      have m33 : ∀ q, q < 7 → el26 (3 + q) = .inr (1, [.int (St q), .int (We q)]) := fun q hq => (o28 (3 + q) (by omega)).trans (m23 q hq)
      have P34 := P24.keep (fun j h1 h2 => o28 j (by omega))
      have P35 : ∀ i, i < 20 → ShtAt V ad el26 (25 + 3 * i) (F i) (T i) := fun i hi => (P25 i hi).keep (fun j h1 h2 => o28 j (by omega))
      refine g_iload_n C 0 rfl dX4_roll_63 ?_
      exact g_iret C rfl dX4_roll_64 el26 rfl rfl rfl ⟨rfl, ⟨m29, ⟨e27, ⟨_, m30, fun i hi => (hg4 i hi)⟩, m33⟩, ⟨_, _, _, _, _, _, P34⟩, m31, ⟨_, m32, x6⟩, P35⟩, fun j hj => (o28 j (by omega)).trans ((o18 j (by omega)).trans ((o8 j (by omega)).trans (rfl)))⟩ (Nat.le_of_ble_eq_true rfl) (Nat.le_of_ble_eq_true rfl)
    · -- 21
      exact absurd hok.2 (s_in_0 c18)

set_option maxHeartbeats 4000000 in
set_option maxRecDepth 100000 in
theorem c_X4_fit (l : Launch) (V : gT) {n : Nat} {ad : Nat → Nat} {el : Nat → va_E} {cnt : Nat} {M St We pl : Nat → Int32} {F T : Nat → Nat → Int32} (hn : 85 ≤ n) (hc : cnt ≤ 20) (h : X4At V ad el cnt M St We pl F T) (i : Nat) (hi : i < 7) (y : Int32) (hok : 1 ≤ y ∧ y ≤ 500) : TT l V yX4_fit wsX4_fit { frames := 7, cells := 0, slots := 0, locals := 110 } n ad el [.ref (ad 0), .int (nI i), .int y] (QIw V n ad (fun r u => r = We i ∧ X4At V ad u cnt M (upd St i y) (upd We i 0) pl F T ∧ ∀ j, 85 ≤ j → u j = el j)) 0 0 := by
  refine TT.body (cc := cX4_fit) (maxL := 5) (ret := (some .int)) (by decide) rfl (Nat.le_of_ble_eq_true rfl) ?_
  intro p e s m below meth c C hnm
  refine g_lv [0, 1, 2] (lv' := [(0, .ref (ad 0)), (1, .int (nI i)), (2, .int y)]) rfl ?_
  obtain ⟨x1, x2, ⟨ta, tb, tM, tS, tW, tf, x3⟩, x4, ⟨g, x5, x6⟩, x7⟩ := id h
  obtain ⟨hM1, ⟨g2, hA3, hg4⟩, hp5⟩ := id x2
  refine g_iload_n C 1 rfl dX4_fit_0 ?_
  refine g_callv C (r_S C (st := []) (c_X4_checkPin l V (nI i) (in_le (N := 6) (by omega) (by omega))) (va_cwS 1 C.ts gX4_fit_X4_checkPin rfl rfl rfl (by decide +kernel) ⟨(Nat.le_of_ble_eq_true rfl), (Nat.le_of_ble_eq_true rfl)⟩) rfl rfl (Nat.le_of_ble_eq_true rfl) dX4_fit_1 ⟨(Nat.le_of_ble_eq_true rfl), (Nat.le_of_ble_eq_true rfl)⟩) (fun u hu => ?_)
  refine g_iload_n C 2 rfl dX4_fit_4 ?_
  refine g_iconst C (v := nI 1) dX4_fit_5 (by decide) ?_
  refine g_sipush C (v := nI 500) dX4_fit_6 (by decide) ?_
  refine g_calli C (r_S C (st := []) (c_X4_isWithin l V y 1 500) (va_cwS 3 C.ts gX4_fit_X4_isWithin rfl rfl rfl (by decide +kernel) ⟨(Nat.le_of_ble_eq_true rfl), (Nat.le_of_ble_eq_true rfl)⟩) rfl rfl (Nat.le_of_ble_eq_true rfl) dX4_fit_9 ⟨(Nat.le_of_ble_eq_true rfl), (Nat.le_of_ble_eq_true rfl)⟩) (fun r u hu => ?_)
  subst hu
  refine g_if_ne C (tgt := 25) dX4_fit_12 (by decide) (fun c12 => ?_) (fun c12 => ?_)
  · -- 25
    refine g_aload_n C 0 rfl dX4_fit_25 ?_
    refine g_getf C 0 (by omega) x1 rfl 0 (by decide) (fun w h => (List.mem_cons_of_mem _ (List.mem_append_left _ (List.mem_append_left _ (List.mem_append_left _ (List.mem_append_left _ (List.mem_append_right _ h))))))) (List.mem_of_getElem? (i := 3) rfl) rfl rfl dX4_fit_26 ?_
    refine g_getfN C 1 (by omega) hM1 rfl 0 (by decide) (fun w h => (List.mem_cons_of_mem _ (List.mem_append_left _ (List.mem_append_left _ (List.mem_append_left _ (List.mem_append_right _ h)))))) (List.mem_of_getElem? (i := 3) rfl) rfl rfl dX4_fit_29 ?_
    refine g_iload_n C 1 rfl dX4_fit_32 ?_
    refine g_aald C 2 (by omega) 3 rfl hA3 i rfl (by omega) (by decide) (hg4 i (by omega)) dX4_fit_33 ?_
    refine g_astore_n C (lv' := [(3, .ref (ad (3 + i))), (0, .ref (ad 0)), (1, .int (nI i)), (2, .int y)]) dX4_fit_34 (by decide) rfl ?_
    have hpx := hp5 i hi
    have hpf : ∀ q, q < 7 → q ≠ i → el (3 + q) = .inr (1, [.int (St q), .int (We q)]) := fun q hq _ => hp5 q hq
    refine g_aload_n C 0 rfl dX4_fit_35 ?_
    refine g_getfN C (3 + i) (by omega) hpx rfl 1 (by decide) (fun w h => (List.mem_cons_of_mem _ (List.mem_append_left _ (List.mem_append_left _ (List.mem_append_right _ h))))) (List.mem_of_getElem? (i := 2) rfl) rfl rfl dX4_fit_36 ?_
    refine g_istore C (lv' := [(4, .int (We i)), (3, .ref (ad (3 + i))), (0, .ref (ad 0)), (1, .int (nI i)), (2, .int y)]) dX4_fit_39 (by decide) rfl ?_
    refine g_aload_n C 1 rfl dX4_fit_41 ?_
    refine g_iload_n C 4 rfl dX4_fit_42 ?_
    refine g_putfN C (3 + i) (by omega) hpx rfl 0 (by decide) (fun w h => (List.mem_cons_of_mem _ (List.mem_append_left _ (List.mem_append_left _ (List.mem_append_right _ h))))) tyX1 tyX1_ok nmX1 (List.mem_of_getElem? (i := 1) rfl) rfl rfl rfl rfl (Nat.le_of_ble_eq_true rfl) dX4_fit_43 (fun el6 e7 o8 => ?_)
    replace e7 : el6 (3 + i) = .inr (1, [.int y, .int (We i)]) := e7
    have m9 := (o8 0 (by omega)).trans x1
    have m10 := (o8 1 (by omega)).trans hM1
    have m11 := (o8 2 (by omega)).trans hA3
    have m12 := (o8 23 (by omega)).trans x4
    have m13 := (o8 24 (by omega)).trans x5
    have m14 : ∀ q, q < 7 → q ≠ i → el6 (3 + q) = .inr (1, [.int (St q), .int (We q)]) := fun q hq hne => (o8 (3 + q) (by omega)).trans (hpf q hq hne)
    have P15 := x3.keep (fun j h1 h2 => o8 j (by omega))
    have P16 : ∀ i, i < 20 → ShtAt V ad el6 (25 + 3 * i) (F i) (T i) := fun i hi => (x7 i hi).keep (fun j h1 h2 => o8 j (by omega))
    refine g_aload_n C 1 rfl dX4_fit_46 ?_
    refine g_iconst C (v := nI 0) dX4_fit_47 (by decide) ?_
    refine g_putfN C (3 + i) (by omega) e7 rfl 1 (by decide) (fun w h => (List.mem_cons_of_mem _ (List.mem_append_left _ (List.mem_append_left _ (List.mem_append_right _ h))))) tyX1 tyX1_ok nmX1 (List.mem_of_getElem? (i := 2) rfl) rfl rfl rfl rfl (Nat.le_of_ble_eq_true rfl) dX4_fit_48 (fun el17 e18 o19 => ?_)
    replace e18 : el17 (3 + i) = .inr (1, [.int y, .int (nI 0)]) := e18
    have m20 := (o19 0 (by omega)).trans m9
    have m21 := (o19 1 (by omega)).trans m10
    have m22 := (o19 2 (by omega)).trans m11
    have m23 := (o19 23 (by omega)).trans m12
    have m24 := (o19 24 (by omega)).trans m13
    have m25 : ∀ q, q < 7 → q ≠ i → el17 (3 + q) = .inr (1, [.int (St q), .int (We q)]) := fun q hq hne => (o19 (3 + q) (by omega)).trans (m14 q hq hne)
    have P26 := P15.keep (fun j h1 h2 => o19 j (by omega))
    have P27 : ∀ i, i < 20 → ShtAt V ad el17 (25 + 3 * i) (F i) (T i) := fun i hi => (P16 i hi).keep (fun j h1 h2 => o19 j (by omega))
    refine g_iload C 0 rfl dX4_fit_51 ?_
    exact g_iret C rfl dX4_fit_53 el17 rfl rfl rfl ⟨rfl, ⟨m20, ⟨m21, ⟨_, m22, fun i hi => (hg4 i hi)⟩, (fun q hq => by
        by_cases e : q = i
        · subst e; rw [pk_us, pk_us]; exact e18
        · rw [pk_un e, pk_un e]; exact m25 q hq e)⟩, ⟨_, _, _, _, _, _, P26⟩, m23, ⟨_, m24, x6⟩, P27⟩, fun j hj => (o19 j (by omega)).trans ((o8 j (by omega)).trans (rfl))⟩ (Nat.le_of_ble_eq_true rfl) (Nat.le_of_ble_eq_true rfl)
  · -- 15
    exact absurd hok (s_in_0 c12)

set_option maxHeartbeats 4000000 in
set_option maxRecDepth 100000 in
theorem c_X4_turn (l : Launch) (V : gT) {n : Nat} {ad : Nat → Nat} {el : Nat → va_E} {cnt : Nat} {M St We pl : Nat → Int32} {F T : Nat → Nat → Int32} (hn : 85 ≤ n) (hc : cnt ≤ 20) (h : X4At V ad el cnt M St We pl F T) (r : Nat) (hr : r < 5) (cl : Nat) (hcl : cl < 6) : TT l V yX4_turn wsX4_turn { frames := 7, cells := 0, slots := 0, locals := 111 } n ad el [.ref (ad 0), .int (nI r), .int (nI cl)] (QIw V n ad (fun z u => z = (if pl (6 * r + cl) = 0 then 1 else 0) ∧ X4At V ad u cnt M St We (upd pl (6 * r + cl) (if pl (6 * r + cl) = 0 then 1 else 0)) F T ∧ ∀ j, 85 ≤ j → u j = el j)) 0 0 := by
  refine TT.body (cc := cX4_turn) (maxL := 4) (ret := (some .boolean)) (by decide) rfl (Nat.le_of_ble_eq_true rfl) ?_
  intro p e s m below meth c C hnm
  refine g_lv [0, 1, 2] (lv' := [(0, .ref (ad 0)), (1, .int (nI r)), (2, .int (nI cl))]) rfl ?_
  obtain ⟨x1, x2, ⟨ta, tb, tM, tS, tW, tf, x3⟩, x4, ⟨g, x5, x6⟩, x7⟩ := id h
  obtain ⟨hM1, ⟨g2, hA3, hg4⟩, hp5⟩ := id x2
  refine g_iload_n C 1 rfl dX4_turn_0 ?_
  refine g_iload_n C 2 rfl dX4_turn_1 ?_
  refine g_callv C (r_S C (st := []) (c_X4_checkPlace l V (nI r) (nI cl) ⟨in_le (N := 4) (by omega) (by omega), in_le (N := 5) (by omega) (by omega)⟩) (va_cwS 2 C.ts gX4_turn_X4_checkPlace rfl rfl rfl (by decide +kernel) ⟨(Nat.le_of_ble_eq_true rfl), (Nat.le_of_ble_eq_true rfl)⟩) rfl rfl (Nat.le_of_ble_eq_true rfl) dX4_turn_2 ⟨(Nat.le_of_ble_eq_true rfl), (Nat.le_of_ble_eq_true rfl)⟩) (fun u hu => ?_)
  refine g_bipush C (v := nI 6) dX4_turn_5 (by decide) ?_
  refine g_iload_n C 1 rfl dX4_turn_7 ?_
  refine g_imul C (v := nI (6 * r)) dX4_turn_8 (pk_mul _ _) ?_
  refine g_iload_n C 2 rfl dX4_turn_9 ?_
  refine g_iadd C (v := nI ((6 * r) + cl)) dX4_turn_10 (nI_add _ _) ?_
  refine g_istore_n C (lv' := [(3, .int (nI ((6 * r) + cl))), (0, .ref (ad 0)), (1, .int (nI r)), (2, .int (nI cl))]) dX4_turn_11 (by decide) rfl ?_
  refine g_aload_n C 1 rfl dX4_turn_12 ?_
  refine g_getf C 0 (by omega) x1 rfl 2 (by decide) (fun w h => (List.mem_cons_of_mem _ (List.mem_append_left _ (List.mem_append_right _ h)))) (List.mem_of_getElem? (i := 1) rfl) rfl rfl dX4_turn_13 ?_
  refine g_iload_n C 0 rfl dX4_turn_16 ?_
  refine g_aload_n C 1 rfl dX4_turn_17 ?_
  refine g_getf C 0 (by omega) x1 rfl 2 (by decide) (fun w h => (List.mem_cons_of_mem _ (List.mem_append_left _ (List.mem_append_right _ h)))) (List.mem_of_getElem? (i := 1) rfl) rfl rfl dX4_turn_18 ?_
  refine g_iload_n C 0 rfl dX4_turn_21 ?_
  refine g_zald C 23 (by omega) x4 ((6 * r) + cl) rfl (by omega) (by decide) dX4_turn_22 ?_
  refine g_via (fun v : Int32 => v = if pl (6 * r + cl) = 0 then 1 else 0) 31 (fun _ => [(3, .int (nI ((6 * r) + cl))), (0, .ref (ad 0)), (1, .int (nI r)), (2, .int (nI cl))]) (fun v => .int v :: [.int (nI ((6 * r) + cl)), .ref (ad 23)]) (fun v hv => ?_) (fun J => ?_)
  · -- join
    subst hv
    refine g_zast C 23 (by omega) x4 ((6 * r) + cl) rfl (by omega) (by decide) (if01_nar _ _) dX4_turn_31 (fun el6 e7 o8 => ?_)
    have m9 := (o8 0 (by omega)).trans x1
    have m10 := (o8 1 (by omega)).trans hM1
    have m11 := (o8 2 (by omega)).trans hA3
    have m12 := (o8 24 (by omega)).trans x5
    have m13 : ∀ q, q < 7 → el6 (3 + q) = .inr (1, [.int (St q), .int (We q)]) := fun q hq => (o8 (3 + q) (by omega)).trans (hp5 q hq)
    have P14 := x3.keep (fun j h1 h2 => o8 j (by omega))
    have P15 : ∀ i, i < 20 → ShtAt V ad el6 (25 + 3 * i) (F i) (T i) := fun i hi => (x7 i hi).keep (fun j h1 h2 => o8 j (by omega))
    refine g_aload_n C 1 rfl dX4_turn_32 ?_
    refine g_getf C 0 (by omega) m9 rfl 2 (by decide) (fun w h => (List.mem_cons_of_mem _ (List.mem_append_left _ (List.mem_append_right _ h)))) (List.mem_of_getElem? (i := 1) rfl) rfl rfl dX4_turn_33 ?_
    refine g_iload_n C 0 rfl dX4_turn_36 ?_
    refine g_zald C 23 (by omega) e7 ((6 * r) + cl) rfl (by omega) (by decide) dX4_turn_37 ?_
    exact g_zret C rfl (by rw [pk_us]; exact if01_nr _ _) dX4_turn_38 el6 rfl rfl rfl ⟨pk_us, ⟨m9, ⟨m10, ⟨_, m11, fun i hi => (hg4 i hi)⟩, m13⟩, ⟨_, _, _, _, _, _, P14⟩, e7, ⟨_, m12, x6⟩, P15⟩, fun j hj => (o8 j (by omega)).trans (rfl)⟩ (Nat.le_of_ble_eq_true rfl) (Nat.le_of_ble_eq_true rfl)
  · -- ways
    refine g_if_ne C (tgt := 30) dX4_turn_23 (by decide) (fun c23 => ?_) (fun c23 => ?_)
    · -- 30
      refine g_iconst C (v := nI 0) dX4_turn_30 (by decide) ?_
      exact J _ ((if_neg c23).symm)
    · -- 26
      refine g_iconst C (v := nI 1) dX4_turn_26 (by decide) ?_
      refine g_goto C (tgt := 31) dX4_turn_27 (by decide) ?_
      exact J _ ((if_pos c23).symm)

set_option maxHeartbeats 4000000 in
set_option maxRecDepth 100000 in
theorem c_X4_run (l : Launch) (V : gT) {n : Nat} {ad : Nat → Nat} {el : Nat → va_E} {cnt : Nat} {M St We pl : Nat → Int32} {F T : Nat → Nat → Int32} (hn : 85 ≤ n) (hc : cnt ≤ 20) (h : X4At V ad el cnt M St We pl F T) (hok : cnt < 20 ∧ 5 ≤ M 3) : TT l V yX4_run wsX4_run { frames := 6, cells := 0, slots := 0, locals := 92 } n ad el [.ref (ad 0)] (QIw V n ad (fun r u => r = nI cnt ∧ (∃ f1 : Nat → Int32, (∀ j, j < 30 → f1 j = s_fault M St We pl j) ∧ X4At V ad u (cnt + 1) (s_end M) St (s_W St We 5) pl (va_up F cnt f1) T) ∧ ∀ j, 85 ≤ j → u j = el j)) 0 0 := by
  refine TT.body (cc := cX4_run) (maxL := 1) (ret := (some .int)) (by decide) rfl (Nat.le_of_ble_eq_true rfl) ?_
  intro p e s m below meth c C hnm
  refine g_lv [0] (lv' := [(0, .ref (ad 0))]) rfl ?_
  obtain ⟨x1, x2, ⟨ta, tb, tM, tS, tW, tf, x3⟩, x4, ⟨g, x5, x6⟩, x7⟩ := id h
  obtain ⟨hM1, ⟨g2, hA3, hg4⟩, hp5⟩ := id x2
  refine g_aload_n C 0 rfl dX4_run_0 ?_
  refine g_getf C 0 (by omega) x1 rfl 4 (by decide) (fun w h => (List.mem_cons_of_mem _ (List.mem_append_left _ (List.mem_append_left _ (List.mem_append_left _ (List.mem_append_left _ (List.mem_append_right _ h))))))) (List.mem_of_getElem? (i := 3) rfl) rfl rfl dX4_run_1 ?_
  refine g_bipush C (v := nI 20) dX4_run_4 (by decide) ?_
  refine g_icmp_ge C (tgt := 20) dX4_run_6 (by decide) (fun c6 => ?_) (fun c6 => ?_)
  · -- 20
    have c6 : 20 ≤ cnt := (nI_leI (by omega) (by omega)).mp c6
    exact absurd hok.1 (by omega)
  · -- 9
    have c6 : cnt < 20 := Nat.lt_of_not_le (fun z => c6 ((nI_leI (by omega) (by omega)).mpr z))
    refine g_aload_n C 0 rfl dX4_run_9 ?_
    refine g_getf C 0 (by omega) x1 rfl 0 (by decide) (fun w h => (List.mem_cons_of_mem _ (List.mem_append_left _ (List.mem_append_left _ (List.mem_append_left _ (List.mem_append_left _ (List.mem_append_right _ h))))))) (List.mem_of_getElem? (i := 4) rfl) rfl rfl dX4_run_10 ?_
    refine g_getfN C 1 (by omega) hM1 rfl 4 (by decide) (fun w h => (List.mem_cons_of_mem _ (List.mem_append_left _ (List.mem_append_left _ (List.mem_append_left _ (List.mem_append_right _ h)))))) (List.mem_of_getElem? (i := 9) rfl) rfl rfl dX4_run_13 ?_
    refine g_iconst C (v := nI 5) dX4_run_16 (by decide) ?_
    refine g_icmp_ge C (tgt := 30) dX4_run_17 (by decide) (fun c17 => ?_) (fun c17 => ?_)
    · -- 30
      refine g_aload_n C 0 rfl dX4_run_30 ?_
      refine g_getf C 0 (by omega) x1 rfl 0 (by decide) (fun w h => (List.mem_cons_of_mem _ (List.mem_append_left _ (List.mem_append_left _ (List.mem_append_left _ (List.mem_append_left _ (List.mem_append_right _ h))))))) (List.mem_of_getElem? (i := 4) rfl) rfl rfl dX4_run_31 ?_
      refine g_aload_n C 0 rfl dX4_run_34 ?_
      refine g_getf C 0 (by omega) x1 rfl 2 (by decide) (fun w h => (List.mem_cons_of_mem _ (List.mem_append_left _ (List.mem_append_left _ (List.mem_append_left _ (List.mem_append_left _ (List.mem_append_right _ h))))))) (List.mem_of_getElem? (i := 5) rfl) rfl rfl dX4_run_35 ?_
      refine g_aload_n C 0 rfl dX4_run_38 ?_
      refine g_getf C 0 (by omega) x1 rfl 3 (by decide) (fun w h => (List.mem_cons_of_mem _ (List.mem_append_left _ (List.mem_append_left _ (List.mem_append_left _ (List.mem_append_left _ (List.mem_append_right _ h))))))) (List.mem_of_getElem? (i := 6) rfl) rfl rfl dX4_run_39 ?_
      refine g_aload_n C 0 rfl dX4_run_42 ?_
      refine g_getf C 0 (by omega) x1 rfl 4 (by decide) (fun w h => (List.mem_cons_of_mem _ (List.mem_append_left _ (List.mem_append_left _ (List.mem_append_left _ (List.mem_append_left _ (List.mem_append_right _ h))))))) (List.mem_of_getElem? (i := 3) rfl) rfl rfl dX4_run_43 ?_
      refine g_aald C 24 (by omega) 4 rfl x5 cnt rfl (by omega) (by decide) (x6 cnt (by omega)) dX4_run_46 ?_
      obtain ⟨hs6, ha7, hb8⟩ := id (x7 cnt (by omega))
      refine g_callv C (r_V C (st := []) (c_X0_perforate l V (k := 1) (kp := 23) (ks := 25 + 3 * cnt) (by omega) ⟨hM1, ⟨_, hA3, fun i hi => (hg4 i hi)⟩, hp5⟩ (by omega) x4 (by omega) ⟨hs6, ha7, hb8⟩ (by omega) (by omega) (by omega)) (cwV 2 C.ts gX4_run_X0_perforate rfl rfl rfl (by decide +kernel) ⟨(Nat.le_of_ble_eq_true rfl), (Nat.le_of_ble_eq_true rfl)⟩) (by omega) hM1 rfl rfl rfl (Nat.le_of_ble_eq_true rfl) dX4_run_47 ⟨(Nat.le_of_ble_eq_true rfl), (Nat.le_of_ble_eq_true rfl)⟩) (fun u hu => ?_)
      obtain ⟨u1, ⟨f1, u2, u4⟩, u3⟩ := hu
      have hSH : ∀ i, i < 20 → i ≠ cnt → ShtAt V ad el (25 + 3 * i) (F i) (T i) := fun i hi _ => x7 i hi
      have m9 := (u3 (0) (by omega) (by omega)).trans x1
      have m10 := (u3 (23) (by omega) (by omega)).trans x4
      have m11 := (u3 (24) (by omega) (by omega)).trans x5
      have P12 := x3.keep (fun j h1 h2 => u3 (j) (by omega) (by omega))
      have P13 : ∀ i, i < 20 → i ≠ cnt → ShtAt V ad u (25 + 3 * i) (F i) (T i) := fun i hi hne => (hSH i hi hne).keep (fun j h1 h2 => u3 (j) (by omega) (by omega))
      obtain ⟨hM14, ⟨g15, hA16, hg17⟩, hp18⟩ := id u1
      refine g_aload_n C 0 rfl dX4_run_50 ?_
      refine g_dup C dX4_run_51 rfl ?_
      refine g_getf C 0 (by omega) m9 rfl 4 (by decide) (fun w h => (List.mem_cons_of_mem _ (List.mem_append_left _ (List.mem_append_left _ (List.mem_append_left _ (List.mem_append_left _ (List.mem_append_right _ h))))))) (List.mem_of_getElem? (i := 3) rfl) rfl rfl dX4_run_52 ?_
      refine g_iconst C (v := nI 1) dX4_run_55 (by decide) ?_
      refine g_iadd C (v := nI (cnt + 1)) dX4_run_56 (nI_add _ _) ?_
      refine g_putf C 0 (by omega) m9 rfl 4 (by decide) (fun w h => (List.mem_cons_of_mem _ (List.mem_append_left _ (List.mem_append_left _ (List.mem_append_left _ (List.mem_append_left _ (List.mem_append_right _ h))))))) tyX4 tyX4_ok nmX4 (List.mem_of_getElem? (i := 3) rfl) rfl rfl rfl rfl (Nat.le_of_ble_eq_true rfl) dX4_run_57 (fun el19 e20 o21 => ?_)
      replace e20 : el19 0 = .inr (4, [.ref (ad 1), .ref (ad 10), .ref (ad 23), .ref (ad 24), .int (nI (cnt + 1))]) := e20
      have m22 := (o21 23 (by omega)).trans m10
      have m23 := (o21 24 (by omega)).trans m11
      have m24 := (o21 1 (by omega)).trans hM14
      have m25 := (o21 2 (by omega)).trans hA16
      have m26 : ∀ q, q < 7 → el19 (3 + q) = .inr (1, [.int (St q), .int (s_W St We 5 q)]) := fun q hq => (o21 (3 + q) (by omega)).trans (hp18 q hq)
      have P27 := P12.keep (fun j h1 h2 => o21 j (by omega))
      have P28 : ∀ i, i < 20 → i ≠ cnt → ShtAt V ad el19 (25 + 3 * i) (F i) (T i) := fun i hi hne => (P13 i hi hne).keep (fun j h1 h2 => o21 j (by omega))
      have P29 := u2.keep (fun j h1 h2 => o21 j (by omega))
      refine g_aload_n C 0 rfl dX4_run_60 ?_
      refine g_getf C 0 (by omega) e20 rfl 4 (by decide) (fun w h => (List.mem_cons_of_mem _ (List.mem_append_left _ (List.mem_append_left _ (List.mem_append_left _ (List.mem_append_left _ (List.mem_append_right _ h))))))) (List.mem_of_getElem? (i := 3) rfl) rfl rfl dX4_run_61 ?_
      refine g_iconst C (v := nI 1) dX4_run_64 (by decide) ?_
      refine g_isub C (v := nI cnt) dX4_run_65 (by rw [pk_sub (by omega)]; exact congrArg nI (by omega)) ?_
      exact g_iret C rfl dX4_run_66 el19 rfl rfl rfl ⟨rfl, ⟨f1, u4, ⟨e20, ⟨m24, ⟨_, m25, fun i hi => (hg17 i hi)⟩, m26⟩, ⟨_, _, _, _, _, _, P27⟩, m22, ⟨_, m23, x6⟩, (fun i hi => by
          by_cases e : i = cnt
          · subst e; rw [va_up_self]; exact P29
          · rw [va_up_ne _ _ e]; exact P28 i hi e)⟩⟩, fun j hj => (o21 j (by omega)).trans (u3 j (by omega) (by omega))⟩ (Nat.le_of_ble_eq_true rfl) (Nat.le_of_ble_eq_true rfl)
    · -- 20
      exact absurd hok.2 c17

set_option maxHeartbeats 4000000 in
set_option maxRecDepth 100000 in
theorem c_X4_faults (l : Launch) (V : gT) {n : Nat} {ad : Nat → Nat} {el : Nat → va_E} {cnt : Nat} {M St We pl : Nat → Int32} {F T : Nat → Nat → Int32} (hn : 85 ≤ n) (hc : cnt ≤ 20) (h : X4At V ad el cnt M St We pl F T) (i : Nat) (hi : i < cnt) (r : Nat) (hr : r < 5) (cl : Nat) (hcl : cl < 6) : TT l V yX4_faults wsX4_faults { frames := 7, cells := 0, slots := 0, locals := 111 } n ad el [.ref (ad 0), .int (nI i), .int (nI r), .int (nI cl)] (QIr V n ad el (fun v => v = F i (6 * r + cl))) 0 0 := by
  refine TT.body (cc := cX4_faults) (maxL := 4) (ret := (some .int)) (by decide) rfl (Nat.le_of_ble_eq_true rfl) ?_
  intro p e s m below meth c C hnm
  refine g_lv [0, 1, 2, 3] (lv' := [(0, .ref (ad 0)), (1, .int (nI i)), (2, .int (nI r)), (3, .int (nI cl))]) rfl ?_
  obtain ⟨x1, x2, ⟨ta, tb, tM, tS, tW, tf, x3⟩, x4, ⟨g, x5, x6⟩, x7⟩ := id h
  obtain ⟨hM1, ⟨g2, hA3, hg4⟩, hp5⟩ := id x2
  refine g_aload_n C 0 rfl dX4_faults_0 ?_
  refine g_iload_n C 1 rfl dX4_faults_1 ?_
  refine g_callv C (r_V C (st := []) (c_X4_checkSheet l V (by omega) hc h (nI i) (in_whl hi (by omega))) (cwV 1 C.ts gX4_faults_X4_checkSheet rfl rfl rfl (by decide +kernel) ⟨(Nat.le_of_ble_eq_true rfl), (Nat.le_of_ble_eq_true rfl)⟩) (by omega) x1 rfl rfl rfl (Nat.le_of_ble_eq_true rfl) dX4_faults_2 ⟨(Nat.le_of_ble_eq_true rfl), (Nat.le_of_ble_eq_true rfl)⟩) (fun u hu => ?_)
  refine g_iload_n C 2 rfl dX4_faults_5 ?_
  refine g_iload_n C 3 rfl dX4_faults_6 ?_
  refine g_callv C (r_S C (st := []) (c_X4_checkPlace l V (nI r) (nI cl) ⟨in_le (N := 4) (by omega) (by omega), in_le (N := 5) (by omega) (by omega)⟩) (va_cwS 2 C.ts gX4_faults_X4_checkPlace rfl rfl rfl (by decide +kernel) ⟨(Nat.le_of_ble_eq_true rfl), (Nat.le_of_ble_eq_true rfl)⟩) rfl rfl (Nat.le_of_ble_eq_true rfl) dX4_faults_7 ⟨(Nat.le_of_ble_eq_true rfl), (Nat.le_of_ble_eq_true rfl)⟩) (fun u hu => ?_)
  refine g_aload_n C 0 rfl dX4_faults_10 ?_
  refine g_getf C 0 (by omega) x1 rfl 3 (by decide) (fun w h => (List.mem_cons_of_mem _ (List.mem_append_left _ (List.mem_append_left _ (List.mem_append_right _ h))))) (List.mem_of_getElem? (i := 1) rfl) rfl rfl dX4_faults_11 ?_
  refine g_iload_n C 1 rfl dX4_faults_14 ?_
  refine g_aald C 24 (by omega) 4 rfl x5 i rfl (by omega) (by decide) (x6 i (by omega)) dX4_faults_15 ?_
  obtain ⟨hs6, ha7, hb8⟩ := id (x7 i (by omega))
  refine g_getfN C (25 + 3 * i) (by omega) hs6 rfl 0 (by decide) (fun w h => (List.mem_cons_of_mem _ (List.mem_append_left _ (List.mem_append_right _ h)))) (List.mem_of_getElem? (i := 13) rfl) rfl rfl dX4_faults_16 ?_
  refine g_bipush C (v := nI 6) dX4_faults_19 (by decide) ?_
  refine g_iload_n C 2 rfl dX4_faults_21 ?_
  refine g_imul C (v := nI (6 * r)) dX4_faults_22 (pk_mul _ _) ?_
  refine g_iload_n C 3 rfl dX4_faults_23 ?_
  refine g_iadd C (v := nI ((6 * r) + cl)) dX4_faults_24 (nI_add _ _) ?_
  refine g_iald C (25 + 3 * i + 1) (by omega) ha7 ((6 * r) + cl) rfl (by omega) (by decide) dX4_faults_25 ?_
  exact g_iret C rfl dX4_faults_26 () rfl rfl rfl rfl (Nat.le_of_ble_eq_true rfl) (Nat.le_of_ble_eq_true rfl)

set_option maxHeartbeats 4000000 in
set_option maxRecDepth 100000 in
theorem c_X4_tear (l : Launch) (V : gT) {n : Nat} {ad : Nat → Nat} {el : Nat → va_E} {cnt : Nat} {M St We pl : Nat → Int32} {F T : Nat → Nat → Int32} (hn : 85 ≤ n) (hc : cnt ≤ 20) (h : X4At V ad el cnt M St We pl F T) (i : Nat) (hi : i < cnt) (r : Nat) (hr : r < 5) (cl : Nat) (hcl : cl < 6) (hT : T i (6 * r + cl) = 0) : TT l V yX4_tear wsX4_tear { frames := 7, cells := 0, slots := 0, locals := 111 } n ad el [.ref (ad 0), .int (nI i), .int (nI r), .int (nI cl)] (QIw V n ad (fun v u => v = s_worth (F i (6 * r + cl)) (T i (6 * r + cl)) ∧ X4At V ad u cnt M St We pl F (va_up T i (upd (T i) (6 * r + cl) 1)) ∧ ∀ j, 85 ≤ j → u j = el j)) 0 0 := by
  refine TT.body (cc := cX4_tear) (maxL := 7) (ret := (some .int)) (by decide) rfl (Nat.le_of_ble_eq_true rfl) ?_
  intro p e s m below meth c C hnm
  refine g_lv [0, 1, 2, 3] (lv' := [(0, .ref (ad 0)), (1, .int (nI i)), (2, .int (nI r)), (3, .int (nI cl))]) rfl ?_
  obtain ⟨x1, x2, ⟨ta, tb, tM, tS, tW, tf, x3⟩, x4, ⟨g, x5, x6⟩, x7⟩ := id h
  obtain ⟨hM1, ⟨g2, hA3, hg4⟩, hp5⟩ := id x2
  refine g_aload_n C 0 rfl dX4_tear_0 ?_
  refine g_iload_n C 1 rfl dX4_tear_1 ?_
  refine g_callv C (r_V C (st := []) (c_X4_checkSheet l V (by omega) hc h (nI i) (in_whl hi (by omega))) (cwV 1 C.ts gX4_tear_X4_checkSheet rfl rfl rfl (by decide +kernel) ⟨(Nat.le_of_ble_eq_true rfl), (Nat.le_of_ble_eq_true rfl)⟩) (by omega) x1 rfl rfl rfl (Nat.le_of_ble_eq_true rfl) dX4_tear_2 ⟨(Nat.le_of_ble_eq_true rfl), (Nat.le_of_ble_eq_true rfl)⟩) (fun u hu => ?_)
  refine g_iload_n C 2 rfl dX4_tear_5 ?_
  refine g_iload_n C 3 rfl dX4_tear_6 ?_
  refine g_callv C (r_S C (st := []) (c_X4_checkPlace l V (nI r) (nI cl) ⟨in_le (N := 4) (by omega) (by omega), in_le (N := 5) (by omega) (by omega)⟩) (va_cwS 2 C.ts gX4_tear_X4_checkPlace rfl rfl rfl (by decide +kernel) ⟨(Nat.le_of_ble_eq_true rfl), (Nat.le_of_ble_eq_true rfl)⟩) rfl rfl (Nat.le_of_ble_eq_true rfl) dX4_tear_7 ⟨(Nat.le_of_ble_eq_true rfl), (Nat.le_of_ble_eq_true rfl)⟩) (fun u hu => ?_)
  refine g_aload_n C 0 rfl dX4_tear_10 ?_
  refine g_getf C 0 (by omega) x1 rfl 3 (by decide) (fun w h => (List.mem_cons_of_mem _ (List.mem_append_left _ (List.mem_append_left _ (List.mem_append_left _ (List.mem_append_right _ h)))))) (List.mem_of_getElem? (i := 3) rfl) rfl rfl dX4_tear_11 ?_
  refine g_iload_n C 1 rfl dX4_tear_14 ?_
  refine g_aald C 24 (by omega) 4 rfl x5 i rfl (by omega) (by decide) (x6 i (by omega)) dX4_tear_15 ?_
  obtain ⟨hs6, ha7, hb8⟩ := id (x7 i (by omega))
  have hSH : ∀ q, q < 20 → q ≠ i → ShtAt V ad el (25 + 3 * q) (F q) (T q) := fun q hq _ => x7 q hq
  refine g_astore C (lv' := [(4, .ref (ad (25 + 3 * i))), (0, .ref (ad 0)), (1, .int (nI i)), (2, .int (nI r)), (3, .int (nI cl))]) dX4_tear_16 (by decide) rfl ?_
  refine g_bipush C (v := nI 6) dX4_tear_18 (by decide) ?_
  refine g_iload_n C 3 rfl dX4_tear_20 ?_
  refine g_imul C (v := nI (6 * r)) dX4_tear_21 (pk_mul _ _) ?_
  refine g_iload_n C 4 rfl dX4_tear_22 ?_
  refine g_iadd C (v := nI ((6 * r) + cl)) dX4_tear_23 (nI_add _ _) ?_
  refine g_istore C (lv' := [(5, .int (nI ((6 * r) + cl))), (4, .ref (ad (25 + 3 * i))), (0, .ref (ad 0)), (1, .int (nI i)), (2, .int (nI r)), (3, .int (nI cl))]) dX4_tear_24 (by decide) rfl ?_
  refine g_aload C 1 rfl dX4_tear_26 ?_
  refine g_getfN C (25 + 3 * i) (by omega) hs6 rfl 1 (by decide) (fun w h => (List.mem_cons_of_mem _ (List.mem_append_left _ (List.mem_append_left _ (List.mem_append_right _ h))))) (List.mem_of_getElem? (i := 14) rfl) rfl rfl dX4_tear_28 ?_
  refine g_iload C 0 rfl dX4_tear_31 ?_
  refine g_zald C (25 + 3 * i + 2) (by omega) hb8 ((6 * r) + cl) rfl (by omega) (by decide) dX4_tear_33 ?_
  refine g_if_eq C (tgt := 47) dX4_tear_34 (by decide) (fun c34 => ?_) (fun c34 => ?_)
  · -- 47
    refine g_aload C 1 rfl dX4_tear_47 ?_
    refine g_iload C 0 rfl dX4_tear_49 ?_
    refine g_calli C (r_V C (st := []) (c_X2_worthOf l V (by omega) hs6 ha7 hb8 ((6 * r) + cl) (by omega)) (cwV 1 C.ts gX4_tear_X2_worthOf rfl rfl rfl (by decide +kernel) ⟨(Nat.le_of_ble_eq_true rfl), (Nat.le_of_ble_eq_true rfl)⟩) (by omega) hs6 rfl rfl rfl (Nat.le_of_ble_eq_true rfl) dX4_tear_51 ⟨(Nat.le_of_ble_eq_true rfl), (Nat.le_of_ble_eq_true rfl)⟩) (fun r u hu => ?_)
    subst hu
    refine g_istore C (lv' := [(6, .int (s_worth (((F i)) ((6 * r) + cl)) (((T i)) ((6 * r) + cl)))), (5, .int (nI ((6 * r) + cl))), (4, .ref (ad (25 + 3 * i))), (0, .ref (ad 0)), (1, .int (nI i)), (2, .int (nI r)), (3, .int (nI cl))]) dX4_tear_54 (by decide) rfl ?_
    refine g_aload C 2 rfl dX4_tear_56 ?_
    refine g_getfN C (25 + 3 * i) (by omega) hs6 rfl 1 (by decide) (fun w h => (List.mem_cons_of_mem _ (List.mem_append_left _ (List.mem_append_left _ (List.mem_append_right _ h))))) (List.mem_of_getElem? (i := 14) rfl) rfl rfl dX4_tear_58 ?_
    refine g_iload C 1 rfl dX4_tear_61 ?_
    refine g_iconst C (v := nI 1) dX4_tear_63 (by decide) ?_
    refine g_zast C (25 + 3 * i + 2) (by omega) hb8 ((6 * r) + cl) rfl (by omega) (by decide) rfl dX4_tear_64 (fun el9 e10 o11 => ?_)
    have m12 := (o11 0 (by omega)).trans x1
    have m13 := (o11 1 (by omega)).trans hM1
    have m14 := (o11 2 (by omega)).trans hA3
    have m15 := (o11 23 (by omega)).trans x4
    have m16 := (o11 24 (by omega)).trans x5
    have m17 := (o11 (25 + 3 * i) (by omega)).trans hs6
    have m18 := (o11 (25 + 3 * i + 1) (by omega)).trans ha7
    have m19 : ∀ q, q < 7 → el9 (3 + q) = .inr (1, [.int (St q), .int (We q)]) := fun q hq => (o11 (3 + q) (by omega)).trans (hp5 q hq)
    have P20 := x3.keep (fun j h1 h2 => o11 j (by omega))
    have P21 : ∀ q, q < 20 → q ≠ i → ShtAt V ad el9 (25 + 3 * q) (F q) (T q) := fun q hq hne => (hSH q hq hne).keep (fun j h1 h2 => o11 j (by omega))
    refine g_iload C 0 rfl dX4_tear_65 ?_
    exact g_iret C rfl dX4_tear_67 el9 rfl rfl rfl ⟨rfl, ⟨m12, ⟨m13, ⟨_, m14, fun i hi => (hg4 i hi)⟩, m19⟩, ⟨_, _, _, _, _, _, P20⟩, m15, ⟨_, m16, x6⟩, (fun q hq => by
        by_cases e : q = i
        · subst e; rw [va_up_self]; exact ⟨m17, m18, e10⟩
        · rw [va_up_ne _ _ e]; exact P21 q hq e)⟩, fun j hj => (o11 j (by omega)).trans (rfl)⟩ (Nat.le_of_ble_eq_true rfl) (Nat.le_of_ble_eq_true rfl)
  · -- 37
    exact absurd hT c34

set_option maxHeartbeats 4000000 in
set_option maxRecDepth 100000 in
theorem c_X4_sheet (l : Launch) (V : gT) {n : Nat} {ad : Nat → Nat} {el : Nat → va_E} {cnt : Nat} {M St We pl : Nat → Int32} {F T : Nat → Nat → Int32} (hn : 85 ≤ n) (hc : cnt ≤ 20) (h : X4At V ad el cnt M St We pl F T) (i : Nat) (hi : i < cnt) (w : Nat) (hw : w < 6) : TT l V yX4_sheet wsX4_sheet { frames := 7, cells := 0, slots := 0, locals := 111 } n ad el [.ref (ad 0), .int (nI i), .int (nI w)] (QIr V n ad el (fun v => v = s_sheet (F i) (T i) (nI w))) 0 0 := by
  refine TT.body (cc := cX4_sheet) (maxL := 3) (ret := (some .int)) (by decide) rfl (Nat.le_of_ble_eq_true rfl) ?_
  intro p e s m below meth c C hnm
  refine g_lv [0, 1, 2] (lv' := [(0, .ref (ad 0)), (1, .int (nI i)), (2, .int (nI w))]) rfl ?_
  obtain ⟨x1, x2, ⟨ta, tb, tM, tS, tW, tf, x3⟩, x4, ⟨g, x5, x6⟩, x7⟩ := id h
  obtain ⟨hM1, ⟨g2, hA3, hg4⟩, hp5⟩ := id x2
  refine g_aload_n C 0 rfl dX4_sheet_0 ?_
  refine g_iload_n C 1 rfl dX4_sheet_1 ?_
  refine g_callv C (r_V C (st := []) (c_X4_checkSheet l V (by omega) hc h (nI i) (in_whl hi (by omega))) (cwV 1 C.ts gX4_sheet_X4_checkSheet rfl rfl rfl (by decide +kernel) ⟨(Nat.le_of_ble_eq_true rfl), (Nat.le_of_ble_eq_true rfl)⟩) (by omega) x1 rfl rfl rfl (Nat.le_of_ble_eq_true rfl) dX4_sheet_2 ⟨(Nat.le_of_ble_eq_true rfl), (Nat.le_of_ble_eq_true rfl)⟩) (fun u hu => ?_)
  refine g_iload_n C 2 rfl dX4_sheet_5 ?_
  refine g_bipush C (v := nI 6) dX4_sheet_6 (by decide) ?_
  refine g_callv C (r_S C (st := []) (c_X4_checkWhat l V (nI w) 6 (in_whl (N := 6) hw (by omega))) (va_cwS 2 C.ts gX4_sheet_X4_checkWhat rfl rfl rfl (by decide +kernel) ⟨(Nat.le_of_ble_eq_true rfl), (Nat.le_of_ble_eq_true rfl)⟩) rfl rfl (Nat.le_of_ble_eq_true rfl) dX4_sheet_8 ⟨(Nat.le_of_ble_eq_true rfl), (Nat.le_of_ble_eq_true rfl)⟩) (fun u hu => ?_)
  refine g_aload_n C 0 rfl dX4_sheet_11 ?_
  refine g_getf C 0 (by omega) x1 rfl 3 (by decide) (fun w h => (List.mem_cons_of_mem _ (List.mem_append_left _ (List.mem_append_left _ (List.mem_append_right _ h))))) (List.mem_of_getElem? (i := 1) rfl) rfl rfl dX4_sheet_12 ?_
  refine g_iload_n C 1 rfl dX4_sheet_15 ?_
  refine g_aald C 24 (by omega) 4 rfl x5 i rfl (by omega) (by decide) (x6 i (by omega)) dX4_sheet_16 ?_
  obtain ⟨hs6, ha7, hb8⟩ := id (x7 i (by omega))
  refine g_iload_n C 2 rfl dX4_sheet_17 ?_
  refine g_calli C (r_V C (st := []) (c_X2_answer l V (by omega) hs6 ha7 hb8 (nI w)) (cwV 1 C.ts gX4_sheet_X2_answer rfl rfl rfl (by decide +kernel) ⟨(Nat.le_of_ble_eq_true rfl), (Nat.le_of_ble_eq_true rfl)⟩) (by omega) hs6 rfl rfl rfl (Nat.le_of_ble_eq_true rfl) dX4_sheet_18 ⟨(Nat.le_of_ble_eq_true rfl), (Nat.le_of_ble_eq_true rfl)⟩) (fun r u hu => ?_)
  subst hu
  exact g_iret C rfl dX4_sheet_21 () rfl rfl rfl rfl (Nat.le_of_ble_eq_true rfl) (Nat.le_of_ble_eq_true rfl)

set_option maxHeartbeats 4000000 in
set_option maxRecDepth 100000 in
theorem c_X4_pin (l : Launch) (V : gT) {n : Nat} {ad : Nat → Nat} {el : Nat → va_E} {cnt : Nat} {M St We pl : Nat → Int32} {F T : Nat → Nat → Int32} (hn : 85 ≤ n) (hc : cnt ≤ 20) (h : X4At V ad el cnt M St We pl F T) (i : Nat) (hi : i < 7) (w : Nat) (hw : w < 4) : TT l V yX4_pin wsX4_pin { frames := 7, cells := 0, slots := 0, locals := 111 } n ad el [.ref (ad 0), .int (nI i), .int (nI w)] (QIr V n ad el (fun v => v = s_pin (St i) (We i) (nI w))) 0 0 := by
  refine TT.body (cc := cX4_pin) (maxL := 3) (ret := (some .int)) (by decide) rfl (Nat.le_of_ble_eq_true rfl) ?_
  intro p e s m below meth c C hnm
  refine g_lv [0, 1, 2] (lv' := [(0, .ref (ad 0)), (1, .int (nI i)), (2, .int (nI w))]) rfl ?_
  obtain ⟨x1, x2, ⟨ta, tb, tM, tS, tW, tf, x3⟩, x4, ⟨g, x5, x6⟩, x7⟩ := id h
  obtain ⟨hM1, ⟨g2, hA3, hg4⟩, hp5⟩ := id x2
  refine g_iload_n C 1 rfl dX4_pin_0 ?_
  refine g_callv C (r_S C (st := []) (c_X4_checkPin l V (nI i) (in_le (N := 6) (by omega) (by omega))) (va_cwS 1 C.ts gX4_pin_X4_checkPin rfl rfl rfl (by decide +kernel) ⟨(Nat.le_of_ble_eq_true rfl), (Nat.le_of_ble_eq_true rfl)⟩) rfl rfl (Nat.le_of_ble_eq_true rfl) dX4_pin_1 ⟨(Nat.le_of_ble_eq_true rfl), (Nat.le_of_ble_eq_true rfl)⟩) (fun u hu => ?_)
  refine g_iload_n C 2 rfl dX4_pin_4 ?_
  refine g_iconst C (v := nI 4) dX4_pin_5 (by decide) ?_
  refine g_callv C (r_S C (st := []) (c_X4_checkWhat l V (nI w) 4 (in_whl (N := 4) hw (by omega))) (va_cwS 2 C.ts gX4_pin_X4_checkWhat rfl rfl rfl (by decide +kernel) ⟨(Nat.le_of_ble_eq_true rfl), (Nat.le_of_ble_eq_true rfl)⟩) rfl rfl (Nat.le_of_ble_eq_true rfl) dX4_pin_6 ⟨(Nat.le_of_ble_eq_true rfl), (Nat.le_of_ble_eq_true rfl)⟩) (fun u hu => ?_)
  refine g_aload_n C 0 rfl dX4_pin_9 ?_
  refine g_getf C 0 (by omega) x1 rfl 0 (by decide) (fun w h => (List.mem_cons_of_mem _ (List.mem_append_left _ (List.mem_append_left _ (List.mem_append_left _ (List.mem_append_right _ h)))))) (List.mem_of_getElem? (i := 1) rfl) rfl rfl dX4_pin_10 ?_
  refine g_getfN C 1 (by omega) hM1 rfl 0 (by decide) (fun w h => (List.mem_cons_of_mem _ (List.mem_append_left _ (List.mem_append_left _ (List.mem_append_right _ h))))) (List.mem_of_getElem? (i := 3) rfl) rfl rfl dX4_pin_13 ?_
  refine g_iload_n C 1 rfl dX4_pin_16 ?_
  refine g_aald C 2 (by omega) 3 rfl hA3 i rfl (by omega) (by decide) (hg4 i (by omega)) dX4_pin_17 ?_
  refine g_iload_n C 2 rfl dX4_pin_18 ?_
  refine g_calli C (r_V C (st := []) (c_X1_answer l V (nI w) (by omega) (hp5 i (by omega))) (cwV 1 C.ts gX4_pin_X1_answer rfl rfl rfl (by decide +kernel) ⟨(Nat.le_of_ble_eq_true rfl), (Nat.le_of_ble_eq_true rfl)⟩) (by omega) (hp5 i (by omega)) rfl rfl rfl (Nat.le_of_ble_eq_true rfl) dX4_pin_19 ⟨(Nat.le_of_ble_eq_true rfl), (Nat.le_of_ble_eq_true rfl)⟩) (fun r u hu => ?_)
  subst hu
  exact g_iret C rfl dX4_pin_22 () rfl rfl rfl rfl (Nat.le_of_ble_eq_true rfl) (Nat.le_of_ble_eq_true rfl)

set_option maxHeartbeats 4000000 in
set_option maxRecDepth 100000 in
theorem c_X4_count (l : Launch) (V : gT) {n : Nat} {ad : Nat → Nat} {el : Nat → va_E} {cnt : Nat} {M St We pl : Nat → Int32} {F T : Nat → Nat → Int32} (hn : 85 ≤ n) (hc : cnt ≤ 20) (h : X4At V ad el cnt M St We pl F T) (w : Nat) (hw : w < 10) : TT l V yX4_count wsX4_count { frames := 7, cells := 0, slots := 0, locals := 111 } n ad el [.ref (ad 0), .int (nI w)] (QIr V n ad el (fun v => v = s_cnt cnt M St We pl F T (nI w))) 0 0 := by
  refine TT.body (cc := cX4_count) (maxL := 2) (ret := (some .int)) (by decide) rfl (Nat.le_of_ble_eq_true rfl) ?_
  intro p e s m below meth c C hnm
  refine g_lv [0, 1] (lv' := [(0, .ref (ad 0)), (1, .int (nI w))]) rfl ?_
  obtain ⟨x1, x2, ⟨ta, tb, tM, tS, tW, tf, x3⟩, x4, ⟨g, x5, x6⟩, x7⟩ := id h
  obtain ⟨hM1, ⟨g2, hA3, hg4⟩, hp5⟩ := id x2
  refine g_iload_n C 1 rfl dX4_count_0 ?_
  refine g_bipush C (v := nI 10) dX4_count_1 (by decide) ?_
  refine g_callv C (r_S C (st := []) (c_X4_checkWhat l V (nI w) 10 (in_whl (N := 10) hw (by omega))) (va_cwS 2 C.ts gX4_count_X4_checkWhat rfl rfl rfl (by decide +kernel) ⟨(Nat.le_of_ble_eq_true rfl), (Nat.le_of_ble_eq_true rfl)⟩) rfl rfl (Nat.le_of_ble_eq_true rfl) dX4_count_3 ⟨(Nat.le_of_ble_eq_true rfl), (Nat.le_of_ble_eq_true rfl)⟩) (fun u hu => ?_)
  refine g_aload_n C 0 rfl dX4_count_6 ?_
  refine g_iload_n C 1 rfl dX4_count_7 ?_
  refine g_calli C (r_V C (st := []) (c_X4_countAnswer l V (by omega) (by omega) h (nI w)) (cwV 1 C.ts gX4_count_X4_countAnswer rfl rfl rfl (by decide +kernel) ⟨(Nat.le_of_ble_eq_true rfl), (Nat.le_of_ble_eq_true rfl)⟩) (by omega) x1 rfl rfl rfl (Nat.le_of_ble_eq_true rfl) dX4_count_8 ⟨(Nat.le_of_ble_eq_true rfl), (Nat.le_of_ble_eq_true rfl)⟩) (fun r u hu => ?_)
  subst hu
  exact g_iret C rfl dX4_count_11 () rfl rfl rfl rfl (Nat.le_of_ble_eq_true rfl) (Nat.le_of_ble_eq_true rfl)

set_option maxHeartbeats 4000000 in
set_option maxRecDepth 100000 in
theorem c_X4_like (l : Launch) (V : gT) {n : Nat} {ad : Nat → Nat} {el : Nat → va_E} {cnt : Nat} {M St We pl : Nat → Int32} {F T : Nat → Nat → Int32} (hn : 85 ≤ n) (hc : cnt ≤ 20) (h : X4At V ad el cnt M St We pl F T) (w : Nat) (hw : w < 32) : TT l V yX4_like wsX4_like { frames := 6, cells := 0, slots := 0, locals := 90 } n ad el [.ref (ad 0), .int (nI w)] (QIr V n ad el (fun v => v = s_with F T (nI w) cnt)) 0 0 := by
  refine TT.body (cc := cX4_like) (maxL := 2) (ret := (some .int)) (by decide) rfl (Nat.le_of_ble_eq_true rfl) ?_
  intro p e s m below meth c C hnm
  refine g_lv [0, 1] (lv' := [(0, .ref (ad 0)), (1, .int (nI w))]) rfl ?_
  obtain ⟨x1, x2, ⟨ta, tb, tM, tS, tW, tf, x3⟩, x4, ⟨g, x5, x6⟩, x7⟩ := id h
  obtain ⟨hM1, ⟨g2, hA3, hg4⟩, hp5⟩ := id x2
  refine g_iload_n C 1 rfl dX4_like_0 ?_
  refine g_iconst C (v := nI 0) dX4_like_1 (by decide) ?_
  refine g_bipush C (v := nI 31) dX4_like_2 (by decide) ?_
  refine g_calli C (r_S C (st := []) (c_X4_isWithin l V (nI w) 0 31) (va_cwS 3 C.ts gX4_like_X4_isWithin rfl rfl rfl (by decide +kernel) ⟨(Nat.le_of_ble_eq_true rfl), (Nat.le_of_ble_eq_true rfl)⟩) rfl rfl (Nat.le_of_ble_eq_true rfl) dX4_like_4 ⟨(Nat.le_of_ble_eq_true rfl), (Nat.le_of_ble_eq_true rfl)⟩) (fun r u hu => ?_)
  subst hu
  refine g_if_ne C (tgt := 20) dX4_like_7 (by decide) (fun c7 => ?_) (fun c7 => ?_)
  · -- 20
    refine g_aload_n C 0 rfl dX4_like_20 ?_
    refine g_iload_n C 1 rfl dX4_like_21 ?_
    refine g_calli C (r_V C (st := []) (c_X4_stampsWith l V (by omega) (by omega) h (nI w)) (cwV 1 C.ts gX4_like_X4_stampsWith rfl rfl rfl (by decide +kernel) ⟨(Nat.le_of_ble_eq_true rfl), (Nat.le_of_ble_eq_true rfl)⟩) (by omega) x1 rfl rfl rfl (Nat.le_of_ble_eq_true rfl) dX4_like_22 ⟨(Nat.le_of_ble_eq_true rfl), (Nat.le_of_ble_eq_true rfl)⟩) (fun r u hu => ?_)
    subst hu
    exact g_iret C rfl dX4_like_25 () rfl rfl rfl rfl (Nat.le_of_ble_eq_true rfl) (Nat.le_of_ble_eq_true rfl)
  · -- 10
    exact absurd (in_le (N := 31) (i := w) (by omega) (by omega)) (s_in_0 c7)
