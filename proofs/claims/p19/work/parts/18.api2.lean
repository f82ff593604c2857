/-! ===== the class: share, foresee ===== -/
set_option maxHeartbeats 4000000 in
set_option maxRecDepth 100000 in
theorem c_X4_share (l : Launch) (V : gT) {n : Nat} {ad : Nat → Nat} {el : Nat → va_E} {cnt : Nat} {M St We pl : Nat → Int32} {F T : Nat → Nat → Int32} (hn : 85 ≤ n) (hc : cnt ≤ 20) (h : X4At V ad el cnt M St We pl F T) : TT l V yX4_share wsX4_share { frames := 3, cells := 0, slots := 0, locals := 68 } n ad el [.ref (ad 0)] (QDr V n ad el (fun r => r = s_share F T cnt)) 0 0 := by
  refine TT.body (cc := cX4_share) (maxL := 2) (ret := (some .double)) (by decide) rfl (Nat.le_of_ble_eq_true rfl) ?_
  intro p e s m below meth c C hnm
  refine g_lv [0] (lv' := [(0, .ref (ad 0))]) rfl ?_
  obtain ⟨x1, x2, ⟨ta, tb, tM, tS, tW, tf, x3⟩, x4, ⟨g, x5, x6⟩, x7⟩ := id h
  obtain ⟨hM1, ⟨g2, hA3, hg4⟩, hp5⟩ := id x2
  refine g_bipush C (v := nI 30) dX4_share_0 (by decide) ?_
  refine g_aload_n C 0 rfl dX4_share_2 ?_
  refine g_getf C 0 (by omega) x1 rfl 4 (by decide) (fun w h => (List.mem_cons_of_mem _ (List.mem_append_left _ (List.mem_append_right _ h)))) (List.mem_of_getElem? (i := 1) rfl) rfl rfl dX4_share_3 ?_
  refine g_imul C (v := nI (30 * cnt)) dX4_share_6 (pk_mul _ _) ?_
  refine g_istore_n C (lv' := [(1, .int (nI (30 * cnt))), (0, .ref (ad 0))]) dX4_share_7 (by decide) rfl ?_
  refine g_iload_n C 0 rfl dX4_share_8 ?_
  refine g_if_ne C (tgt := 14) dX4_share_9 (by decide) (fun c9 => ?_) (fun c9 => ?_)
  · have hpos : 0 < cnt := by
      rcases Nat.eq_zero_or_pos cnt with e | e
      · subst e; exact absurd rfl c9
      · exact e
    refine g_aload_n C 1 rfl dX4_share_14 ?_
    refine g_iconst C (v := nI 0) dX4_share_15 (by decide) ?_
    refine g_calli C (r_V C (st := []) (c_X4_stampsWith l V (by omega) (by omega) h 0) (cwV 1 C.ts gX4_share_X4_stampsWith rfl rfl rfl (by decide +kernel) ⟨(Nat.le_of_ble_eq_true rfl), (Nat.le_of_ble_eq_true rfl)⟩) (by omega) x1 rfl rfl rfl (Nat.le_of_ble_eq_true rfl) dX4_share_16 ⟨(Nat.le_of_ble_eq_true rfl), (Nat.le_of_ble_eq_true rfl)⟩) (fun r u hu => ?_)
    subst hu
    refine g_i2d C dX4_share_19 ?_
    refine g_iload_n C 0 rfl dX4_share_20 ?_
    refine g_i2d C dX4_share_21 ?_
    refine g_ddiv C dX4_share_22 (s_share_n64 hc hpos) ?_
    exact g_dret C rfl dX4_share_23 () rfl rfl rfl (if_neg (by omega)).symm (Nat.le_of_ble_eq_true rfl) (Nat.le_of_ble_eq_true rfl)
  · have hz : cnt = 0 := by
      rcases Nat.eq_zero_or_pos cnt with e | e
      · exact e
      · exact absurd c9 (nI_ne0 (by omega) (by omega))
    refine g_dconst0 C dX4_share_12 ?_
    exact g_dret C rfl dX4_share_13 () rfl rfl rfl (if_pos hz).symm (Nat.le_of_ble_eq_true rfl) (Nat.le_of_ble_eq_true rfl)

set_option maxHeartbeats 4000000 in
set_option maxRecDepth 100000 in
theorem c_X4_foresee (l : Launch) (V : gT) {n : Nat} {ad : Nat → Nat} {el : Nat → va_E} {cnt : Nat} {M St We pl : Nat → Int32} {F T : Nat → Nat → Int32} (hn : 85 ≤ n) (hc : cnt ≤ 20) (h : X4At V ad el cnt M St We pl F T) (N : Nat) (hN1 : 1 ≤ N) (hN : N ≤ 20) (w : Nat) (hw : w < 4) : TT l V yX4_foresee wsX4_foresee { frames := 7, cells := 0, slots := 0, locals := 117 } n ad el [.ref (ad 0), .int (nI N), .int (nI w)] (QIw V n ad (fun r u => r = s_fore M St We pl N (nI w) ∧ X4At V ad u cnt M St We pl F T ∧ ∀ j, 85 ≤ j → u j = el j)) 0 0 := by
  refine TT.body (cc := cX4_foresee) (maxL := 3) (ret := (some .int)) (by decide) rfl (Nat.le_of_ble_eq_true rfl) ?_
  intro p e s m below meth c C hnm
  refine g_lv [0, 1, 2] (lv' := [(0, .ref (ad 0)), (1, .int (nI N)), (2, .int (nI w))]) rfl ?_
  obtain ⟨x1, x2, ⟨ta, tb, tM, tS, tW, tf, x3⟩, x4, ⟨g, x5, x6⟩, x7⟩ := id h
  obtain ⟨hM1, ⟨g2, hA3, hg4⟩, hp5⟩ := id x2
  refine g_iload_n C 1 rfl dX4_foresee_0 ?_
  refine g_callv C (r_S C (st := []) (c_X4_checkSheetsToRun l V (nI N) (in_le1 (N := 20) hN1 hN (by omega))) (va_cwS 1 C.ts gX4_foresee_X4_checkSheetsToRun rfl rfl rfl (by decide +kernel) ⟨(Nat.le_of_ble_eq_true rfl), (Nat.le_of_ble_eq_true rfl)⟩) rfl rfl (Nat.le_of_ble_eq_true rfl) dX4_foresee_1 ⟨(Nat.le_of_ble_eq_true rfl), (Nat.le_of_ble_eq_true rfl)⟩) (fun u hu => ?_)
  refine g_iload_n C 2 rfl dX4_foresee_4 ?_
  refine g_iconst C (v := nI 4) dX4_foresee_5 (by decide) ?_
  refine g_callv C (r_S C (st := []) (c_X4_checkWhat l V (nI w) 4 (in_whl (N := 4) hw (by omega))) (va_cwS 2 C.ts gX4_foresee_X4_checkWhat rfl rfl rfl (by decide +kernel) ⟨(Nat.le_of_ble_eq_true rfl), (Nat.le_of_ble_eq_true rfl)⟩) rfl rfl (Nat.le_of_ble_eq_true rfl) dX4_foresee_6 ⟨(Nat.le_of_ble_eq_true rfl), (Nat.le_of_ble_eq_true rfl)⟩) (fun u hu => ?_)
  refine g_aload_n C 0 rfl dX4_foresee_9 ?_
  refine g_getf C 0 (by omega) x1 rfl 1 (by decide) (fun w h => (List.mem_cons_of_mem _ (List.mem_append_left _ (List.mem_append_left _ (List.mem_append_left _ (List.mem_append_left _ (List.mem_append_left _ (List.mem_append_left _ (List.mem_append_right _ h))))))))) (List.mem_of_getElem? (i := 1) rfl) rfl rfl dX4_foresee_10 ?_
  refine g_aload_n C 0 rfl dX4_foresee_13 ?_
  refine g_getf C 0 (by omega) x1 rfl 0 (by decide) (fun w h => (List.mem_cons_of_mem _ (List.mem_append_left _ (List.mem_append_left _ (List.mem_append_left _ (List.mem_append_left _ (List.mem_append_left _ (List.mem_append_left _ (List.mem_append_right _ h))))))))) (List.mem_of_getElem? (i := 2) rfl) rfl rfl dX4_foresee_14 ?_
  refine g_aload_n C 0 rfl dX4_foresee_17 ?_
  refine g_getf C 0 (by omega) x1 rfl 0 (by decide) (fun w h => (List.mem_cons_of_mem _ (List.mem_append_left _ (List.mem_append_left _ (List.mem_append_left _ (List.mem_append_left _ (List.mem_append_left _ (List.mem_append_left _ (List.mem_append_right _ h))))))))) (List.mem_of_getElem? (i := 2) rfl) rfl rfl dX4_foresee_18 ?_
  refine g_getfN C 1 (by omega) hM1 rfl 1 (by decide) (fun w h => (List.mem_cons_of_mem _ (List.mem_append_left _ (List.mem_append_left _ (List.mem_append_left _ (List.mem_append_left _ (List.mem_append_left _ (List.mem_append_right _ h)))))))) (List.mem_of_getElem? (i := 5) rfl) rfl rfl dX4_foresee_21 ?_
  refine g_aload_n C 0 rfl dX4_foresee_24 ?_
  refine g_getf C 0 (by omega) x1 rfl 2 (by decide) (fun w h => (List.mem_cons_of_mem _ (List.mem_append_left _ (List.mem_append_left _ (List.mem_append_left _ (List.mem_append_left _ (List.mem_append_left _ (List.mem_append_left _ (List.mem_append_right _ h))))))))) (List.mem_of_getElem? (i := 3) rfl) rfl rfl dX4_foresee_25 ?_
  refine g_iload_n C 1 rfl dX4_foresee_28 ?_
  have ht8 := x3.1
  refine g_callv C (r_V C (st := []) (c_X3_perforateFrom l V (k := 10) (k2 := 1) (kp := 23) (by omega) (by omega) (by omega) x3 ⟨hM1, ⟨_, hA3, fun i hi => (hg4 i hi)⟩, hp5⟩ (by omega) x4 (by omega) (M 0) N (by omega)) (cwV 4 C.ts gX4_foresee_X3_perforateFrom rfl rfl rfl (by decide +kernel) ⟨(Nat.le_of_ble_eq_true rfl), (Nat.le_of_ble_eq_true rfl)⟩) (by omega) ht8 rfl rfl rfl (Nat.le_of_ble_eq_true rfl) dX4_foresee_29 ⟨(Nat.le_of_ble_eq_true rfl), (Nat.le_of_ble_eq_true rfl)⟩) (fun u hu => ?_)
  obtain ⟨⟨f1, u1⟩, u2⟩ := hu
  have m6 := (u2 (0) (by omega)).trans x1
  have m7 := (u2 (1) (by omega)).trans hM1
  have m8 := (u2 (2) (by omega)).trans hA3
  have m9 := (u2 (23) (by omega)).trans x4
  have m10 := (u2 (24) (by omega)).trans x5
  have m11 : ∀ q, q < 7 → u (3 + q) = .inr (1, [.int (St q), .int (We q)]) := fun q hq => (u2 (3 + q) (by omega)).trans (hp5 q hq)
  have P12 : ∀ i, i < 20 → ShtAt V ad u (25 + 3 * i) (F i) (T i) := fun i hi => (x7 i hi).keep (fun j h1 h2 => u2 (j) (by omega))
  refine g_aload_n C 0 rfl dX4_foresee_32 ?_
  refine g_getf C 0 (by omega) m6 rfl 1 (by decide) (fun w h => (List.mem_cons_of_mem _ (List.mem_append_left _ (List.mem_append_left _ (List.mem_append_left _ (List.mem_append_left _ (List.mem_append_left _ (List.mem_append_left _ (List.mem_append_right _ h))))))))) (List.mem_of_getElem? (i := 1) rfl) rfl rfl dX4_foresee_33 ?_
  have ht9 := u1.1
  refine g_iload_n C 2 rfl dX4_foresee_36 ?_
  refine g_calli C (r_V C (st := []) (c_X3_answer l V (k := 10) (by omega) u1 (nI w)) (cwV 1 C.ts gX4_foresee_X3_answer rfl rfl rfl (by decide +kernel) ⟨(Nat.le_of_ble_eq_true rfl), (Nat.le_of_ble_eq_true rfl)⟩) (by omega) ht9 rfl rfl rfl (Nat.le_of_ble_eq_true rfl) dX4_foresee_37 ⟨(Nat.le_of_ble_eq_true rfl), (Nat.le_of_ble_eq_true rfl)⟩) (fun r v hv => ?_)
  subst hv
  exact g_iret C rfl dX4_foresee_40 u rfl rfl rfl ⟨rfl, ⟨m6, ⟨m7, ⟨_, m8, fun i hi => (hg4 i hi)⟩, m11⟩, ⟨_, _, _, _, _, _, u1⟩, m9, ⟨_, m10, x6⟩, P12⟩, fun j hj => u2 j (by omega)⟩ (Nat.le_of_ble_eq_true rfl) (Nat.le_of_ble_eq_true rfl)
