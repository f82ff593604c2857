/-! ===== the machine: what writes ===== -/
theorem s_fault_at {M St We pl : Nat → Int32} {i q : Nat} (hq : q < 6) : s_fault M St We pl (6 * i + q) = s_stamp (s_err (s_M M i)) St (s_W St We i) pl i q := by
  have h1 : (6 * i + q) / 6 = i := by omega
  have h2 : (6 * i + q) % 6 = q := by omega
  rw [s_fault, h1, h2]

set_option maxHeartbeats 4000000 in
set_option maxRecDepth 100000 in
theorem c_X0_becomeLike (l : Launch) (V : gT) {n : Nat} {ad : Nat → Nat} {el : Nat → va_E} {k k2 : Nat} {M0 St0 We0 M St We : Nat → Int32} (hk : k + 9 ≤ n) (hk2 : k2 + 9 ≤ n) (hd : k + 9 ≤ k2 ∨ k2 + 9 ≤ k) (h : MacAt V ad el k M0 St0 We0) (h2 : MacAt V ad el k2 M St We) : TT l V yX0_becomeLike wsX0_becomeLike { frames := 1, cells := 0, slots := 0, locals := 21 } n ad el [.ref (ad k), .ref (ad k2)] (QVw V n ad (fun u => MacAt V ad u k M St We ∧ ∀ j, (j < k ∨ k + 9 ≤ j) → u j = el j)) 0 0 := by
  refine TT.body (cc := cX0_becomeLike) (maxL := 3) (ret := none) (by decide) rfl (Nat.le_of_ble_eq_true rfl) ?_
  intro p e s m below meth c C hnm
  refine g_lv [0, 1] (lv' := [(0, .ref (ad k)), (1, .ref (ad k2))]) rfl ?_
  obtain ⟨hM1, ⟨g2, hA3, hg4⟩, hp5⟩ := id h
  obtain ⟨hM6, ⟨g7, hA8, hg9⟩, hp10⟩ := id h2
  refine g_iconst C (v := nI 0) dX0_becomeLike_0 (by decide) ?_
  refine g_istore_n C (lv' := [(2, .int (nI 0)), (0, .ref (ad k)), (1, .ref (ad k2))]) dX0_becomeLike_1 (by decide) rfl ?_
  refine g_lv [0, 1, 2] (lv' := [(2, .int (nI 0)), (0, .ref (ad k)), (1, .ref (ad k2))]) rfl ?_
  refine g_forE 7 (fun (i : Nat) => [(2, .int (nI i)), (0, .ref (ad k)), (1, .ref (ad k2))]) (fun i el1 => (∀ q, q < i → el1 (k + 2 + q) = .inr (1, [.int (St q), .int (We q)])) ∧ (∀ q, i ≤ q → q < 7 → el1 (k + 2 + q) = .inr (1, [.int (St0 q), .int (We0 q)])) ∧ ∀ j, (j < k + 2 ∨ k + 9 ≤ j) → el1 j = el j) ⟨fun q hq => absurd hq (by omega), fun q _ hq => hp5 q hq, fun j _ => rfl⟩ (fun el1 h1 => ?_) (fun i el1 hi h1 ih => ?_)
  · -- loop 2: its end
    have m11 := (h1.2.2 (k) (by omega)).trans hM1
    have m12 := (h1.2.2 (k + 1) (by omega)).trans hA3
    have m13 := (h1.2.2 (k2) (by omega)).trans hM6
    have m14 := (h1.2.2 (k2 + 1) (by omega)).trans hA8
    have m15 : ∀ q, q < 7 → el1 (k2 + 2 + q) = .inr (1, [.int (St q), .int (We q)]) := fun q hq => (h1.2.2 (k2 + 2 + q) (by omega)).trans (hp10 q hq)
    refine g_iload_n C 0 rfl dX0_becomeLike_2 ?_
    refine g_bipush C (v := nI 7) dX0_becomeLike_3 (by decide) ?_
    refine g_icmp_ge C (tgt := 29) dX0_becomeLike_5 (by decide) (fun c5 => ?_) (fun c5 => ?_)
    rotate_left
    · exact absurd c5 (by decide)
    refine g_aload_n C 1 rfl dX0_becomeLike_29 ?_
    refine g_aload_n C 2 rfl dX0_becomeLike_30 ?_
    refine g_getf C k2 (by omega) m13 rfl 1 (by decide) (fun w h => (List.mem_cons_of_mem _ (List.mem_append_left _ (List.mem_append_right _ h)))) (List.mem_of_getElem? (i := 2) rfl) rfl rfl dX0_becomeLike_31 ?_
    refine g_putf C k (by omega) m11 rfl 1 (by decide) (fun w h => (List.mem_cons_of_mem _ (List.mem_append_left _ (List.mem_append_right _ h)))) tyX0 tyX0_ok nmX0 (List.mem_of_getElem? (i := 2) rfl) rfl rfl rfl rfl (Nat.le_of_ble_eq_true rfl) dX0_becomeLike_34 (fun el16 e17 o18 => ?_)
    replace e17 : el16 k = .inr (0, [.ref (ad (k + 1)), .int (M 0), .int (M0 1), .int (M0 2), .int (M0 3), .int (M0 5), .int (M0 4)]) := e17
    have m19 := (o18 (k + 1) (by omega)).trans m12
    have m20 := (o18 k2 (by omega)).trans m13
    have m21 := (o18 (k2 + 1) (by omega)).trans m14
    have m22 : ∀ q, q < 7 → el16 (k2 + 2 + q) = .inr (1, [.int (St q), .int (We q)]) := fun q hq => (o18 (k2 + 2 + q) (by omega)).trans (m15 q hq)
    have m23 : ∀ q, q < 7 → el16 (k + 2 + q) = .inr (1, [.int (St q), .int (We q)]) := fun q hq => (o18 (k + 2 + q) (by omega)).trans ((fun q hq => h1.1 q hq) q hq)
    refine g_aload_n C 1 rfl dX0_becomeLike_37 ?_
    refine g_aload_n C 2 rfl dX0_becomeLike_38 ?_
    refine g_getf C k2 (by omega) m20 rfl 2 (by decide) (fun w h => (List.mem_cons_of_mem _ (List.mem_append_left _ (List.mem_append_right _ h)))) (List.mem_of_getElem? (i := 3) rfl) rfl rfl dX0_becomeLike_39 ?_
    refine g_putf C k (by omega) e17 rfl 2 (by decide) (fun w h => (List.mem_cons_of_mem _ (List.mem_append_left _ (List.mem_append_right _ h)))) tyX0 tyX0_ok nmX0 (List.mem_of_getElem? (i := 3) rfl) rfl rfl rfl rfl (Nat.le_of_ble_eq_true rfl) dX0_becomeLike_42 (fun el24 e25 o26 => ?_)
    replace e25 : el24 k = .inr (0, [.ref (ad (k + 1)), .int (M 0), .int (M 1), .int (M0 2), .int (M0 3), .int (M0 5), .int (M0 4)]) := e25
    have m27 := (o26 (k + 1) (by omega)).trans m19
    have m28 := (o26 k2 (by omega)).trans m20
    have m29 := (o26 (k2 + 1) (by omega)).trans m21
    have m30 : ∀ q, q < 7 → el24 (k2 + 2 + q) = .inr (1, [.int (St q), .int (We q)]) := fun q hq => (o26 (k2 + 2 + q) (by omega)).trans (m22 q hq)
    have m31 : ∀ q, q < 7 → el24 (k + 2 + q) = .inr (1, [.int (St q), .int (We q)]) := fun q hq => (o26 (k + 2 + q) (by omega)).trans (m23 q hq)
    refine g_aload_n C 1 rfl dX0_becomeLike_45 ?_
    refine g_aload_n C 2 rfl dX0_becomeLike_46 ?_
    refine g_getf C k2 (by omega) m28 rfl 3 (by decide) (fun w h => (List.mem_cons_of_mem _ (List.mem_append_left _ (List.mem_append_right _ h)))) (List.mem_of_getElem? (i := 4) rfl) rfl rfl dX0_becomeLike_47 ?_
    refine g_putf C k (by omega) e25 rfl 3 (by decide) (fun w h => (List.mem_cons_of_mem _ (List.mem_append_left _ (List.mem_append_right _ h)))) tyX0 tyX0_ok nmX0 (List.mem_of_getElem? (i := 4) rfl) rfl rfl rfl rfl (Nat.le_of_ble_eq_true rfl) dX0_becomeLike_50 (fun el32 e33 o34 => ?_)
    replace e33 : el32 k = .inr (0, [.ref (ad (k + 1)), .int (M 0), .int (M 1), .int (M 2), .int (M0 3), .int (M0 5), .int (M0 4)]) := e33
    have m35 := (o34 (k + 1) (by omega)).trans m27
    have m36 := (o34 k2 (by omega)).trans m28
    have m37 := (o34 (k2 + 1) (by omega)).trans m29
    have m38 : ∀ q, q < 7 → el32 (k2 + 2 + q) = .inr (1, [.int (St q), .int (We q)]) := fun q hq => (o34 (k2 + 2 + q) (by omega)).trans (m30 q hq)
    have m39 : ∀ q, q < 7 → el32 (k + 2 + q) = .inr (1, [.int (St q), .int (We q)]) := fun q hq => (o34 (k + 2 + q) (by omega)).trans (m31 q hq)
    refine g_aload_n C 1 rfl dX0_becomeLike_53 ?_
    refine g_aload_n C 2 rfl dX0_becomeLike_54 ?_
    refine g_getf C k2 (by omega) m36 rfl 4 (by decide) (fun w h => (List.mem_cons_of_mem _ (List.mem_append_left _ (List.mem_append_right _ h)))) (List.mem_of_getElem? (i := 5) rfl) rfl rfl dX0_becomeLike_55 ?_
    refine g_putf C k (by omega) e33 rfl 4 (by decide) (fun w h => (List.mem_cons_of_mem _ (List.mem_append_left _ (List.mem_append_right _ h)))) tyX0 tyX0_ok nmX0 (List.mem_of_getElem? (i := 5) rfl) rfl rfl rfl rfl (Nat.le_of_ble_eq_true rfl) dX0_becomeLike_58 (fun el40 e41 o42 => ?_)
    replace e41 : el40 k = .inr (0, [.ref (ad (k + 1)), .int (M 0), .int (M 1), .int (M 2), .int (M 3), .int (M0 5), .int (M0 4)]) := e41
    have m43 := (o42 (k + 1) (by omega)).trans m35
    have m44 := (o42 k2 (by omega)).trans m36
    have m45 := (o42 (k2 + 1) (by omega)).trans m37
    have m46 : ∀ q, q < 7 → el40 (k2 + 2 + q) = .inr (1, [.int (St q), .int (We q)]) := fun q hq => (o42 (k2 + 2 + q) (by omega)).trans (m38 q hq)
    have m47 : ∀ q, q < 7 → el40 (k + 2 + q) = .inr (1, [.int (St q), .int (We q)]) := fun q hq => (o42 (k + 2 + q) (by omega)).trans (m39 q hq)
    refine g_aload_n C 1 rfl dX0_becomeLike_61 ?_
    refine g_aload_n C 2 rfl dX0_becomeLike_62 ?_
    refine g_getf C k2 (by omega) m44 rfl 5 (by decide) (fun w h => (List.mem_cons_of_mem _ (List.mem_append_left _ (List.mem_append_right _ h)))) (List.mem_of_getElem? (i := 6) rfl) rfl rfl dX0_becomeLike_63 ?_
    refine g_putf C k (by omega) e41 rfl 5 (by decide) (fun w h => (List.mem_cons_of_mem _ (List.mem_append_left _ (List.mem_append_right _ h)))) tyX0 tyX0_ok nmX0 (List.mem_of_getElem? (i := 6) rfl) rfl rfl rfl rfl (Nat.le_of_ble_eq_true rfl) dX0_becomeLike_66 (fun el48 e49 o50 => ?_)
    replace e49 : el48 k = .inr (0, [.ref (ad (k + 1)), .int (M 0), .int (M 1), .int (M 2), .int (M 3), .int (M 5), .int (M0 4)]) := e49
    have m51 := (o50 (k + 1) (by omega)).trans m43
    have m52 := (o50 k2 (by omega)).trans m44
    have m53 := (o50 (k2 + 1) (by omega)).trans m45
    have m54 : ∀ q, q < 7 → el48 (k2 + 2 + q) = .inr (1, [.int (St q), .int (We q)]) := fun q hq => (o50 (k2 + 2 + q) (by omega)).trans (m46 q hq)
    have m55 : ∀ q, q < 7 → el48 (k + 2 + q) = .inr (1, [.int (St q), .int (We q)]) := fun q hq => (o50 (k + 2 + q) (by omega)).trans (m47 q hq)
    refine g_aload_n C 1 rfl dX0_becomeLike_69 ?_
    refine g_aload_n C 2 rfl dX0_becomeLike_70 ?_
    refine g_getf C k2 (by omega) m52 rfl 6 (by decide) (fun w h => (List.mem_cons_of_mem _ (List.mem_append_left _ (List.mem_append_right _ h)))) (List.mem_of_getElem? (i := 7) rfl) rfl rfl dX0_becomeLike_71 ?_
    refine g_putf C k (by omega) e49 rfl 6 (by decide) (fun w h => (List.mem_cons_of_mem _ (List.mem_append_left _ (List.mem_append_right _ h)))) tyX0 tyX0_ok nmX0 (List.mem_of_getElem? (i := 7) rfl) rfl rfl rfl rfl (Nat.le_of_ble_eq_true rfl) dX0_becomeLike_74 (fun el56 e57 o58 => ?_)
    replace e57 : el56 k = .inr (0, [.ref (ad (k + 1)), .int (M 0), .int (M 1), .int (M 2), .int (M 3), .int (M 5), .int (M 4)]) := e57
    have m59 := (o58 (k + 1) (by omega)).trans m51
    have m60 := (o58 k2 (by omega)).trans m52
    have m61 := (o58 (k2 + 1) (by omega)).trans m53
    have m62 : ∀ q, q < 7 → el56 (k2 + 2 + q) = .inr (1, [.int (St q), .int (We q)]) := fun q hq => (o58 (k2 + 2 + q) (by omega)).trans (m54 q hq)
    have m63 : ∀ q, q < 7 → el56 (k + 2 + q) = .inr (1, [.int (St q), .int (We q)]) := fun q hq => (o58 (k + 2 + q) (by omega)).trans (m55 q hq)
    exact g_vret C rfl dX0_becomeLike_77 el56 rfl rfl rfl ⟨⟨e57, ⟨_, m59, fun i hi => (hg4 i hi)⟩, m63⟩, fun j hj => (o58 j (by omega)).trans ((o50 j (by omega)).trans ((o42 j (by omega)).trans ((o34 j (by omega)).trans ((o26 j (by omega)).trans ((o18 j (by omega)).trans (h1.2.2 j (by omega)))))))⟩ (Nat.le_of_ble_eq_true rfl) (Nat.le_of_ble_eq_true rfl)
  · -- loop 2: its body
    have m64 := (h1.2.2 (k) (by omega)).trans hM1
    have m65 := (h1.2.2 (k + 1) (by omega)).trans hA3
    have m66 := (h1.2.2 (k2) (by omega)).trans hM6
    have m67 := (h1.2.2 (k2 + 1) (by omega)).trans hA8
    have m68 : ∀ q, q < 7 → el1 (k2 + 2 + q) = .inr (1, [.int (St q), .int (We q)]) := fun q hq => (h1.2.2 (k2 + 2 + q) (by omega)).trans (hp10 q hq)
    have hpi := h1.2.1 i (by omega) hi
    refine g_iload_n C 0 rfl dX0_becomeLike_2 ?_
    refine g_bipush C (v := nI 7) dX0_becomeLike_3 (by decide) ?_
    refine g_icmp_ge C (tgt := 29) dX0_becomeLike_5 (by decide) (fun c5 => ?_) (fun c5 => ?_)
    · -- 29
      have c5 : 7 ≤ i := (nI_leI (by omega) (by omega)).mp c5
      exact absurd c5 (by omega)
    · -- 8
      have c5 : i < 7 := Nat.lt_of_not_le (fun z => c5 ((nI_leI (by omega) (by omega)).mpr z))
      refine g_aload_n C 1 rfl dX0_becomeLike_8 ?_
      refine g_getf C k (by omega) m64 rfl 0 (by decide) (fun w h => (List.mem_cons_of_mem _ (List.mem_append_left _ (List.mem_append_right _ h)))) (List.mem_of_getElem? (i := 1) rfl) rfl rfl dX0_becomeLike_9 ?_
      refine g_iload_n C 0 rfl dX0_becomeLike_12 ?_
      refine g_aald C (k + 1) (by omega) 3 rfl m65 i rfl (by omega) (by decide) (hg4 i (by omega)) dX0_becomeLike_13 ?_
      refine g_aload_n C 2 rfl dX0_becomeLike_14 ?_
      refine g_getf C k2 (by omega) m66 rfl 0 (by decide) (fun w h => (List.mem_cons_of_mem _ (List.mem_append_left _ (List.mem_append_right _ h)))) (List.mem_of_getElem? (i := 1) rfl) rfl rfl dX0_becomeLike_15 ?_
      refine g_iload_n C 0 rfl dX0_becomeLike_18 ?_
      refine g_aald C (k2 + 1) (by omega) 3 rfl m67 i rfl (by omega) (by decide) (hg9 i (by omega)) dX0_becomeLike_19 ?_
      refine g_callv C (r_V C (st := []) (c_X1_becomeLike l V (by omega) (by omega) (by omega) hpi (m68 i (by omega))) (cwV 1 C.ts gX0_becomeLike_X1_becomeLike rfl rfl rfl (by decide +kernel) ⟨(Nat.le_of_ble_eq_true rfl), (Nat.le_of_ble_eq_true rfl)⟩) (by omega) hpi rfl rfl rfl (Nat.le_of_ble_eq_true rfl) dX0_becomeLike_20 ⟨(Nat.le_of_ble_eq_true rfl), (Nat.le_of_ble_eq_true rfl)⟩) (fun u hu => ?_)
      refine g_iinc C 0 rfl (v := nI (i + 1)) (lv' := [(2, .int (nI (i + 1))), (0, .ref (ad k)), (1, .ref (ad k2))]) dX0_becomeLike_23 (nI_add _ _) (by decide) rfl ?_
      refine g_goto C (tgt := 2) dX0_becomeLike_26 (by decide) ?_
      refine g_lv [0, 1, 2] (lv' := [(2, .int (nI (i + 1))), (0, .ref (ad k)), (1, .ref (ad k2))]) rfl ?_
      exact ih _ ⟨fun q hq => by
          by_cases e : q = i
          · subst e; exact hu.1
          · exact (hu.2 _ (by omega)).trans (h1.1 q (by omega)), fun q hq hq2 => (hu.2 _ (by omega)).trans (h1.2.1 q (by omega) hq2), fun j hj => (hu.2 j (by omega)).trans (h1.2.2 j hj)⟩

set_option maxHeartbeats 4000000 in
set_option maxRecDepth 100000 in
theorem c_X0_markRow (l : Launch) (V : gT) {n : Nat} {ad : Nat → Nat} {el : Nat → va_E} {k : Nat} {M St We : Nat → Int32} (hk : k + 9 ≤ n) (h : MacAt V ad el k M St We) {kp ks : Nat} {pl f t : Nat → Int32} (r : Nat) (hr : r < 5) (hkp : kp < n) (hpl : el kp = .inl (V.2 1, 30, .inl pl)) (hks : ks + 3 ≤ n) (hs : ShtAt V ad el ks f t) (hd1 : ks + 3 ≤ k ∨ k + 9 ≤ ks) (hd2 : kp ≠ ks + 1) : TT l V yX0_markRow wsX0_markRow { frames := 2, cells := 0, slots := 0, locals := 42 } n ad el [.ref (ad k), .int (nI r), .ref (ad kp), .ref (ad ks)] (QVw V n ad (fun u => ∃ f1 : Nat → Int32, u (ks + 1) = .inl (V.2 0, 30, .inl f1) ∧ (∀ q, q < 6 → f1 (6 * r + q) = s_stamp M St We pl r q) ∧ (∀ j, j < 6 * r → f1 j = f j) ∧ ∀ j, j ≠ ks + 1 → u j = el j)) 0 0 := by
  refine TT.body (cc := cX0_markRow) (maxL := 8) (ret := none) (by decide) rfl (Nat.le_of_ble_eq_true rfl) ?_
  intro p e s m below meth c C hnm
  refine g_lv [0, 1, 2, 3] (lv' := [(0, .ref (ad k)), (1, .int (nI r)), (2, .ref (ad kp)), (3, .ref (ad ks))]) rfl ?_
  obtain ⟨hM1, ⟨g2, hA3, hg4⟩, hp5⟩ := id h
  obtain ⟨hs6, ha7, hb8⟩ := id hs
  refine g_aload_n C 0 rfl dX0_markRow_0 ?_
  refine g_getf C k (by omega) hM1 rfl 3 (by decide) (fun w h => (List.mem_cons_of_mem _ (List.mem_append_left _ (List.mem_append_left _ (List.mem_append_right _ h))))) (List.mem_of_getElem? (i := 1) rfl) rfl rfl dX0_markRow_1 ?_
  refine g_bipush C (v := (-6)) dX0_markRow_4 (by decide) ?_
  refine g_bipush C (v := nI 6) dX0_markRow_6 (by decide) ?_
  refine g_calli C (r_SN C (st := []) (c_X4_isWithin l V (M 2) ((-6)) 6) ⟨va_cnB 3 C.ts gX0_markRow_X4_isWithin_n57 rfl rfl rfl (C.kx.2.2.2.1 _ (List.mem_of_getElem? (i := 22) rfl)) (C.ts _ (List.mem_of_getElem? (i := 3) rfl)) (by decide +kernel) ⟨(Nat.le_of_ble_eq_true rfl), (Nat.le_of_ble_eq_true rfl)⟩, C.ts _ (List.mem_of_getElem? (i := 2) rfl), trivial⟩ rfl rfl (Nat.le_of_ble_eq_true rfl) dX0_markRow_8 ⟨(Nat.le_of_ble_eq_true rfl), (Nat.le_of_ble_eq_true rfl)⟩) (fun r u hu => ?_)
  subst hu
  refine g_via (fun v : Int32 => v = s_offF M) 19 (fun _ => [(0, .ref (ad k)), (1, .int (nI r)), (2, .ref (ad kp)), (3, .ref (ad ks))]) (fun v => .int v :: []) (fun v hv => ?_) (fun J => ?_)
  · -- join
    subst hv
    refine g_istore C (lv' := [(4, .int (s_offF M)), (0, .ref (ad k)), (1, .int (nI r)), (2, .ref (ad kp)), (3, .ref (ad ks))]) dX0_markRow_19 (by decide) rfl ?_
    refine g_iconst C (v := nI 0) dX0_markRow_21 (by decide) ?_
    refine g_istore C (lv' := [(5, .int (nI 0)), (4, .int (s_offF M)), (0, .ref (ad k)), (1, .int (nI r)), (2, .ref (ad kp)), (3, .ref (ad ks))]) dX0_markRow_22 (by decide) rfl ?_
    refine g_lv [0, 1, 2, 3, 4, 5] (lv' := [(5, .int (nI 0)), (4, .int (s_offF M)), (0, .ref (ad k)), (1, .int (nI r)), (2, .ref (ad kp)), (3, .ref (ad ks))]) rfl ?_
    refine g_forE 6 (fun (i : Nat) => [(5, .int (nI i)), (4, .int (s_offF M)), (0, .ref (ad k)), (1, .int (nI r)), (2, .ref (ad kp)), (3, .ref (ad ks))]) (fun i el1 => ∃ f1 : Nat → Int32, el1 (ks + 1) = .inl (V.2 0, 30, .inl f1) ∧ (∀ q, q < i → f1 (6 * r + q) = s_stamp M St We pl r q) ∧ (∀ j, j < 6 * r → f1 j = f j) ∧ ∀ j, j ≠ ks + 1 → el1 j = el j) ⟨f, ha7, fun q hq => absurd hq (by omega), fun j _ => rfl, fun j _ => rfl⟩ (fun el1 h1 => ?_) (fun i el1 hi h1 ih => ?_)
    · -- loop 24: its end
      obtain ⟨f1, a1, a2, a3, a4⟩ := id h1
      have m9 := (a4 (k) (by omega)).trans hM1
      have m10 := (a4 (k + 1) (by omega)).trans hA3
      have m11 := (a4 (ks) (by omega)).trans hs6
      have m12 := (a4 (ks + 2) (by omega)).trans hb8
      have m13 := (a4 (kp) (by omega)).trans hpl
      have m14 : ∀ q, q < 7 → el1 (k + 2 + q) = .inr (1, [.int (St q), .int (We q)]) := fun q hq => (a4 (k + 2 + q) (by omega)).trans (hp5 q hq)
      refine g_iload C 0 rfl dX0_markRow_24 ?_
      refine g_bipush C (v := nI 6) dX0_markRow_26 (by decide) ?_
      refine g_icmp_ge C (tgt := 96) dX0_markRow_28 (by decide) (fun c28 => ?_) (fun c28 => ?_)
      rotate_left
      · exact absurd c28 (by decide)
      exact g_vret C rfl dX0_markRow_96 el1 rfl rfl rfl ⟨f1, a1, a2, a3, a4⟩ (Nat.le_of_ble_eq_true rfl) (Nat.le_of_ble_eq_true rfl)
    · -- loop 24: its body
      obtain ⟨f1, a1, a2, a3, a4⟩ := id h1
      have m15 := (a4 (k) (by omega)).trans hM1
      have m16 := (a4 (k + 1) (by omega)).trans hA3
      have m17 := (a4 (ks) (by omega)).trans hs6
      have m18 := (a4 (ks + 2) (by omega)).trans hb8
      have m19 := (a4 (kp) (by omega)).trans hpl
      have m20 : ∀ q, q < 7 → el1 (k + 2 + q) = .inr (1, [.int (St q), .int (We q)]) := fun q hq => (a4 (k + 2 + q) (by omega)).trans (hp5 q hq)
      refine g_iload C 0 rfl dX0_markRow_24 ?_
      refine g_bipush C (v := nI 6) dX0_markRow_26 (by decide) ?_
      refine g_icmp_ge C (tgt := 96) dX0_markRow_28 (by decide) (fun c28 => ?_) (fun c28 => ?_)
      · -- 96
        have c28 : 6 ≤ i := (nI_leI (by omega) (by omega)).mp c28
        exact absurd c28 (by omega)
      · -- 31
        have c28 : i < 6 := Nat.lt_of_not_le (fun z => c28 ((nI_leI (by omega) (by omega)).mpr z))
        refine g_bipush C (v := nI 6) dX0_markRow_31 (by decide) ?_
        refine g_iload_n C 3 rfl dX0_markRow_33 ?_
        refine g_imul C (v := nI (6 * r)) dX0_markRow_34 (pk_mul _ _) ?_
        refine g_iload C 0 rfl dX0_markRow_35 ?_
        refine g_iadd C (v := nI ((6 * r) + i)) dX0_markRow_37 (nI_add _ _) ?_
        refine g_istore C (lv' := [(6, .int (nI ((6 * r) + i))), (5, .int (nI i)), (4, .int (s_offF M)), (0, .ref (ad k)), (1, .int (nI r)), (2, .ref (ad kp)), (3, .ref (ad ks))]) dX0_markRow_38 (by decide) rfl ?_
        refine g_iload C 2 rfl dX0_markRow_40 ?_
        refine g_aload_n C 3 rfl dX0_markRow_42 ?_
        refine g_iload C 1 rfl dX0_markRow_43 ?_
        refine g_calli C (r_V C (st := [.int (s_offF M)]) (c_X0_holeFaults l V (by omega) ⟨m15, ⟨_, m16, fun i hi => (hg4 i hi)⟩, m20⟩ i (by omega)) (cwV 1 C.ts gX0_markRow_X0_holeFaults rfl rfl rfl (by decide +kernel) ⟨(Nat.le_of_ble_eq_true rfl), (Nat.le_of_ble_eq_true rfl)⟩) (by omega) m15 rfl rfl rfl (Nat.le_of_ble_eq_true rfl) dX0_markRow_45 ⟨(Nat.le_of_ble_eq_true rfl), (Nat.le_of_ble_eq_true rfl)⟩) (fun r u hu => ?_)
        subst hu
        refine g_ior C (v := (s_offF M) ||| (s_hole St We i)) dX0_markRow_48 rfl ?_
        refine g_istore C (lv' := [(7, .int ((s_offF M) ||| (s_hole St We i))), (6, .int (nI ((6 * r) + i))), (5, .int (nI i)), (4, .int (s_offF M)), (0, .ref (ad k)), (1, .int (nI r)), (2, .ref (ad kp)), (3, .ref (ad ks))]) dX0_markRow_49 (by decide) rfl ?_
        refine g_aload_n C 6 rfl dX0_markRow_51 ?_
        refine g_iload C 1 rfl dX0_markRow_52 ?_
        refine g_zald C kp (by omega) m19 ((6 * r) + i) rfl (by omega) (by decide) dX0_markRow_54 ?_
        refine g_if_eq C (tgt := 65) dX0_markRow_55 (by decide) (fun c55 => ?_) (fun c55 => ?_)
        · -- 65
          refine g_aload_n C 4 rfl dX0_markRow_65 ?_
          refine g_iload C 2 rfl dX0_markRow_66 ?_
          refine g_calli C (r_V C (st := []) (c_X0_hasWatermark l V (by omega) ⟨m15, ⟨_, m16, fun i hi => (hg4 i hi)⟩, m20⟩ i) (cwV 1 C.ts gX0_markRow_X0_hasWatermark rfl rfl rfl (by decide +kernel) ⟨(Nat.le_of_ble_eq_true rfl), (Nat.le_of_ble_eq_true rfl)⟩) (by omega) m15 rfl rfl rfl (Nat.le_of_ble_eq_true rfl) dX0_markRow_68 ⟨(Nat.le_of_ble_eq_true rfl), (Nat.le_of_ble_eq_true rfl)⟩) (fun r u hu => ?_)
          subst hu
          refine g_if_ne C (tgt := 81) dX0_markRow_71 (by decide) (fun c71 => ?_) (fun c71 => ?_)
          · -- 81
            refine g_aload_n C 7 rfl dX0_markRow_81 ?_
            refine g_getfN C ks (by omega) m17 rfl 0 (by decide) (fun w h => (List.mem_cons_of_mem _ (List.mem_append_left _ (List.mem_append_right _ h)))) (List.mem_of_getElem? (i := 12) rfl) rfl rfl dX0_markRow_82 ?_
            refine g_iload C 1 rfl dX0_markRow_85 ?_
            refine g_iload C 0 rfl dX0_markRow_87 ?_
            refine g_iast C (ks + 1) (by omega) a1 ((6 * r) + i) rfl (by omega) (by decide) dX0_markRow_89 (fun el21 e22 o23 => ?_)
            have m24 := (o23 k (by omega)).trans m15
            have m25 := (o23 (k + 1) (by omega)).trans m16
            have m26 := (o23 ks (by omega)).trans m17
            have m27 := (o23 (ks + 2) (by omega)).trans m18
            have m28 := (o23 kp (by omega)).trans m19
            have m29 : ∀ q, q < 7 → el21 (k + 2 + q) = .inr (1, [.int (St q), .int (We q)]) := fun q hq => (o23 (k + 2 + q) (by omega)).trans (m20 q hq)
            refine g_iinc C 2 rfl (v := nI (i + 1)) (lv' := [(5, .int (nI (i + 1))), (7, .int ((s_offF M) ||| (s_hole St We i))), (6, .int (nI ((6 * r) + i))), (4, .int (s_offF M)), (0, .ref (ad k)), (1, .int (nI r)), (2, .ref (ad kp)), (3, .ref (ad ks))]) dX0_markRow_90 (nI_add _ _) (by decide) rfl ?_
            refine g_goto C (tgt := 24) dX0_markRow_93 (by decide) ?_
            refine g_lv [0, 3, 4, 5, 6, 7] (lv' := [(5, .int (nI (i + 1))), (4, .int (s_offF M)), (0, .ref (ad k)), (1, .int (nI r)), (2, .ref (ad kp)), (3, .ref (ad ks))]) rfl ?_
            have e9 : s_stamp M St We pl r i = ((s_offF M) ||| (s_hole St We i)) := by rw [s_stamp, if_neg c71, if_pos c55]
            exact ih _ ⟨_, e22, fun q hq => by
                by_cases e : q = i
                · subst e; rw [pk_us]; exact e9.symm
                · rw [pk_un (by omega)]; exact a2 q (by omega), fun j hj => by
                rw [pk_un (by omega)]; exact a3 j hj, fun j hj => (o23 j hj).trans (a4 j hj)⟩
          · -- 74
            refine g_iload C 0 rfl dX0_markRow_74 ?_
            refine g_bipush C (v := nI 16) dX0_markRow_76 (by decide) ?_
            refine g_ior C (v := ((s_offF M) ||| (s_hole St We i)) ||| 16) dX0_markRow_78 rfl ?_
            refine g_istore C (lv' := [(7, .int (((s_offF M) ||| (s_hole St We i)) ||| 16)), (6, .int (nI ((6 * r) + i))), (5, .int (nI i)), (4, .int (s_offF M)), (0, .ref (ad k)), (1, .int (nI r)), (2, .ref (ad kp)), (3, .ref (ad ks))]) dX0_markRow_79 (by decide) rfl ?_
            refine g_aload_n C 7 rfl dX0_markRow_81 ?_
            refine g_getfN C ks (by omega) m17 rfl 0 (by decide) (fun w h => (List.mem_cons_of_mem _ (List.mem_append_left _ (List.mem_append_right _ h)))) (List.mem_of_getElem? (i := 12) rfl) rfl rfl dX0_markRow_82 ?_
            refine g_iload C 1 rfl dX0_markRow_85 ?_
            refine g_iload C 0 rfl dX0_markRow_87 ?_
            refine g_iast C (ks + 1) (by omega) a1 ((6 * r) + i) rfl (by omega) (by decide) dX0_markRow_89 (fun el30 e31 o32 => ?_)
            have m33 := (o32 k (by omega)).trans m15
            have m34 := (o32 (k + 1) (by omega)).trans m16
            have m35 := (o32 ks (by omega)).trans m17
            have m36 := (o32 (ks + 2) (by omega)).trans m18
            have m37 := (o32 kp (by omega)).trans m19
            have m38 : ∀ q, q < 7 → el30 (k + 2 + q) = .inr (1, [.int (St q), .int (We q)]) := fun q hq => (o32 (k + 2 + q) (by omega)).trans (m20 q hq)
            refine g_iinc C 2 rfl (v := nI (i + 1)) (lv' := [(5, .int (nI (i + 1))), (7, .int (((s_offF M) ||| (s_hole St We i)) ||| 16)), (6, .int (nI ((6 * r) + i))), (4, .int (s_offF M)), (0, .ref (ad k)), (1, .int (nI r)), (2, .ref (ad kp)), (3, .ref (ad ks))]) dX0_markRow_90 (nI_add _ _) (by decide) rfl ?_
            refine g_goto C (tgt := 24) dX0_markRow_93 (by decide) ?_
            refine g_lv [0, 3, 4, 5, 6, 7] (lv' := [(5, .int (nI (i + 1))), (4, .int (s_offF M)), (0, .ref (ad k)), (1, .int (nI r)), (2, .ref (ad kp)), (3, .ref (ad ks))]) rfl ?_
            have e9 : s_stamp M St We pl r i = (((s_offF M) ||| (s_hole St We i)) ||| 16) := by rw [s_stamp, if_pos c71, if_pos c55]
            exact ih _ ⟨_, e31, fun q hq => by
                by_cases e : q = i
                · subst e; rw [pk_us]; exact e9.symm
                · rw [pk_un (by omega)]; exact a2 q (by omega), fun j hj => by
                rw [pk_un (by omega)]; exact a3 j hj, fun j hj => (o32 j hj).trans (a4 j hj)⟩
        · -- 58
          refine g_iload C 0 rfl dX0_markRow_58 ?_
          refine g_bipush C (v := nI 8) dX0_markRow_60 (by decide) ?_
          refine g_ior C (v := ((s_offF M) ||| (s_hole St We i)) ||| 8) dX0_markRow_62 rfl ?_
          refine g_istore C (lv' := [(7, .int (((s_offF M) ||| (s_hole St We i)) ||| 8)), (6, .int (nI ((6 * r) + i))), (5, .int (nI i)), (4, .int (s_offF M)), (0, .ref (ad k)), (1, .int (nI r)), (2, .ref (ad kp)), (3, .ref (ad ks))]) dX0_markRow_63 (by decide) rfl ?_
          refine g_aload_n C 4 rfl dX0_markRow_65 ?_
          refine g_iload C 2 rfl dX0_markRow_66 ?_
          refine g_calli C (r_V C (st := []) (c_X0_hasWatermark l V (by omega) ⟨m15, ⟨_, m16, fun i hi => (hg4 i hi)⟩, m20⟩ i) (cwV 1 C.ts gX0_markRow_X0_hasWatermark rfl rfl rfl (by decide +kernel) ⟨(Nat.le_of_ble_eq_true rfl), (Nat.le_of_ble_eq_true rfl)⟩) (by omega) m15 rfl rfl rfl (Nat.le_of_ble_eq_true rfl) dX0_markRow_68 ⟨(Nat.le_of_ble_eq_true rfl), (Nat.le_of_ble_eq_true rfl)⟩) (fun r u hu => ?_)
          subst hu
          refine g_if_ne C (tgt := 81) dX0_markRow_71 (by decide) (fun c71 => ?_) (fun c71 => ?_)
          · -- 81
            refine g_aload_n C 7 rfl dX0_markRow_81 ?_
            refine g_getfN C ks (by omega) m17 rfl 0 (by decide) (fun w h => (List.mem_cons_of_mem _ (List.mem_append_left _ (List.mem_append_right _ h)))) (List.mem_of_getElem? (i := 12) rfl) rfl rfl dX0_markRow_82 ?_
            refine g_iload C 1 rfl dX0_markRow_85 ?_
            refine g_iload C 0 rfl dX0_markRow_87 ?_
            refine g_iast C (ks + 1) (by omega) a1 ((6 * r) + i) rfl (by omega) (by decide) dX0_markRow_89 (fun el39 e40 o41 => ?_)
            have m42 := (o41 k (by omega)).trans m15
            have m43 := (o41 (k + 1) (by omega)).trans m16
            have m44 := (o41 ks (by omega)).trans m17
            have m45 := (o41 (ks + 2) (by omega)).trans m18
            have m46 := (o41 kp (by omega)).trans m19
            have m47 : ∀ q, q < 7 → el39 (k + 2 + q) = .inr (1, [.int (St q), .int (We q)]) := fun q hq => (o41 (k + 2 + q) (by omega)).trans (m20 q hq)
            refine g_iinc C 2 rfl (v := nI (i + 1)) (lv' := [(5, .int (nI (i + 1))), (7, .int (((s_offF M) ||| (s_hole St We i)) ||| 8)), (6, .int (nI ((6 * r) + i))), (4, .int (s_offF M)), (0, .ref (ad k)), (1, .int (nI r)), (2, .ref (ad kp)), (3, .ref (ad ks))]) dX0_markRow_90 (nI_add _ _) (by decide) rfl ?_
            refine g_goto C (tgt := 24) dX0_markRow_93 (by decide) ?_
            refine g_lv [0, 3, 4, 5, 6, 7] (lv' := [(5, .int (nI (i + 1))), (4, .int (s_offF M)), (0, .ref (ad k)), (1, .int (nI r)), (2, .ref (ad kp)), (3, .ref (ad ks))]) rfl ?_
            have e9 : s_stamp M St We pl r i = (((s_offF M) ||| (s_hole St We i)) ||| 8) := by rw [s_stamp, if_neg c71, if_neg c55]
            exact ih _ ⟨_, e40, fun q hq => by
                by_cases e : q = i
                · subst e; rw [pk_us]; exact e9.symm
                · rw [pk_un (by omega)]; exact a2 q (by omega), fun j hj => by
                rw [pk_un (by omega)]; exact a3 j hj, fun j hj => (o41 j hj).trans (a4 j hj)⟩
          · -- 74
            refine g_iload C 0 rfl dX0_markRow_74 ?_
            refine g_bipush C (v := nI 16) dX0_markRow_76 (by decide) ?_
            refine g_ior C (v := (((s_offF M) ||| (s_hole St We i)) ||| 8) ||| 16) dX0_markRow_78 rfl ?_
            refine g_istore C (lv' := [(7, .int ((((s_offF M) ||| (s_hole St We i)) ||| 8) ||| 16)), (6, .int (nI ((6 * r) + i))), (5, .int (nI i)), (4, .int (s_offF M)), (0, .ref (ad k)), (1, .int (nI r)), (2, .ref (ad kp)), (3, .ref (ad ks))]) dX0_markRow_79 (by decide) rfl ?_
            refine g_aload_n C 7 rfl dX0_markRow_81 ?_
            refine g_getfN C ks (by omega) m17 rfl 0 (by decide) (fun w h => (List.mem_cons_of_mem _ (List.mem_append_left _ (List.mem_append_right _ h)))) (List.mem_of_getElem? (i := 12) rfl) rfl rfl dX0_markRow_82 ?_
            refine g_iload C 1 rfl dX0_markRow_85 ?_
            refine g_iload C 0 rfl dX0_markRow_87 ?_
            refine g_iast C (ks + 1) (by omega) a1 ((6 * r) + i) rfl (by omega) (by decide) dX0_markRow_89 (fun el48 e49 o50 => ?_)
            have m51 := (o50 k (by omega)).trans m15
            have m52 := (o50 (k + 1) (by omega)).trans m16
            have m53 := (o50 ks (by omega)).trans m17
            have m54 := (o50 (ks + 2) (by omega)).trans m18
            have m55 := (o50 kp (by omega)).trans m19
            have m56 : ∀ q, q < 7 → el48 (k + 2 + q) = .inr (1, [.int (St q), .int (We q)]) := fun q hq => (o50 (k + 2 + q) (by omega)).trans (m20 q hq)
            refine g_iinc C 2 rfl (v := nI (i + 1)) (lv' := [(5, .int (nI (i + 1))), (7, .int ((((s_offF M) ||| (s_hole St We i)) ||| 8) ||| 16)), (6, .int (nI ((6 * r) + i))), (4, .int (s_offF M)), (0, .ref (ad k)), (1, .int (nI r)), (2, .ref (ad kp)), (3, .ref (ad ks))]) dX0_markRow_90 (nI_add _ _) (by decide) rfl ?_
            refine g_goto C (tgt := 24) dX0_markRow_93 (by decide) ?_
            refine g_lv [0, 3, 4, 5, 6, 7] (lv' := [(5, .int (nI (i + 1))), (4, .int (s_offF M)), (0, .ref (ad k)), (1, .int (nI r)), (2, .ref (ad kp)), (3, .ref (ad ks))]) rfl ?_
            have e9 : s_stamp M St We pl r i = ((((s_offF M) ||| (s_hole St We i)) ||| 8) ||| 16) := by rw [s_stamp, if_pos c71, if_neg c55]
            exact ih _ ⟨_, e49, fun q hq => by
                by_cases e : q = i
                · subst e; rw [pk_us]; exact e9.symm
                · rw [pk_un (by omega)]; exact a2 q (by omega), fun j hj => by
                rw [pk_un (by omega)]; exact a3 j hj, fun j hj => (o50 j hj).trans (a4 j hj)⟩
  · -- ways
    refine g_if_eq C (tgt := 18) dX0_markRow_11 (by decide) (fun c11 => ?_) (fun c11 => ?_)
    · -- 18
      refine g_iconst C (v := nI 1) dX0_markRow_18 (by decide) ?_
      exact J _ ((if_pos c11).symm)
    · -- 14
      refine g_iconst C (v := nI 0) dX0_markRow_14 (by decide) ?_
      refine g_goto C (tgt := 19) dX0_markRow_15 (by decide) ?_
      exact J _ ((if_neg c11).symm)

set_option maxHeartbeats 4000000 in
set_option maxRecDepth 100000 in
theorem c_X0_perforate (l : Launch) (V : gT) {n : Nat} {ad : Nat → Nat} {el : Nat → va_E} {k : Nat} {M St We : Nat → Int32} (hk : k + 9 ≤ n) (h : MacAt V ad el k M St We) {kp ks : Nat} {pl f t : Nat → Int32} (hkp : kp < n) (hpl : el kp = .inl (V.2 1, 30, .inl pl)) (hks : ks + 3 ≤ n) (hs : ShtAt V ad el ks f t) (hd1 : ks + 3 ≤ k ∨ k + 9 ≤ ks) (hd2 : kp ≠ ks + 1) (hd3 : kp < k ∨ k + 9 ≤ kp) : TT l V yX0_perforate wsX0_perforate { frames := 3, cells := 0, slots := 0, locals := 69 } n ad el [.ref (ad k), .ref (ad kp), .ref (ad ks)] (QVw V n ad (fun u => MacAt V ad u k (s_end M) St (s_W St We 5) ∧ (∃ f1 : Nat → Int32, ShtAt V ad u ks f1 t ∧ ∀ j, j < 30 → f1 j = s_fault M St We pl j) ∧ ∀ j, (j < k ∨ k + 9 ≤ j) → j ≠ ks + 1 → u j = el j)) 0 0 := by
  refine TT.body (cc := cX0_perforate) (maxL := 4) (ret := none) (by decide) rfl (Nat.le_of_ble_eq_true rfl) ?_
  intro p e s m below meth c C hnm
  refine g_lv [0, 1, 2] (lv' := [(0, .ref (ad k)), (1, .ref (ad kp)), (2, .ref (ad ks))]) rfl ?_
  obtain ⟨hM1, ⟨g2, hA3, hg4⟩, hp5⟩ := id h
  obtain ⟨hs6, ha7, hb8⟩ := id hs
  refine g_iconst C (v := nI 0) dX0_perforate_0 (by decide) ?_
  refine g_istore_n C (lv' := [(3, .int (nI 0)), (0, .ref (ad k)), (1, .ref (ad kp)), (2, .ref (ad ks))]) dX0_perforate_1 (by decide) rfl ?_
  refine g_lv [0, 1, 2, 3] (lv' := [(3, .int (nI 0)), (0, .ref (ad k)), (1, .ref (ad kp)), (2, .ref (ad ks))]) rfl ?_
  refine g_forE 5 (fun (i : Nat) => [(3, .int (nI i)), (0, .ref (ad k)), (1, .ref (ad kp)), (2, .ref (ad ks))]) (fun i el1 => MacAt V ad el1 k (s_M M i) St (s_W St We i) ∧ (∃ f1 : Nat → Int32, el1 (ks + 1) = .inl (V.2 0, 30, .inl f1) ∧ ∀ j, j < 6 * i → f1 j = s_fault M St We pl j) ∧ ∀ j, (j < k ∨ k + 9 ≤ j) → j ≠ ks + 1 → el1 j = el j) ⟨h, ⟨f, ha7, fun j hj => absurd hj (by omega)⟩, fun j _ _ => rfl⟩ (fun el1 h1 => ?_) (fun i el1 hi h1 ih => ?_)
  · -- loop 2: its end
    obtain ⟨b1, ⟨f1, a1, a2⟩, a4⟩ := id h1
    have m9 := (a4 (ks) (by omega) (by omega)).trans hs6
    have m10 := (a4 (ks + 2) (by omega) (by omega)).trans hb8
    have m11 := (a4 (kp) (by omega) (by omega)).trans hpl
    obtain ⟨hM12, ⟨g13, hA14, hg15⟩, hp16⟩ := id b1
    refine g_iload_n C 0 rfl dX0_perforate_2 ?_
    refine g_iconst C (v := nI 5) dX0_perforate_3 (by decide) ?_
    refine g_icmp_ge C (tgt := 60) dX0_perforate_4 (by decide) (fun c4 => ?_) (fun c4 => ?_)
    rotate_left
    · exact absurd c4 (by decide)
    refine g_aload_n C 1 rfl dX0_perforate_60 ?_
    refine g_bipush C (v := nI 10) dX0_perforate_61 (by decide) ?_
    refine g_bipush C (v := nI 30) dX0_perforate_63 (by decide) ?_
    refine g_aload_n C 1 rfl dX0_perforate_65 ?_
    refine g_getf C k (by omega) hM12 rfl 1 (by decide) (fun w h => (List.mem_cons_of_mem _ (List.mem_append_left _ (List.mem_append_left _ (List.mem_append_right _ h))))) (List.mem_of_getElem? (i := 2) rfl) rfl rfl dX0_perforate_66 ?_
    refine g_aload_n C 1 rfl dX0_perforate_69 ?_
    refine g_getf C k (by omega) hM12 rfl 2 (by decide) (fun w h => (List.mem_cons_of_mem _ (List.mem_append_left _ (List.mem_append_left _ (List.mem_append_right _ h))))) (List.mem_of_getElem? (i := 5) rfl) rfl rfl dX0_perforate_70 ?_
    refine g_iadd C (v := (s_M M 5 0) + (s_M M 5 1)) dX0_perforate_73 rfl ?_
    refine g_mmin C (v := s_min 30 ((s_M M 5 0) + (s_M M 5 1))) rfl (List.mem_of_getElem? (i := 6) rfl) (List.mem_of_getElem? (i := 7) rfl) (List.mem_of_getElem? (i := 8) rfl) (List.mem_of_getElem? (i := 9) rfl) (Nat.le_of_ble_eq_true rfl) (Nat.le_of_ble_eq_true rfl) (Nat.le_of_ble_eq_true rfl) (Nat.le_of_ble_eq_true rfl) dX0_perforate_74 ?_
    refine g_mmax C (v := s_max 10 (s_min 30 ((s_M M 5 0) + (s_M M 5 1)))) rfl (List.mem_of_getElem? (i := 10) rfl) (List.mem_of_getElem? (i := 11) rfl) (List.mem_of_getElem? (i := 8) rfl) (List.mem_of_getElem? (i := 12) rfl) (Nat.le_of_ble_eq_true rfl) (Nat.le_of_ble_eq_true rfl) (Nat.le_of_ble_eq_true rfl) (Nat.le_of_ble_eq_true rfl) dX0_perforate_77 ?_
    refine g_putf C k (by omega) hM12 rfl 1 (by decide) (fun w h => (List.mem_cons_of_mem _ (List.mem_append_left _ (List.mem_append_left _ (List.mem_append_right _ h))))) tyX0 tyX0_ok nmX0 (List.mem_of_getElem? (i := 2) rfl) rfl rfl rfl rfl (Nat.le_of_ble_eq_true rfl) dX0_perforate_80 (fun el17 e18 o19 => ?_)
    replace e18 : el17 k = .inr (0, [.ref (ad (k + 1)), .int (s_max 10 (s_min 30 ((s_M M 5 0) + (s_M M 5 1)))), .int (s_M M 5 1), .int (s_M M 5 2), .int (s_M M 5 3), .int (s_M M 5 5), .int (s_M M 5 4)]) := e18
    have m20 := (o19 ks (by omega)).trans m9
    have m21 := (o19 (ks + 2) (by omega)).trans m10
    have m22 := (o19 kp (by omega)).trans m11
    have m23 := (o19 (k + 1) (by omega)).trans hA14
    have m24 := (o19 (ks + 1) (by omega)).trans a1
    have m25 : ∀ q, q < 7 → el17 (k + 2 + q) = .inr (1, [.int (St q), .int (s_W St We 5 q)]) := fun q hq => (o19 (k + 2 + q) (by omega)).trans (hp16 q hq)
    exact g_vret C rfl dX0_perforate_83 el17 rfl rfl rfl ⟨⟨e18, ⟨_, m23, fun i hi => (hg15 i hi)⟩, m25⟩, ⟨f1, ⟨m20, m24, m21⟩, fun j hj => a2 j (by omega)⟩, fun j hj hj2 => (o19 j (by omega)).trans (a4 j hj hj2)⟩ (Nat.le_of_ble_eq_true rfl) (Nat.le_of_ble_eq_true rfl)
  · -- loop 2: its body
    obtain ⟨b1, ⟨f1, a1, a2⟩, a4⟩ := id h1
    have m26 := (a4 (ks) (by omega) (by omega)).trans hs6
    have m27 := (a4 (ks + 2) (by omega) (by omega)).trans hb8
    have m28 := (a4 (kp) (by omega) (by omega)).trans hpl
    obtain ⟨hM29, ⟨g30, hA31, hg32⟩, hp33⟩ := id b1
    refine g_iload_n C 0 rfl dX0_perforate_2 ?_
    refine g_iconst C (v := nI 5) dX0_perforate_3 (by decide) ?_
    refine g_icmp_ge C (tgt := 60) dX0_perforate_4 (by decide) (fun c4 => ?_) (fun c4 => ?_)
    · -- 60
      have c4 : 5 ≤ i := (nI_leI (by omega) (by omega)).mp c4
      exact absurd c4 (by omega)
    · -- 7
      have c4 : i < 5 := Nat.lt_of_not_le (fun z => c4 ((nI_leI (by omega) (by omega)).mpr z))
      refine g_aload_n C 1 rfl dX0_perforate_7 ?_
      refine g_dup C dX0_perforate_8 rfl ?_
      refine g_getf C k (by omega) hM29 rfl 3 (by decide) (fun w h => (List.mem_cons_of_mem _ (List.mem_append_left _ (List.mem_append_left _ (List.mem_append_right _ h))))) (List.mem_of_getElem? (i := 1) rfl) rfl rfl dX0_perforate_9 ?_
      refine g_aload_n C 1 rfl dX0_perforate_12 ?_
      refine g_getf C k (by omega) hM29 rfl 1 (by decide) (fun w h => (List.mem_cons_of_mem _ (List.mem_append_left _ (List.mem_append_left _ (List.mem_append_right _ h))))) (List.mem_of_getElem? (i := 2) rfl) rfl rfl dX0_perforate_13 ?_
      refine g_bipush C (v := nI 20) dX0_perforate_16 (by decide) ?_
      refine g_isub C (v := (s_M M i 0) - 20) dX0_perforate_18 rfl ?_
      refine g_iadd C (v := (s_M M i 2) + ((s_M M i 0) - 20)) dX0_perforate_19 rfl ?_
      refine g_putf C k (by omega) hM29 rfl 3 (by decide) (fun w h => (List.mem_cons_of_mem _ (List.mem_append_left _ (List.mem_append_left _ (List.mem_append_right _ h))))) tyX0 tyX0_ok nmX0 (List.mem_of_getElem? (i := 1) rfl) rfl rfl rfl rfl (Nat.le_of_ble_eq_true rfl) dX0_perforate_20 (fun el34 e35 o36 => ?_)
      replace e35 : el34 k = .inr (0, [.ref (ad (k + 1)), .int (s_M M i 0), .int (s_M M i 1), .int ((s_M M i 2) + ((s_M M i 0) - 20)), .int (s_M M i 3), .int (s_M M i 5), .int (s_M M i 4)]) := e35
      have m37 := (o36 ks (by omega)).trans m26
      have m38 := (o36 (ks + 2) (by omega)).trans m27
      have m39 := (o36 kp (by omega)).trans m28
      have m40 := (o36 (k + 1) (by omega)).trans hA31
      have m41 := (o36 (ks + 1) (by omega)).trans a1
      have m42 : ∀ q, q < 7 → el34 (k + 2 + q) = .inr (1, [.int (St q), .int (s_W St We i q)]) := fun q hq => (o36 (k + 2 + q) (by omega)).trans (hp33 q hq)
      refine g_aload_n C 1 rfl dX0_perforate_23 ?_
      refine g_iload_n C 0 rfl dX0_perforate_24 ?_
      refine g_aload_n C 2 rfl dX0_perforate_25 ?_
      refine g_aload_n C 3 rfl dX0_perforate_26 ?_
      refine g_callv C (r_V C (st := []) (c_X0_markRow l V (k := k) (M := s_err (s_M M i)) (St := St) (We := s_W St We i) (by omega) ⟨e35, ⟨_, m40, fun i hi => (hg32 i hi)⟩, m42⟩ (kp := kp) (ks := ks) i (by omega) (by omega) m39 (by omega) ⟨m37, m41, m38⟩ (by omega) (by omega)) (cwV 3 C.ts gX0_perforate_X0_markRow rfl rfl rfl (by decide +kernel) ⟨(Nat.le_of_ble_eq_true rfl), (Nat.le_of_ble_eq_true rfl)⟩) (by omega) e35 rfl rfl rfl (Nat.le_of_ble_eq_true rfl) dX0_perforate_27 ⟨(Nat.le_of_ble_eq_true rfl), (Nat.le_of_ble_eq_true rfl)⟩) (fun u hu => ?_)
      obtain ⟨f2, u1, u2, u3, u4⟩ := hu
      have hM9 : el34 k = .inr (0, [.ref (ad (k + 1)), .int (s_err (s_M M i) 0), .int (s_err (s_M M i) 1), .int (s_err (s_M M i) 2), .int (s_err (s_M M i) 3), .int (s_err (s_M M i) 5), .int (s_err (s_M M i) 4)]) := e35
      have m43 := (u4 (ks) (by omega)).trans m37
      have m44 := (u4 (ks + 2) (by omega)).trans m38
      have m45 := (u4 (kp) (by omega)).trans m39
      have m46 := (u4 (k + 1) (by omega)).trans m40
      have m47 := (u4 (k) (by omega)).trans hM9
      have m48 : ∀ q, q < 7 → u (k + 2 + q) = .inr (1, [.int (St q), .int (s_W St We i q)]) := fun q hq => (u4 (k + 2 + q) (by omega)).trans (m42 q hq)
      refine g_aload_n C 1 rfl dX0_perforate_30 ?_
      refine g_callv C (r_V C (st := []) (c_X0_strikeAll l V (k := k) (M := s_err (s_M M i)) (St := St) (We := s_W St We i) (by omega) ⟨m47, ⟨_, m46, fun i hi => (hg32 i hi)⟩, m48⟩) (cwV 0 C.ts gX0_perforate_X0_strikeAll rfl rfl rfl (by decide +kernel) ⟨(Nat.le_of_ble_eq_true rfl), (Nat.le_of_ble_eq_true rfl)⟩) (by omega) m47 rfl rfl rfl (Nat.le_of_ble_eq_true rfl) dX0_perforate_31 ⟨(Nat.le_of_ble_eq_true rfl), (Nat.le_of_ble_eq_true rfl)⟩) (fun v hv => ?_)
      obtain ⟨v1, v2⟩ := hv
      have m49 := (v2 (ks) (by omega)).trans m43
      have m50 := (v2 (ks + 2) (by omega)).trans m44
      have m51 := (v2 (kp) (by omega)).trans m45
      have m52 := (v2 (ks + 1) (by omega)).trans u1
      obtain ⟨hM53, ⟨g54, hA55, hg56⟩, hp57⟩ := id v1
      refine g_aload_n C 1 rfl dX0_perforate_34 ?_
      refine g_dup C dX0_perforate_35 rfl ?_
      refine g_getf C k (by omega) hM53 rfl 4 (by decide) (fun w h => (List.mem_cons_of_mem _ (List.mem_append_left _ (List.mem_append_left _ (List.mem_append_right _ h))))) (List.mem_of_getElem? (i := 3) rfl) rfl rfl dX0_perforate_36 ?_
      refine g_iconst C (v := nI 1) dX0_perforate_39 (by decide) ?_
      refine g_isub C (v := (s_err (s_M M i) 3) - 1) dX0_perforate_40 rfl ?_
      refine g_putf C k (by omega) hM53 rfl 4 (by decide) (fun w h => (List.mem_cons_of_mem _ (List.mem_append_left _ (List.mem_append_left _ (List.mem_append_right _ h))))) tyX0 tyX0_ok nmX0 (List.mem_of_getElem? (i := 3) rfl) rfl rfl rfl rfl (Nat.le_of_ble_eq_true rfl) dX0_perforate_41 (fun el58 e59 o60 => ?_)
      replace e59 : el58 k = .inr (0, [.ref (ad (k + 1)), .int (s_err (s_M M i) 0), .int (s_err (s_M M i) 1), .int (s_err (s_M M i) 2), .int ((s_err (s_M M i) 3) - 1), .int (s_err (s_M M i) 5), .int (s_err (s_M M i) 4)]) := e59
      have m61 := (o60 ks (by omega)).trans m49
      have m62 := (o60 (ks + 2) (by omega)).trans m50
      have m63 := (o60 kp (by omega)).trans m51
      have m64 := (o60 (ks + 1) (by omega)).trans m52
      have m65 := (o60 (k + 1) (by omega)).trans hA55
      have m66 : ∀ q, q < 7 → el58 (k + 2 + q) = .inr (1, [.int (St q), .int (s_rowW St (s_W St We i) q)]) := fun q hq => (o60 (k + 2 + q) (by omega)).trans (hp57 q hq)
      refine g_aload_n C 1 rfl dX0_perforate_44 ?_
      refine g_dup C dX0_perforate_45 rfl ?_
      refine g_getf C k (by omega) e59 rfl 5 (by decide) (fun w h => (List.mem_cons_of_mem _ (List.mem_append_left _ (List.mem_append_left _ (List.mem_append_right _ h))))) (List.mem_of_getElem? (i := 4) rfl) rfl rfl dX0_perforate_46 ?_
      refine g_iconst C (v := nI 1) dX0_perforate_49 (by decide) ?_
      refine g_iadd C (v := (s_err (s_M M i) 5) + 1) dX0_perforate_50 rfl ?_
      refine g_putf C k (by omega) e59 rfl 5 (by decide) (fun w h => (List.mem_cons_of_mem _ (List.mem_append_left _ (List.mem_append_left _ (List.mem_append_right _ h))))) tyX0 tyX0_ok nmX0 (List.mem_of_getElem? (i := 4) rfl) rfl rfl rfl rfl (Nat.le_of_ble_eq_true rfl) dX0_perforate_51 (fun el67 e68 o69 => ?_)
      replace e68 : el67 k = .inr (0, [.ref (ad (k + 1)), .int (s_err (s_M M i) 0), .int (s_err (s_M M i) 1), .int (s_err (s_M M i) 2), .int ((s_err (s_M M i) 3) - 1), .int ((s_err (s_M M i) 5) + 1), .int (s_err (s_M M i) 4)]) := e68
      have m70 := (o69 ks (by omega)).trans m61
      have m71 := (o69 (ks + 2) (by omega)).trans m62
      have m72 := (o69 kp (by omega)).trans m63
      have m73 := (o69 (ks + 1) (by omega)).trans m64
      have m74 := (o69 (k + 1) (by omega)).trans m65
      have m75 : ∀ q, q < 7 → el67 (k + 2 + q) = .inr (1, [.int (St q), .int (s_rowW St (s_W St We i) q)]) := fun q hq => (o69 (k + 2 + q) (by omega)).trans (m66 q hq)
      refine g_iinc C 0 rfl (v := nI (i + 1)) (lv' := [(3, .int (nI (i + 1))), (0, .ref (ad k)), (1, .ref (ad kp)), (2, .ref (ad ks))]) dX0_perforate_54 (nI_add _ _) (by decide) rfl ?_
      refine g_goto C (tgt := 2) dX0_perforate_57 (by decide) ?_
      refine g_lv [0, 1, 2, 3] (lv' := [(3, .int (nI (i + 1))), (0, .ref (ad k)), (1, .ref (ad kp)), (2, .ref (ad ks))]) rfl ?_
      exact ih _ ⟨⟨e68, ⟨_, m74, fun i hi => (hg56 i hi)⟩, m75⟩, ⟨f2, m73, fun j hj => by
          by_cases e : j < 6 * i
          · rw [u3 j e]; exact a2 j e
          · obtain ⟨q, rfl⟩ : ∃ q, j = 6 * i + q := ⟨j - 6 * i, by omega⟩
            rw [u2 q (by omega), s_fault_at (by omega)]⟩, fun j hj hj2 => (o69 j (by omega)).trans ((o60 j (by omega)).trans ((v2 j hj).trans ((u4 j hj2).trans ((o36 j (by omega)).trans (a4 j hj hj2)))))⟩
