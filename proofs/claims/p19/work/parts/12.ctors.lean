/-! ===== the constructors ===== -/
set_option maxHeartbeats 4000000 in
set_option maxRecDepth 100000 in
theorem c_X1_init (l : Launch) (V : gT) {ad : Nat → Nat} {el : Nat → va_E} {n : Nat} {k : Nat} {a b : Int32} (hk : k < n) (he : el k = .inr (1, [.int a, .int b])) : TT l V yX1_init wsX1_init { frames := 1, cells := 0, slots := 0, locals := 24 } n ad el [.ref (ad k)] (QVw V n ad (fun u => u k = .inr (1, [.int 200, .int b]) ∧ ∀ j, j ≠ k → u j = el j)) 0 0 := by
  refine TT.body (cc := cX1_init) (maxL := 1) (ret := none) (by decide) rfl (Nat.le_of_ble_eq_true rfl) ?_
  intro p e s m below meth c C hnm
  refine g_lv [0] (lv' := [(0, .ref (ad k))]) rfl ?_
  refine g_aload_n C 0 rfl dX1_init_0 ?_
  refine g_objInit C (List.mem_of_getElem? (i := 1) rfl) (List.mem_of_getElem? (i := 2) rfl) (List.mem_of_getElem? (i := 3) rfl) (Nat.le_of_ble_eq_true rfl) (Nat.le_of_ble_eq_true rfl) dX1_init_1 ?_
  refine g_aload_n C 0 rfl dX1_init_4 ?_
  refine g_sipush C (v := nI 200) dX1_init_5 (by decide) ?_
  refine g_putf C k (by omega) he rfl 0 (by decide) (fun w h => (List.mem_cons_of_mem _ (List.mem_append_right _ h))) tyX1 tyX1_ok nmX1 (List.mem_of_getElem? (i := 4) rfl) rfl rfl rfl rfl (Nat.le_of_ble_eq_true rfl) dX1_init_8 (fun el1 e2 o3 => ?_)
  replace e2 : el1 k = .inr (1, [.int (nI 200), .int b]) := e2
  exact g_vret C rfl dX1_init_11 el1 rfl rfl rfl ⟨e2, o3⟩ (Nat.le_of_ble_eq_true rfl) (Nat.le_of_ble_eq_true rfl)

set_option maxHeartbeats 4000000 in
set_option maxRecDepth 100000 in
theorem c_X2_init (l : Launch) (V : gT) {ad : Nat → Nat} {el : Nat → va_E} {k : Nat} (he : el k = .inr (2, [.null, .null])) : TT l V yX2_init wsX2_init { frames := 1, cells := 2, slots := 60, locals := 24 } (k + 1) ad el [.ref (ad k)] (QVn V (fun u => u.1 = k + 3 ∧ (∀ j, j < k + 1 → u.2.1 j = ad j) ∧ ShtAt V u.2.1 u.2.2 k (fun _ => 0) (fun _ => 0) ∧ ∀ j, j < k → u.2.2 j = el j)) 2 60 := by
  refine TT.body (cc := cX2_init) (maxL := 1) (ret := none) (by decide) rfl (Nat.le_of_ble_eq_true rfl) ?_
  intro p e s m below meth c C hnm
  refine g_lv [0] (lv' := [(0, .ref (ad k))]) rfl ?_
  refine g_aload_n C 0 rfl dX2_init_0 ?_
  refine g_objInit C (List.mem_of_getElem? (i := 1) rfl) (List.mem_of_getElem? (i := 2) rfl) (List.mem_of_getElem? (i := 3) rfl) (Nat.le_of_ble_eq_true rfl) (Nat.le_of_ble_eq_true rfl) dX2_init_1 ?_
  refine g_aload_n C 0 rfl dX2_init_4 ?_
  refine g_bipush C (v := nI 30) dX2_init_5 (by decide) ?_
  refine g_newa C 0 (List.mem_of_getElem? (i := 4) rfl) (ty := .int) rfl rfl (N := 30) (a0 := (30, .inl (fun _ => 0))) (fun cA => rfl) (by decide) (by decide) (by decide) (Nat.le_of_ble_eq_true rfl) (Nat.le_of_ble_eq_true rfl) dX2_init_7 (fun ad1 el2 ha3 he4 hb5 => ?_)
  refine g_lveq (lv' := [(0, .ref (ad1 k))]) (by rw [ha3 k (by omega)]) ?_
  refine g_steq (st' := .ref (ad1 (k + 1)) :: [.ref (ad1 k)]) (by rw [ha3 k (by omega)]) ?_
  have m6 : el2 k = .inr (2, [.null, .null]) := by rw [hb5 k (by omega), he]
  refine g_putfF C k (by omega) m6 rfl 0 (by decide) (fun w h => (List.mem_cons_of_mem _ (List.mem_append_right _ h))) tyX2 tyX2_ok nmX2 (List.mem_of_getElem? (i := 5) rfl) rfl hnm rfl rfl rfl rfl (Nat.le_of_ble_eq_true rfl) dX2_init_9 (fun el7 e8 o9 => ?_)
  replace e8 : el7 k = .inr (2, [.ref (ad1 (k + 1)), .null]) := e8
  have m10 := (o9 (k + 1) (by omega)).trans he4
  refine g_aload_n C 0 rfl dX2_init_12 ?_
  refine g_bipush C (v := nI 30) dX2_init_13 (by decide) ?_
  refine g_newa C 1 (List.mem_of_getElem? (i := 6) rfl) (ty := .boolean) rfl rfl (N := 30) (a0 := (30, .inl (fun _ => 0))) (fun cA => rfl) (by decide) (by decide) (by decide) (Nat.le_of_ble_eq_true rfl) (Nat.le_of_ble_eq_true rfl) dX2_init_15 (fun ad11 el12 ha13 he14 hb15 => ?_)
  refine g_lveq (lv' := [(0, .ref (ad11 k))]) (by rw [ha13 k (by omega)]) ?_
  refine g_steq (st' := .ref (ad11 (k + 2)) :: [.ref (ad11 k)]) (by rw [ha13 k (by omega)]) ?_
  have m16 := (hb15 (k + 1) (by omega)).trans m10
  have m17 : el12 k = .inr (2, [.ref (ad11 (k + 1)), .null]) := by rw [hb15 k (by omega), e8, ha13 (k + 1) (by omega)]
  refine g_putfF C k (by omega) m17 rfl 1 (by decide) (fun w h => (List.mem_cons_of_mem _ (List.mem_append_right _ h))) tyX2 tyX2_ok nmX2 (List.mem_of_getElem? (i := 7) rfl) rfl hnm rfl rfl rfl rfl (Nat.le_of_ble_eq_true rfl) dX2_init_17 (fun el18 e19 o20 => ?_)
  replace e19 : el18 k = .inr (2, [.ref (ad11 (k + 1)), .ref (ad11 (k + 2))]) := e19
  have m21 := (o20 (k + 1) (by omega)).trans m16
  have m22 := (o20 (k + 2) (by omega)).trans he14
  exact g_vret C rfl dX2_init_20 (k + 3, ad11, el18) rfl rfl rfl ⟨rfl, fun j hj => (ha13 j (by omega)).trans (ha3 j (by omega)), ⟨e19, m21, m22⟩, fun j hj => (o20 j (by omega)).trans ((hb15 j (by omega)).trans ((o9 j (by omega)).trans (hb5 j (by omega))))⟩ (Nat.le_of_ble_eq_true rfl) (Nat.le_of_ble_eq_true rfl)

def s_M0 : Nat → Int32 := fun j => if j = 0 then 20 else if j = 4 then 1 else 0

set_option maxHeartbeats 4000000 in
set_option maxRecDepth 100000 in
theorem c_X0_init (l : Launch) (V : gT) {ad : Nat → Nat} {el : Nat → va_E} {k : Nat} (he : el k = .inr (0, [.null, .int 0, .int 0, .int 0, .int 0, .int 0, .int 0])) : TT l V yX0_init wsX0_init { frames := 2, cells := 8, slots := 21, locals := 44 } (k + 1) ad el [.ref (ad k)] (QVn V (fun u => u.1 = k + 9 ∧ (∀ j, j < k + 1 → u.2.1 j = ad j) ∧ MacAt V u.2.1 u.2.2 k s_M0 (fun _ => 200) (fun _ => 0) ∧ ∀ j, j < k → u.2.2 j = el j)) 8 21 := by
  refine TT.body (cc := cX0_init) (maxL := 2) (ret := none) (by decide) rfl (Nat.le_of_ble_eq_true rfl) ?_
  intro p e s m below meth c C hnm
  refine g_lv [0] (lv' := [(0, .ref (ad k))]) rfl ?_
  refine g_aload_n C 0 rfl dX0_init_0 ?_
  refine g_objInit C (List.mem_of_getElem? (i := 1) rfl) (List.mem_of_getElem? (i := 2) rfl) (List.mem_of_getElem? (i := 3) rfl) (Nat.le_of_ble_eq_true rfl) (Nat.le_of_ble_eq_true rfl) dX0_init_1 ?_
  refine g_aload_n C 0 rfl dX0_init_4 ?_
  refine g_bipush C (v := nI 20) dX0_init_5 (by decide) ?_
  refine g_putf C k (by omega) he rfl 1 (by decide) (fun w h => (List.mem_cons_of_mem _ (List.mem_append_left _ (List.mem_append_right _ h)))) tyX0 tyX0_ok nmX0 (List.mem_of_getElem? (i := 4) rfl) rfl rfl rfl rfl (Nat.le_of_ble_eq_true rfl) dX0_init_7 (fun el1 e2 o3 => ?_)
  replace e2 : el1 k = .inr (0, [.null, .int (nI 20), .int 0, .int 0, .int 0, .int 0, .int 0]) := e2
  refine g_aload_n C 0 rfl dX0_init_10 ?_
  refine g_iconst C (v := nI 1) dX0_init_11 (by decide) ?_
  refine g_putf C k (by omega) e2 rfl 6 (by decide) (fun w h => (List.mem_cons_of_mem _ (List.mem_append_left _ (List.mem_append_right _ h)))) tyX0 tyX0_ok nmX0 (List.mem_of_getElem? (i := 5) rfl) rfl rfl rfl rfl (Nat.le_of_ble_eq_true rfl) dX0_init_12 (fun el4 e5 o6 => ?_)
  replace e5 : el4 k = .inr (0, [.null, .int (nI 20), .int 0, .int 0, .int 0, .int 0, .int (nI 1)]) := e5
  refine g_aload_n C 0 rfl dX0_init_15 ?_
  refine g_bipush C (v := nI 7) dX0_init_16 (by decide) ?_
  refine g_newq C 3 (List.mem_of_getElem? (i := 6) rfl) (List.mem_of_getElem? (i := 0) rfl) rfl (N := 7) (by decide) (by decide) (by decide) (Nat.le_of_ble_eq_true rfl) (Nat.le_of_ble_eq_true rfl) dX0_init_18 (fun ad7 el8 ha9 he10 hb11 => ?_)
  refine g_lveq (lv' := [(0, .ref (ad7 k))]) (by rw [ha9 k (by omega)]) ?_
  refine g_steq (st' := .ref (ad7 (k + 1)) :: [.ref (ad7 k)]) (by rw [ha9 k (by omega)]) ?_
  have m12 : el8 k = .inr (0, [.null, .int (nI 20), .int 0, .int 0, .int 0, .int 0, .int (nI 1)]) := by rw [hb11 k (by omega), e5]
  refine g_putfF C k (by omega) m12 rfl 0 (by decide) (fun w h => (List.mem_cons_of_mem _ (List.mem_append_left _ (List.mem_append_right _ h)))) tyX0 tyX0_ok nmX0 (List.mem_of_getElem? (i := 7) rfl) rfl hnm rfl rfl rfl rfl (Nat.le_of_ble_eq_true rfl) dX0_init_21 (fun el13 e14 o15 => ?_)
  replace e14 : el13 k = .inr (0, [.ref (ad7 (k + 1)), .int (nI 20), .int 0, .int 0, .int 0, .int 0, .int (nI 1)]) := e14
  have m16 := (o15 (k + 1) (by omega)).trans he10
  refine g_iconst C (v := nI 0) dX0_init_24 (by decide) ?_
  refine g_istore_n C (lv' := [(1, .int (nI 0)), (0, .ref (ad7 k))]) dX0_init_25 (by decide) rfl ?_
  refine g_lv [0, 1] (lv' := [(1, .int (nI 0)), (0, .ref (ad7 k))]) rfl ?_
  refine g_forN 7 (fun i => k + 2 + i) (fun i => 1 + i) (fun i => 7 + 2 * i) (fun i a => [(1, .int (nI i)), (0, .ref (a k))]) (fun i a e => (∀ j, j < k + 1 → a j = ad j) ∧ e k = .inr (0, [.ref (a (k + 1)), .int 20, .int 0, .int 0, .int 0, .int 0, .int 1]) ∧ (∃ g : Nat → Option Nat, e (k + 1) = .inl (V.2 3, 7, .inr (.inr (.inr (.inr g)))) ∧ ∀ q, q < i → g q = some (a (k + 2 + q))) ∧ (∀ q, q < i → e (k + 2 + q) = .inr (1, [.int 200, .int 0])) ∧ ∀ j, j < k → e j = el j) ⟨fun j hj => ha9 j (by omega), e14, ⟨_, m16, fun q hq => absurd hq (by omega)⟩, fun q hq => absurd hq (by omega), fun j hj => (o15 j (by omega)).trans ((hb11 j (by omega)).trans ((o6 j (by omega)).trans (o3 j (by omega))))⟩ (fun ad1 el1 h1 => ?_) (fun i ad1 el1 hi h1 ih => ?_)
  all_goals obtain ⟨b1, b2, ⟨g, b3, b4⟩, b5, b6⟩ := id h1
  · -- end
    refine g_iload_n C 0 rfl dX0_init_26 ?_
    refine g_bipush C (v := nI 7) dX0_init_27 (by decide) ?_
    refine g_icmp_ge C (tgt := 51) dX0_init_29 (by decide) (fun c29 => ?_) (fun c29 => ?_)
    rotate_left
    · exact absurd c29 (by decide)
    exact g_vret C rfl dX0_init_51 (k + 9, ad1, el1) rfl rfl rfl ⟨rfl, b1, ⟨b2, ⟨g, b3, b4⟩, b5⟩, b6⟩ (Nat.le_of_ble_eq_true rfl) (Nat.le_of_ble_eq_true rfl)
  · -- body
    refine g_iload_n C 0 rfl dX0_init_26 ?_
    refine g_bipush C (v := nI 7) dX0_init_27 (by decide) ?_
    refine g_icmp_ge C (tgt := 51) dX0_init_29 (by decide) (fun c29 => ?_) (fun c29 => ?_)
    · -- 51
      have c29 : 7 ≤ i := (nI_leI (by omega) (by omega)).mp c29
      exact absurd c29 (by omega)
    · -- 32
      have c29 : i < 7 := Nat.lt_of_not_le (fun z => c29 ((nI_leI (by omega) (by omega)).mpr z))
      refine g_aload_n C 1 rfl dX0_init_32 ?_
      refine g_getf C k (by omega) b2 rfl 0 (by decide) (fun w h => (List.mem_cons_of_mem _ (List.mem_append_left _ (List.mem_append_right _ h)))) (List.mem_of_getElem? (i := 7) rfl) rfl rfl dX0_init_33 ?_
      refine g_iload_n C 0 rfl dX0_init_36 ?_
      refine g_new C (fun w h => (List.mem_cons_of_mem _ (List.mem_append_right _ h))) tyX1 tyX1_ok (List.mem_of_getElem? (i := 6) rfl) (List.mem_of_getElem? (i := 8) rfl) (List.mem_of_getElem? (i := 9) rfl) (ci := 1) rfl (fs := [.int 0, .int 0]) (by decide) (by show _ ≤ 8; omega) (by show _ ≤ 21; omega) dX0_init_37 (fun ad17 el18 ha19 he20 hb21 => ?_)
      refine g_lveq (lv' := [(1, .int (nI i)), (0, .ref (ad17 k))]) (by rw [ha19 k (by omega)]) ?_
      refine g_steq (st' := .ref (ad17 (k + 2 + i)) :: [.int (nI i), .ref (ad17 (k + 1))]) (by rw [ha19 (k + 1) (by omega)]) ?_
      have m22 : el18 k = .inr (0, [.ref (ad17 (k + 1)), .int 20, .int 0, .int 0, .int 0, .int 0, .int 1]) := by rw [hb21 k (by omega), b2, ha19 (k + 1) (by omega)]
      have m23 := (hb21 (k + 1) (by omega)).trans b3
      refine g_dup C dX0_init_40 rfl ?_
      refine g_callv C (r_IN C (st := [.ref (ad17 (k + 2 + i)), .int (nI i), .ref (ad17 (k + 1))]) (c_X1_init l V (by omega) he20) ⟨va_cnB 0 C.ts gX0_init_X1_init_n24 rfl rfl rfl (C.kx.2.2.2.1 _ (List.mem_of_getElem? (i := 0) rfl)) (C.ts _ (List.mem_of_getElem? (i := 9) rfl)) (by decide +kernel) ⟨(Nat.le_of_ble_eq_true rfl), (Nat.le_of_ble_eq_true rfl)⟩, rfl, C.ts _ (List.mem_of_getElem? (i := 10) rfl)⟩ rfl rfl (Nat.le_of_ble_eq_true rfl) dX0_init_41 ⟨(by show _ ≤ 8; omega), (by show _ ≤ 21; omega)⟩) (fun u hu => ?_)
      have m24 := (hu.2 (k) (by omega)).trans m22
      have m25 := (hu.2 (k + 1) (by omega)).trans m23
      refine g_aast C (k + 1) (by omega) 3 (k + 2 + i) (by omega) hu.1 rfl rfl m25 i rfl (by omega) (by decide) dX0_init_44 (fun el26 e27 o28 => ?_)
      have m29 := (o28 k (by omega)).trans m24
      have m30 := (o28 (k + 2 + i) (by omega)).trans hu.1
      refine g_iinc C 0 rfl (v := nI (i + 1)) (lv' := [(1, .int (nI (i + 1))), (0, .ref (ad17 k))]) dX0_init_45 (nI_add _ _) (by decide) rfl ?_
      refine g_goto C (tgt := 26) dX0_init_48 (by decide) ?_
      refine g_lv [0, 1] (lv' := [(1, .int (nI (i + 1))), (0, .ref (ad17 k))]) rfl ?_
      exact ih ad17 el26 ⟨fun j hj => (ha19 j (by omega)).trans (b1 j hj), m29, ⟨_, e27, fun q hq => by
          by_cases e : q = i
          · subst e; rw [va_up_self]
          · rw [va_up_ne _ _ e, b4 q (by omega), ha19 _ (by omega)]⟩, fun q hq => by
          by_cases e : q = i
          · subst e; exact m30
          · exact (o28 _ (by omega)).trans ((hu.2 _ (by omega)).trans ((hb21 _ (by omega)).trans (b5 q (by omega)))), fun j hj => (o28 _ (by omega)).trans ((hu.2 _ (by omega)).trans ((hb21 _ (by omega)).trans (b6 j hj)))⟩
