/-! ===== the constructors of the trial and of the class ===== -/
set_option maxHeartbeats 4000000 in
set_option maxRecDepth 100000 in
theorem c_X3_init (l : Launch) (V : gT) {ad : Nat → Nat} {el : Nat → va_E} {k : Nat} (he : el k = .inr (3, [.null, .null, .int 0, .int 0])) : TT l V yX3_init wsX3_init { frames := 3, cells := 12, slots := 90, locals := 65 } (k + 1) ad el [.ref (ad k)] (QVn V (fun u => u.1 = k + 13 ∧ (∀ j, j < k + 1 → u.2.1 j = ad j) ∧ TrAt V u.2.1 u.2.2 k 0 0 s_M0 (fun _ => 200) (fun _ => 0) (fun _ => 0) (fun _ => 0) ∧ ∀ j, j < k → u.2.2 j = el j)) 12 90 := by
  refine TT.body (cc := cX3_init) (maxL := 1) (ret := none) (by decide) rfl (Nat.le_of_ble_eq_true rfl) ?_
  intro p e s m below meth c C hnm
  refine g_lv [0] (lv' := [(0, .ref (ad k))]) rfl ?_
  refine g_aload_n C 0 rfl dX3_init_0 ?_
  refine g_objInit C (List.mem_of_getElem? (i := 1) rfl) (List.mem_of_getElem? (i := 2) rfl) (List.mem_of_getElem? (i := 3) rfl) (Nat.le_of_ble_eq_true rfl) (Nat.le_of_ble_eq_true rfl) dX3_init_1 ?_
  refine g_aload_n C 0 rfl dX3_init_4 ?_
  refine g_new C (fun w h => (List.mem_cons_of_mem _ (List.mem_append_left _ (List.mem_append_left _ (List.mem_append_left _ (List.mem_append_right _ h)))))) tyX0 tyX0_ok (List.mem_of_getElem? (i := 4) rfl) (List.mem_of_getElem? (i := 5) rfl) (List.mem_of_getElem? (i := 6) rfl) (ci := 0) rfl (fs := [.null, .int 0, .int 0, .int 0, .int 0, .int 0, .int 0]) (by decide) (Nat.le_of_ble_eq_true rfl) (Nat.le_of_ble_eq_true rfl) dX3_init_5 (fun ad1 el2 ha3 he4 hb5 => ?_)
  refine g_lveq (lv' := [(0, .ref (ad1 k))]) (by rw [ha3 k (by omega)]) ?_
  refine g_steq (st' := .ref (ad1 (k + 1)) :: [.ref (ad1 k)]) (by rw [ha3 k (by omega)]) ?_
  have m6 : el2 k = .inr (3, [.null, .null, .int 0, .int 0]) := by rw [hb5 k (by omega), he]
  refine g_dup C dX3_init_8 rfl ?_
  refine g_callv C (r_I C (st := [.ref (ad1 (k + 1)), .ref (ad1 k)]) (c_X0_init l V (k := k + 1) he4) (cwI 0 C.ts gX3_init_X0_init rfl rfl rfl (C.ts _ (List.mem_of_getElem? (i := 6) rfl)) (C.ts _ (List.mem_of_getElem? (i := 12) rfl)) (C.ts _ (List.mem_of_getElem? (i := 13) rfl)) rfl (by decide +kernel) ⟨(Nat.le_of_ble_eq_true rfl), (Nat.le_of_ble_eq_true rfl)⟩) rfl rfl (Nat.le_of_ble_eq_true rfl) dX3_init_9 ⟨(Nat.le_of_ble_eq_true rfl), (Nat.le_of_ble_eq_true rfl)⟩) (fun u hu => ?_)
  obtain ⟨n9, ad7, el8⟩ := u
  obtain ⟨q10, q11, q12, q13⟩ := hu
  dsimp only at q10 q11 q12 q13 ⊢
  subst q10
  refine g_lveq (lv' := [(0, .ref (ad7 k))]) (by rw [q11 k (by omega)]) ?_
  refine g_steq (st' := [.ref (ad7 (k + 1)), .ref (ad7 k)]) (by rw [q11 k (by omega), q11 (k + 1) (by omega)]) ?_
  have m14 : el8 k = .inr (3, [.null, .null, .int 0, .int 0]) := by rw [q13 k (by omega), m6]
  refine g_putfF C k (by omega) m14 rfl 0 (by decide) (fun w h => (List.mem_cons_of_mem _ (List.mem_append_left _ (List.mem_append_left _ (List.mem_append_right _ h))))) tyX3 tyX3_ok nmX3 (List.mem_of_getElem? (i := 7) rfl) rfl hnm rfl rfl rfl rfl (Nat.le_of_ble_eq_true rfl) dX3_init_12 (fun el15 e16 o17 => ?_)
  replace e16 : el15 k = .inr (3, [.ref (ad7 (k + 1)), .null, .int 0, .int 0]) := e16
  have P18 := q12.keep (fun j h1 h2 => o17 j (by omega))
  refine g_aload_n C 0 rfl dX3_init_15 ?_
  refine g_new C (fun w h => (List.mem_cons_of_mem _ (List.mem_append_left _ (List.mem_append_right _ h)))) tyX2 tyX2_ok (List.mem_of_getElem? (i := 8) rfl) (List.mem_of_getElem? (i := 9) rfl) (List.mem_of_getElem? (i := 10) rfl) (ci := 2) rfl (fs := [.null, .null]) (by decide) (Nat.le_of_ble_eq_true rfl) (Nat.le_of_ble_eq_true rfl) dX3_init_16 (fun ad19 el20 ha21 he22 hb23 => ?_)
  refine g_lveq (lv' := [(0, .ref (ad19 k))]) (by rw [ha21 k (by omega)]) ?_
  refine g_steq (st' := .ref (ad19 (k + 10)) :: [.ref (ad19 k)]) (by rw [ha21 k (by omega)]) ?_
  have m24 : el20 k = .inr (3, [.ref (ad19 (k + 1)), .null, .int 0, .int 0]) := by rw [hb23 k (by omega), e16, ha21 (k + 1) (by omega)]
  have P25 := (P18.keep (fun j h1 h2 => hb23 j (by omega))).adr (fun j h1 h2 => ha21 j (by omega))
  refine g_dup C dX3_init_19 rfl ?_
  refine g_callv C (r_I C (st := [.ref (ad19 (k + 10)), .ref (ad19 k)]) (c_X2_init l V (k := k + 10) he22) (cwI 0 C.ts gX3_init_X2_init rfl rfl rfl (C.ts _ (List.mem_of_getElem? (i := 10) rfl)) (C.ts _ (List.mem_of_getElem? (i := 26) rfl)) (C.ts _ (List.mem_of_getElem? (i := 27) rfl)) rfl (by decide +kernel) ⟨(Nat.le_of_ble_eq_true rfl), (Nat.le_of_ble_eq_true rfl)⟩) rfl rfl (Nat.le_of_ble_eq_true rfl) dX3_init_20 ⟨(Nat.le_of_ble_eq_true rfl), (Nat.le_of_ble_eq_true rfl)⟩) (fun u hu => ?_)
  obtain ⟨n28, ad26, el27⟩ := u
  obtain ⟨q29, q30, q31, q32⟩ := hu
  dsimp only at q29 q30 q31 q32 ⊢
  subst q29
  refine g_lveq (lv' := [(0, .ref (ad26 k))]) (by rw [q30 k (by omega)]) ?_
  refine g_steq (st' := [.ref (ad26 (k + 10)), .ref (ad26 k)]) (by rw [q30 k (by omega), q30 (k + 10) (by omega)]) ?_
  have m33 : el27 k = .inr (3, [.ref (ad26 (k + 1)), .null, .int 0, .int 0]) := by rw [q32 k (by omega), m24, q30 (k + 1) (by omega)]
  have P34 := (P25.keep (fun j h1 h2 => q32 j (by omega))).adr (fun j h1 h2 => q30 j (by omega))
  refine g_putfF C k (by omega) m33 rfl 1 (by decide) (fun w h => (List.mem_cons_of_mem _ (List.mem_append_left _ (List.mem_append_left _ (List.mem_append_right _ h))))) tyX3 tyX3_ok nmX3 (List.mem_of_getElem? (i := 11) rfl) rfl hnm rfl rfl rfl rfl (Nat.le_of_ble_eq_true rfl) dX3_init_23 (fun el35 e36 o37 => ?_)
  replace e36 : el35 k = .inr (3, [.ref (ad26 (k + 1)), .ref (ad26 (k + 10)), .int 0, .int 0]) := e36
  have P38 := P34.keep (fun j h1 h2 => o37 j (by omega))
  have P39 := q31.keep (fun j h1 h2 => o37 j (by omega))
  exact g_vret C rfl dX3_init_26 (k + 13, ad26, el35) rfl rfl rfl ⟨rfl, fun j hj => (q30 j (by omega)).trans ((ha21 j (by omega)).trans ((q11 j (by omega)).trans (ha3 j (by omega)))), ⟨e36, P38, P39⟩, fun j hj => (o37 j (by omega)).trans ((q32 j (by omega)).trans ((hb23 j (by omega)).trans ((o17 j (by omega)).trans ((q13 j (by omega)).trans (hb5 j (by omega))))))⟩ (Nat.le_of_ble_eq_true rfl) (Nat.le_of_ble_eq_true rfl)

/-- the class: its 85 cells from place 0 on -/
def X4At (V : gT) (ad : Nat → Nat) (el : Nat → va_E) (cnt : Nat) (M St We pl : Nat → Int32) (F T : Nat → Nat → Int32) : Prop :=
  el 0 = .inr (4, [.ref (ad 1), .ref (ad 10), .ref (ad 23), .ref (ad 24), .int (nI cnt)]) ∧ MacAt V ad el 1 M St We ∧ (∃ (a b : Int32) (M0 St0 We0 f : Nat → Int32), TrAt V ad el 10 a b M0 St0 We0 f (fun _ => 0)) ∧ el 23 = .inl (V.2 1, 30, .inl pl) ∧ (∃ g : Nat → Option Nat, el 24 = .inl (V.2 4, 20, .inr (.inr (.inr (.inr g)))) ∧ ∀ i, i < 20 → g i = some (ad (25 + 3 * i))) ∧ ∀ i, i < 20 → ShtAt V ad el (25 + 3 * i) (F i) (T i)
theorem X4At.keep {V : gT} {ad : Nat → Nat} {el el' : Nat → va_E} {cnt : Nat} {M St We pl : Nat → Int32} {F T : Nat → Nat → Int32} (h : X4At V ad el cnt M St We pl F T) (ho : ∀ j, j < 85 → el' j = el j) : X4At V ad el' cnt M St We pl F T := by
  obtain ⟨h1, h2, ⟨a, b, M0, St0, We0, f, h3⟩, h4, ⟨g, h5, h6⟩, h7⟩ := h
  exact ⟨(ho _ (by omega)).trans h1, h2.keep (fun j _ _ => ho j (by omega)), ⟨a, b, M0, St0, We0, f, h3.keep (fun j _ _ => ho j (by omega))⟩, (ho _ (by omega)).trans h4, ⟨g, (ho _ (by omega)).trans h5, h6⟩, fun i hi => (h7 i hi).keep (fun j _ _ => ho j (by omega))⟩
theorem X4At.adr {V : gT} {ad ad' : Nat → Nat} {el : Nat → va_E} {cnt : Nat} {M St We pl : Nat → Int32} {F T : Nat → Nat → Int32} (h : X4At V ad el cnt M St We pl F T) (ho : ∀ j, j < 85 → ad' j = ad j) : X4At V ad' el cnt M St We pl F T := by
  obtain ⟨h1, h2, ⟨a, b, M0, St0, We0, f, h3⟩, h4, ⟨g, h5, h6⟩, h7⟩ := h
  exact ⟨by rw [h1, ho 1 (by omega), ho 10 (by omega), ho 23 (by omega), ho 24 (by omega)], h2.adr (fun j _ _ => ho j (by omega)), ⟨a, b, M0, St0, We0, f, h3.adr (fun j _ _ => ho j (by omega))⟩, h4, ⟨g, h5, fun i hi => by rw [h6 i hi, ho _ (by omega)]⟩, fun i hi => (h7 i hi).adr (fun j _ _ => ho j (by omega))⟩

set_option maxHeartbeats 4000000 in
set_option maxRecDepth 100000 in
theorem c_X4_init (l : Launch) (V : gT) {ad : Nat → Nat} {el : Nat → va_E} (he : el 0 = .inr (4, [.null, .null, .null, .null, .int 0])) : TT l V yX4_init wsX4_init { frames := 4, cells := 84, slots := 1412, locals := 85 } 1 ad el [.ref (ad 0)] (QVn V (fun u => u.1 = 85 ∧ (∀ j, j < 1 → u.2.1 j = ad j) ∧ X4At V u.2.1 u.2.2 0 s_M0 (fun _ => 200) (fun _ => 0) (fun _ => 0) (fun _ _ => 0) (fun _ _ => 0))) 84 1412 := by
  refine TT.body (cc := cX4_init) (maxL := 2) (ret := none) (by decide) rfl (Nat.le_of_ble_eq_true rfl) ?_
  intro p e s m below meth c C hnm
  refine g_lv [0] (lv' := [(0, .ref (ad 0))]) rfl ?_
  refine g_aload_n C 0 rfl dX4_init_0 ?_
  refine g_objInit C (List.mem_of_getElem? (i := 1) rfl) (List.mem_of_getElem? (i := 2) rfl) (List.mem_of_getElem? (i := 3) rfl) (Nat.le_of_ble_eq_true rfl) (Nat.le_of_ble_eq_true rfl) dX4_init_1 ?_
  refine g_aload_n C 0 rfl dX4_init_4 ?_
  refine g_new C (fun w h => (List.mem_cons_of_mem _ (List.mem_append_left _ (List.mem_append_left _ (List.mem_append_left _ (List.mem_append_left _ (List.mem_append_right _ h))))))) tyX0 tyX0_ok (List.mem_of_getElem? (i := 4) rfl) (List.mem_of_getElem? (i := 5) rfl) (List.mem_of_getElem? (i := 6) rfl) (ci := 0) rfl (fs := [.null, .int 0, .int 0, .int 0, .int 0, .int 0, .int 0]) (by decide) (Nat.le_of_ble_eq_true rfl) (Nat.le_of_ble_eq_true rfl) dX4_init_5 (fun ad1 el2 ha3 he4 hb5 => ?_)
  refine g_lveq (lv' := [(0, .ref (ad1 0))]) (by rw [ha3 0 (by omega)]) ?_
  refine g_steq (st' := .ref (ad1 1) :: [.ref (ad1 0)]) (by rw [ha3 0 (by omega)]) ?_
  have m6 : el2 0 = .inr (4, [.null, .null, .null, .null, .int 0]) := by rw [hb5 0 (by omega), he]
  refine g_dup C dX4_init_8 rfl ?_
  refine g_callv C (r_I C (st := [.ref (ad1 1), .ref (ad1 0)]) (c_X0_init l V (k := 1) he4) (cwI 0 C.ts gX4_init_X0_init rfl rfl rfl (C.ts _ (List.mem_of_getElem? (i := 6) rfl)) (C.ts _ (List.mem_of_getElem? (i := 18) rfl)) (C.ts _ (List.mem_of_getElem? (i := 19) rfl)) rfl (by decide +kernel) ⟨(Nat.le_of_ble_eq_true rfl), (Nat.le_of_ble_eq_true rfl)⟩) rfl rfl (Nat.le_of_ble_eq_true rfl) dX4_init_9 ⟨(Nat.le_of_ble_eq_true rfl), (Nat.le_of_ble_eq_true rfl)⟩) (fun u hu => ?_)
  obtain ⟨n9, ad7, el8⟩ := u
  obtain ⟨q10, q11, q12, q13⟩ := hu
  dsimp only at q10 q11 q12 q13 ⊢
  subst q10
  refine g_lveq (lv' := [(0, .ref (ad7 0))]) (by rw [q11 0 (by omega)]) ?_
  refine g_steq (st' := [.ref (ad7 1), .ref (ad7 0)]) (by rw [q11 0 (by omega), q11 1 (by omega)]) ?_
  have m14 : el8 0 = .inr (4, [.null, .null, .null, .null, .int 0]) := by rw [q13 0 (by omega), m6]
  refine g_putfF C 0 (by omega) m14 rfl 0 (by decide) (fun w h => (List.mem_cons_of_mem _ (List.mem_append_left _ (List.mem_append_left _ (List.mem_append_left _ (List.mem_append_right _ h)))))) tyX4 tyX4_ok nmX4 (List.mem_of_getElem? (i := 7) rfl) rfl hnm rfl rfl rfl rfl (Nat.le_of_ble_eq_true rfl) dX4_init_12 (fun el15 e16 o17 => ?_)
  replace e16 : el15 0 = .inr (4, [.ref (ad7 1), .null, .null, .null, .int 0]) := e16
  have P18 := q12.keep (fun j h1 h2 => o17 j (by omega))
  refine g_aload_n C 0 rfl dX4_init_15 ?_
  refine g_new C (fun w h => (List.mem_cons_of_mem _ (List.mem_append_left _ (List.mem_append_left _ (List.mem_append_right _ h))))) tyX3 tyX3_ok (List.mem_of_getElem? (i := 8) rfl) (List.mem_of_getElem? (i := 9) rfl) (List.mem_of_getElem? (i := 10) rfl) (ci := 3) rfl (fs := [.null, .null, .int 0, .int 0]) (by decide) (Nat.le_of_ble_eq_true rfl) (Nat.le_of_ble_eq_true rfl) dX4_init_16 (fun ad19 el20 ha21 he22 hb23 => ?_)
  refine g_lveq (lv' := [(0, .ref (ad19 0))]) (by rw [ha21 0 (by omega)]) ?_
  refine g_steq (st' := .ref (ad19 10) :: [.ref (ad19 0)]) (by rw [ha21 0 (by omega)]) ?_
  have m24 : el20 0 = .inr (4, [.ref (ad19 1), .null, .null, .null, .int 0]) := by rw [hb23 0 (by omega), e16, ha21 1 (by omega)]
  have P25 := (P18.keep (fun j h1 h2 => hb23 j (by omega))).adr (fun j h1 h2 => ha21 j (by omega))
  refine g_dup C dX4_init_19 rfl ?_
  refine g_callv C (r_I C (st := [.ref (ad19 10), .ref (ad19 0)]) (c_X3_init l V (k := 10) he22) (cwI 0 C.ts gX4_init_X3_init rfl rfl rfl (C.ts _ (List.mem_of_getElem? (i := 10) rfl)) (C.ts _ (List.mem_of_getElem? (i := 32) rfl)) (C.ts _ (List.mem_of_getElem? (i := 33) rfl)) rfl (by decide +kernel) ⟨(Nat.le_of_ble_eq_true rfl), (Nat.le_of_ble_eq_true rfl)⟩) rfl rfl (Nat.le_of_ble_eq_true rfl) dX4_init_20 ⟨(Nat.le_of_ble_eq_true rfl), (Nat.le_of_ble_eq_true rfl)⟩) (fun u hu => ?_)
  obtain ⟨n28, ad26, el27⟩ := u
  obtain ⟨q29, q30, q31, q32⟩ := hu
  dsimp only at q29 q30 q31 q32 ⊢
  subst q29
  refine g_lveq (lv' := [(0, .ref (ad26 0))]) (by rw [q30 0 (by omega)]) ?_
  refine g_steq (st' := [.ref (ad26 10), .ref (ad26 0)]) (by rw [q30 0 (by omega), q30 10 (by omega)]) ?_
  have m33 : el27 0 = .inr (4, [.ref (ad26 1), .null, .null, .null, .int 0]) := by rw [q32 0 (by omega), m24, q30 1 (by omega)]
  have P34 := (P25.keep (fun j h1 h2 => q32 j (by omega))).adr (fun j h1 h2 => q30 j (by omega))
  refine g_putfF C 0 (by omega) m33 rfl 1 (by decide) (fun w h => (List.mem_cons_of_mem _ (List.mem_append_left _ (List.mem_append_left _ (List.mem_append_left _ (List.mem_append_right _ h)))))) tyX4 tyX4_ok nmX4 (List.mem_of_getElem? (i := 11) rfl) rfl hnm rfl rfl rfl rfl (Nat.le_of_ble_eq_true rfl) dX4_init_23 (fun el35 e36 o37 => ?_)
  replace e36 : el35 0 = .inr (4, [.ref (ad26 1), .ref (ad26 10), .null, .null, .int 0]) := e36
  have P38 := P34.keep (fun j h1 h2 => o37 j (by omega))
  have P39 := q31.keep (fun j h1 h2 => o37 j (by omega))
  refine g_aload_n C 0 rfl dX4_init_26 ?_
  refine g_bipush C (v := nI 30) dX4_init_27 (by decide) ?_
  refine g_newa C 1 (List.mem_of_getElem? (i := 12) rfl) (ty := .boolean) rfl rfl (N := 30) (a0 := (30, .inl (fun _ => 0))) (fun cA => rfl) (by decide) (by decide) (by decide) (Nat.le_of_ble_eq_true rfl) (Nat.le_of_ble_eq_true rfl) dX4_init_29 (fun ad40 el41 ha42 he43 hb44 => ?_)
  refine g_lveq (lv' := [(0, .ref (ad40 0))]) (by rw [ha42 0 (by omega)]) ?_
  refine g_steq (st' := .ref (ad40 23) :: [.ref (ad40 0)]) (by rw [ha42 0 (by omega)]) ?_
  have m45 : el41 0 = .inr (4, [.ref (ad40 1), .ref (ad40 10), .null, .null, .int 0]) := by rw [hb44 0 (by omega), e36, ha42 1 (by omega), ha42 10 (by omega)]
  have P46 := (P38.keep (fun j h1 h2 => hb44 j (by omega))).adr (fun j h1 h2 => ha42 j (by omega))
  have P47 := (P39.keep (fun j h1 h2 => hb44 j (by omega))).adr (fun j h1 h2 => ha42 j (by omega))
  refine g_putfF C 0 (by omega) m45 rfl 2 (by decide) (fun w h => (List.mem_cons_of_mem _ (List.mem_append_left _ (List.mem_append_left _ (List.mem_append_left _ (List.mem_append_right _ h)))))) tyX4 tyX4_ok nmX4 (List.mem_of_getElem? (i := 13) rfl) rfl hnm rfl rfl rfl rfl (Nat.le_of_ble_eq_true rfl) dX4_init_31 (fun el48 e49 o50 => ?_)
  replace e49 : el48 0 = .inr (4, [.ref (ad40 1), .ref (ad40 10), .ref (ad40 23), .null, .int 0]) := e49
  have m51 := (o50 23 (by omega)).trans he43
  have P52 := P46.keep (fun j h1 h2 => o50 j (by omega))
  have P53 := P47.keep (fun j h1 h2 => o50 j (by omega))
  refine g_aload_n C 0 rfl dX4_init_34 ?_
  refine g_bipush C (v := nI 20) dX4_init_35 (by decide) ?_
  refine g_newq C 4 (List.mem_of_getElem? (i := 14) rfl) (List.mem_of_getElem? (i := 1) rfl) rfl (N := 20) (by decide) (by decide) (by decide) (Nat.le_of_ble_eq_true rfl) (Nat.le_of_ble_eq_true rfl) dX4_init_37 (fun ad54 el55 ha56 he57 hb58 => ?_)
  refine g_lveq (lv' := [(0, .ref (ad54 0))]) (by rw [ha56 0 (by omega)]) ?_
  refine g_steq (st' := .ref (ad54 24) :: [.ref (ad54 0)]) (by rw [ha56 0 (by omega)]) ?_
  have m59 := (hb58 23 (by omega)).trans m51
  have m60 : el55 0 = .inr (4, [.ref (ad54 1), .ref (ad54 10), .ref (ad54 23), .null, .int 0]) := by rw [hb58 0 (by omega), e49, ha56 1 (by omega), ha56 10 (by omega), ha56 23 (by omega)]
  have P61 := (P52.keep (fun j h1 h2 => hb58 j (by omega))).adr (fun j h1 h2 => ha56 j (by omega))
  have P62 := (P53.keep (fun j h1 h2 => hb58 j (by omega))).adr (fun j h1 h2 => ha56 j (by omega))
  refine g_putfF C 0 (by omega) m60 rfl 3 (by decide) (fun w h => (List.mem_cons_of_mem _ (List.mem_append_left _ (List.mem_append_left _ (List.mem_append_left _ (List.mem_append_right _ h)))))) tyX4 tyX4_ok nmX4 (List.mem_of_getElem? (i := 15) rfl) rfl hnm rfl rfl rfl rfl (Nat.le_of_ble_eq_true rfl) dX4_init_40 (fun el63 e64 o65 => ?_)
  replace e64 : el63 0 = .inr (4, [.ref (ad54 1), .ref (ad54 10), .ref (ad54 23), .ref (ad54 24), .int 0]) := e64
  have m66 := (o65 23 (by omega)).trans m59
  have m67 := (o65 24 (by omega)).trans he57
  have P68 := P61.keep (fun j h1 h2 => o65 j (by omega))
  have P69 := P62.keep (fun j h1 h2 => o65 j (by omega))
  refine g_iconst C (v := nI 0) dX4_init_43 (by decide) ?_
  refine g_istore_n C (lv' := [(1, .int (nI 0)), (0, .ref (ad54 0))]) dX4_init_44 (by decide) rfl ?_
  refine g_lv [0, 1] (lv' := [(1, .int (nI 0)), (0, .ref (ad54 0))]) rfl ?_
  refine g_forN 20 (fun i => 25 + 3 * i) (fun i => 24 + 3 * i) (fun i => 172 + 62 * i) (fun i a => [(1, .int (nI i)), (0, .ref (a 0))]) (fun i a e => (∀ j, j < 1 → a j = ad j) ∧ e 0 = .inr (4, [.ref (a 1), .ref (a 10), .ref (a 23), .ref (a 24), .int 0]) ∧ (MacAt V a e 1 s_M0 (fun _ => 200) (fun _ => 0) ∧ TrAt V a e 10 0 0 s_M0 (fun _ => 200) (fun _ => 0) (fun _ => 0) (fun _ => 0)) ∧ e 23 = .inl (V.2 1, 30, .inl (fun _ => 0)) ∧ (∃ g : Nat → Option Nat, e 24 = .inl (V.2 4, 20, .inr (.inr (.inr (.inr g)))) ∧ ∀ q, q < i → g q = some (a (25 + 3 * q))) ∧ ∀ q, q < i → ShtAt V a e (25 + 3 * q) (fun _ => 0) (fun _ => 0)) ⟨fun j hj => (ha56 j (by omega)).trans ((ha42 j (by omega)).trans ((q30 j (by omega)).trans ((ha21 j (by omega)).trans ((q11 j (by omega)).trans (ha3 j (by omega)))))), e64, ⟨P68, P69⟩, m66, ⟨_, m67, fun q hq => absurd hq (by omega)⟩, fun q hq => absurd hq (by omega)⟩ (fun ad1 el1 h1 => ?_) (fun i ad1 el1 hi h1 ih => ?_)
  all_goals obtain ⟨b1, b2, ⟨bM, bT⟩, b3, ⟨g, b4, b5⟩, b6⟩ := id h1
  · -- end
    refine g_iload_n C 0 rfl dX4_init_45 ?_
    refine g_bipush C (v := nI 20) dX4_init_46 (by decide) ?_
    refine g_icmp_ge C (tgt := 70) dX4_init_48 (by decide) (fun c48 => ?_) (fun c48 => ?_)
    rotate_left
    · exact absurd c48 (by decide)
    exact g_vret C rfl dX4_init_70 (85, ad1, el1) rfl rfl rfl ⟨rfl, b1, b2, bM, ⟨0, 0, _, _, _, _, bT⟩, b3, ⟨g, b4, b5⟩, b6⟩ (Nat.le_of_ble_eq_true rfl) (Nat.le_of_ble_eq_true rfl)
  · -- body
    refine g_iload_n C 0 rfl dX4_init_45 ?_
    refine g_bipush C (v := nI 20) dX4_init_46 (by decide) ?_
    refine g_icmp_ge C (tgt := 70) dX4_init_48 (by decide) (fun c48 => ?_) (fun c48 => ?_)
    · -- 70
      have c48 : 20 ≤ i := (nI_leI (by omega) (by omega)).mp c48
      exact absurd c48 (by omega)
    · -- 51
      have c48 : i < 20 := Nat.lt_of_not_le (fun z => c48 ((nI_leI (by omega) (by omega)).mpr z))
      refine g_aload_n C 1 rfl dX4_init_51 ?_
      refine g_getf C 0 (by omega) b2 rfl 3 (by decide) (fun w h => (List.mem_cons_of_mem _ (List.mem_append_left _ (List.mem_append_left _ (List.mem_append_left _ (List.mem_append_right _ h)))))) (List.mem_of_getElem? (i := 15) rfl) rfl rfl dX4_init_52 ?_
      refine g_iload_n C 0 rfl dX4_init_55 ?_
      refine g_new C (fun w h => (List.mem_cons_of_mem _ (List.mem_append_left _ (List.mem_append_right _ h)))) tyX2 tyX2_ok (List.mem_of_getElem? (i := 14) rfl) (List.mem_of_getElem? (i := 16) rfl) (List.mem_of_getElem? (i := 17) rfl) (ci := 2) rfl (fs := [.null, .null]) (by decide) (by show _ ≤ 84; omega) (by show _ ≤ 1412; omega) dX4_init_56 (fun ad70 el71 ha72 he73 hb74 => ?_)
      refine g_lveq (lv' := [(1, .int (nI i)), (0, .ref (ad70 0))]) (by rw [ha72 0 (by omega)]) ?_
      refine g_steq (st' := .ref (ad70 (25 + 3 * i)) :: [.int (nI i), .ref (ad70 24)]) (by rw [ha72 24 (by omega)]) ?_
      have m75 : el71 0 = .inr (4, [.ref (ad70 1), .ref (ad70 10), .ref (ad70 23), .ref (ad70 24), .int 0]) := by rw [hb74 0 (by omega), b2, ha72 1 (by omega), ha72 10 (by omega), ha72 23 (by omega), ha72 24 (by omega)]
      have m76 := (hb74 23 (by omega)).trans b3
      have m77 := (hb74 24 (by omega)).trans b4
      have P78 := (bM.keep (fun j h1 h2 => hb74 j (by omega))).adr (fun j h1 h2 => ha72 j (by omega))
      have P79 := (bT.keep (fun j h1 h2 => hb74 j (by omega))).adr (fun j h1 h2 => ha72 j (by omega))
      refine g_dup C dX4_init_59 rfl ?_
      refine g_callv C (r_I C (st := [.ref (ad70 (25 + 3 * i)), .int (nI i), .ref (ad70 24)]) (c_X2_init l V (k := 25 + 3 * i) he73) (cwI 0 C.ts gX4_init_X2_init rfl rfl rfl (C.ts _ (List.mem_of_getElem? (i := 17) rfl)) (C.ts _ (List.mem_of_getElem? (i := 48) rfl)) (C.ts _ (List.mem_of_getElem? (i := 42) rfl)) rfl (by decide +kernel) ⟨(Nat.le_of_ble_eq_true rfl), (Nat.le_of_ble_eq_true rfl)⟩) rfl rfl (Nat.le_of_ble_eq_true rfl) dX4_init_60 ⟨(by show _ ≤ 84; omega), (by show _ ≤ 1412; omega)⟩) (fun u hu => ?_)
      obtain ⟨n82, ad80, el81⟩ := u
      obtain ⟨q83, q84, q85, q86⟩ := hu
      dsimp only at q83 q84 q85 q86 ⊢
      subst q83
      refine g_lveq (lv' := [(1, .int (nI i)), (0, .ref (ad80 0))]) (by rw [q84 0 (by omega)]) ?_
      refine g_steq (st' := [.ref (ad80 (25 + 3 * i)), .int (nI i), .ref (ad80 24)]) (by rw [q84 24 (by omega), q84 (25 + 3 * i) (by omega)]) ?_
      have m87 : el81 0 = .inr (4, [.ref (ad80 1), .ref (ad80 10), .ref (ad80 23), .ref (ad80 24), .int 0]) := by rw [q86 0 (by omega), m75, q84 1 (by omega), q84 10 (by omega), q84 23 (by omega), q84 24 (by omega)]
      have m88 := (q86 23 (by omega)).trans m76
      have m89 := (q86 24 (by omega)).trans m77
      have P90 := (P78.keep (fun j h1 h2 => q86 j (by omega))).adr (fun j h1 h2 => q84 j (by omega))
      have P91 := (P79.keep (fun j h1 h2 => q86 j (by omega))).adr (fun j h1 h2 => q84 j (by omega))
      refine g_aast C 24 (by omega) 4 (25 + 3 * i) (by omega) q85.1 rfl rfl m89 i rfl (by omega) (by decide) dX4_init_63 (fun el92 e93 o94 => ?_)
      have m95 := (o94 0 (by omega)).trans m87
      have m96 := (o94 23 (by omega)).trans m88
      have P97 := P90.keep (fun j h1 h2 => o94 j (by omega))
      have P98 := P91.keep (fun j h1 h2 => o94 j (by omega))
      have P99 := q85.keep (fun j h1 h2 => o94 j (by omega))
      refine g_iinc C 0 rfl (v := nI (i + 1)) (lv' := [(1, .int (nI (i + 1))), (0, .ref (ad80 0))]) dX4_init_64 (nI_add _ _) (by decide) rfl ?_
      refine g_goto C (tgt := 45) dX4_init_67 (by decide) ?_
      refine g_lv [0, 1] (lv' := [(1, .int (nI (i + 1))), (0, .ref (ad80 0))]) rfl ?_
      exact ih ad80 el92 ⟨fun j hj => (q84 j (by omega)).trans ((ha72 j (by omega)).trans (b1 j hj)), m95, ⟨P97, P98⟩, m96, ⟨_, e93, fun q hq => by
          by_cases e : q = i
          · subst e; rw [va_up_self]
          · rw [va_up_ne _ _ e, b5 q (by omega), q84 _ (by omega), ha72 _ (by omega)]⟩, fun q hq => by
          by_cases e : q = i
          · subst e; exact P99
          · exact (((((b6 q (by omega)).keep (fun j h1 h2 => hb74 j (by omega))).adr (fun j h1 h2 => ha72 j (by omega))).keep (fun j h1 h2 => q86 j (by omega))).adr (fun j h1 h2 => q84 j (by omega))).keep (fun j h1 h2 => o94 j (by omega))⟩
