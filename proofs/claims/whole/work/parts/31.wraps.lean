/-! ===== the law's wrappers ===== -/
set_option maxHeartbeats 4000000 in
set_option maxRecDepth 100000 in
theorem c_L_setFeed (l : Launch) (V : gT) (hlt : l.stackTraces = false) {n : Nat} {ad : Nat → Nat} {el : Nat → va_E} {cnt : Nat} {M St We pl : Nat → Int32} {F T : Nat → Nat → Int32} (hn : 93 ≤ n) (hc : cnt ≤ 20) (h : X4At V ad el cnt M St We pl F T) (g0 : Nat → Int64) (ho : el 92 = .inl (V.2 2, 1, .inr (.inl g0))) (x y : Int32) : TX l V yL_setFeed wsL_setFeed { frames := 7, cells := 1, slots := 6, locals := 113 } n ad el [.ref (ad 0), .int x, .int y, .ref (ad 92)] (QIw V n ad (fun k u => (k = 0 ∧ ∃ (r8 : Int32) (u8 : Nat → va_E), (fun (r : Int32) (u : Nat → va_E) => ((10 ≤ x ∧ x ≤ 30) ∧ -9 ≤ y ∧ y ≤ 9) ∧ r = 100 * M 0 + M 1 ∧ X4At V ad u cnt (upd (upd M 0 x) 1 y) St We pl F T ∧ ∀ j, 85 ≤ j → u j = el j) r8 u8 ∧ (∀ j, j ≠ 92 → u j = u8 j) ∧ OutAt V u r8.toInt64) ∨ (k = 1 ∧ (¬ ((10 ≤ x ∧ x ≤ 30) ∧ -9 ≤ y ∧ y ≤ 9)) ∧ ∀ j, u j = el j))) (fun _ => False) 1 6 := by
  refine TX.bodyH (cc := cL_setFeed) (maxL := 5) (ret := (some .int)) (hh := [(0, 10, 13, 13)]) (by decide) rfl (Nat.le_of_ble_eq_true rfl) ?_
  intro p e s m below meth c C ht
  refine g_lv [0, 1, 2, 3] (lv' := [(0, .ref (ad 0)), (1, .int x), (2, .int y), (3, .ref (ad 92))]) rfl ?_
  refine g_aload_n C 3 rfl dL_setFeed_0 ?_
  refine g_iconst C (v := nI 0) dL_setFeed_1 (by decide) ?_
  refine g_aload_n C 0 rfl dL_setFeed_2 ?_
  refine g_iload_n C 1 rfl dL_setFeed_3 ?_
  refine g_iload_n C 2 rfl dL_setFeed_4 ?_
  refine g_xcalli C (r_xV C (st := [.int (nI 0), .ref (ad 92)]) (c_X4_setFeed l V hlt (by omega) hc h x y) (cwV 2 C.ts gL_setFeed_X4_setFeed rfl rfl rfl (by decide +kernel) ⟨(Nat.le_of_ble_eq_true rfl), (Nat.le_of_ble_eq_true rfl)⟩) (by omega) h.1 rfl rfl rfl (Nat.le_of_ble_eq_true rfl) dL_setFeed_5 ⟨(Nat.le_of_ble_eq_true rfl), (Nat.le_of_ble_eq_true rfl)⟩) (fun E hE => ?_) (fun r u hu => ?_)
  · -- throws
    obtain ⟨rfl, hno⟩ := hE
    refine g_catch C (hh := [(0, 10, 13, 13)]) ht [] ⟨0, 10, 13, 13⟩ [] rfl (fun z hz => absurd hz List.not_mem_nil) rfl (by decide) (List.mem_of_getElem? (i := 1) rfl) (List.mem_of_getElem? (i := 16) rfl) 13 rfl (fun q => ?_)
    refine g_astore C (lv' := [(4, .ref q), (0, .ref (ad 0)), (1, .int x), (2, .int y), (3, .ref (ad 92))]) dL_setFeed_13 (by decide) rfl ?_
    refine g_iconst C (v := nI 1) dL_setFeed_15 (by decide) ?_
    exact g_x (g_iret C rfl dL_setFeed_16 el rfl rfl rfl (Or.inr (⟨rfl, hno, fun j => rfl⟩)) (Nat.le_of_ble_eq_true rfl) (Nat.le_of_ble_eq_true rfl))
  obtain ⟨-, -, -, hfr⟩ := id hu
  refine g_i2l C (v := r.toInt64) dL_setFeed_8 rfl ?_
  refine g_last C 92 (by omega) ((hfr 92 (by omega)).trans ho) 0 rfl (by omega) (by decide) dL_setFeed_9 (fun el1 e2 o3 => ?_)
  refine g_goto C (tgt := 17) dL_setFeed_10 (by decide) ?_
  refine g_iconst C (v := nI 0) dL_setFeed_17 (by decide) ?_
  exact g_x (g_iret C rfl dL_setFeed_18 el1 rfl rfl rfl (Or.inl ⟨rfl, r, u, hu, fun j hj => o3 j hj, ⟨_, e2, updL_s _ _⟩⟩) (Nat.le_of_ble_eq_true rfl) (Nat.le_of_ble_eq_true rfl))

set_option maxHeartbeats 4000000 in
set_option maxRecDepth 100000 in
theorem c_L_roll (l : Launch) (V : gT) (hlt : l.stackTraces = false) {n : Nat} {ad : Nat → Nat} {el : Nat → va_E} {cnt : Nat} {M St We pl : Nat → Int32} {F T : Nat → Nat → Int32} (hn : 93 ≤ n) (hc : cnt ≤ 20) (h : X4At V ad el cnt M St We pl F T) (g0 : Nat → Int64) (ho : el 92 = .inl (V.2 2, 1, .inr (.inl g0))) (x y : Int32) : TX l V yL_roll wsL_roll { frames := 7, cells := 1, slots := 6, locals := 113 } n ad el [.ref (ad 0), .int x, .int y, .ref (ad 92)] (QIw V n ad (fun k u => (k = 0 ∧ ∃ (r8 : Int32) (u8 : Nat → va_E), (fun (r : Int32) (u : Nat → va_E) => ((1 ≤ x ∧ x ≤ 400) ∧ 1 ≤ y ∧ y ≤ 9) ∧ r = M 3 ∧ X4At V ad u cnt (upd (upd (upd M 3 x) 5 0) 4 y) St We pl F T ∧ ∀ j, 85 ≤ j → u j = el j) r8 u8 ∧ (∀ j, j ≠ 92 → u j = u8 j) ∧ OutAt V u r8.toInt64) ∨ (k = 1 ∧ (¬ ((1 ≤ x ∧ x ≤ 400) ∧ 1 ≤ y ∧ y ≤ 9)) ∧ ∀ j, u j = el j))) (fun _ => False) 1 6 := by
  refine TX.bodyH (cc := cL_roll) (maxL := 5) (ret := (some .int)) (hh := [(0, 10, 13, 13)]) (by decide) rfl (Nat.le_of_ble_eq_true rfl) ?_
  intro p e s m below meth c C ht
  refine g_lv [0, 1, 2, 3] (lv' := [(0, .ref (ad 0)), (1, .int x), (2, .int y), (3, .ref (ad 92))]) rfl ?_
  refine g_aload_n C 3 rfl dL_roll_0 ?_
  refine g_iconst C (v := nI 0) dL_roll_1 (by decide) ?_
  refine g_aload_n C 0 rfl dL_roll_2 ?_
  refine g_iload_n C 1 rfl dL_roll_3 ?_
  refine g_iload_n C 2 rfl dL_roll_4 ?_
  refine g_xcalli C (r_xV C (st := [.int (nI 0), .ref (ad 92)]) (c_X4_roll l V hlt (by omega) hc h x y) (cwV 2 C.ts gL_roll_X4_roll rfl rfl rfl (by decide +kernel) ⟨(Nat.le_of_ble_eq_true rfl), (Nat.le_of_ble_eq_true rfl)⟩) (by omega) h.1 rfl rfl rfl (Nat.le_of_ble_eq_true rfl) dL_roll_5 ⟨(Nat.le_of_ble_eq_true rfl), (Nat.le_of_ble_eq_true rfl)⟩) (fun E hE => ?_) (fun r u hu => ?_)
  · -- throws
    obtain ⟨rfl, hno⟩ := hE
    refine g_catch C (hh := [(0, 10, 13, 13)]) ht [] ⟨0, 10, 13, 13⟩ [] rfl (fun z hz => absurd hz List.not_mem_nil) rfl (by decide) (List.mem_of_getElem? (i := 1) rfl) (List.mem_of_getElem? (i := 16) rfl) 13 rfl (fun q => ?_)
    refine g_astore C (lv' := [(4, .ref q), (0, .ref (ad 0)), (1, .int x), (2, .int y), (3, .ref (ad 92))]) dL_roll_13 (by decide) rfl ?_
    refine g_iconst C (v := nI 1) dL_roll_15 (by decide) ?_
    exact g_x (g_iret C rfl dL_roll_16 el rfl rfl rfl (Or.inr (⟨rfl, hno, fun j => rfl⟩)) (Nat.le_of_ble_eq_true rfl) (Nat.le_of_ble_eq_true rfl))
  obtain ⟨-, -, -, hfr⟩ := id hu
  refine g_i2l C (v := r.toInt64) dL_roll_8 rfl ?_
  refine g_last C 92 (by omega) ((hfr 92 (by omega)).trans ho) 0 rfl (by omega) (by decide) dL_roll_9 (fun el1 e2 o3 => ?_)
  refine g_goto C (tgt := 17) dL_roll_10 (by decide) ?_
  refine g_iconst C (v := nI 0) dL_roll_17 (by decide) ?_
  exact g_x (g_iret C rfl dL_roll_18 el1 rfl rfl rfl (Or.inl ⟨rfl, r, u, hu, fun j hj => o3 j hj, ⟨_, e2, updL_s _ _⟩⟩) (Nat.le_of_ble_eq_true rfl) (Nat.le_of_ble_eq_true rfl))

set_option maxHeartbeats 4000000 in
set_option maxRecDepth 100000 in
theorem c_L_fit (l : Launch) (V : gT) (hlt : l.stackTraces = false) {n : Nat} {ad : Nat → Nat} {el : Nat → va_E} {cnt : Nat} {M St We pl : Nat → Int32} {F T : Nat → Nat → Int32} (hn : 93 ≤ n) (hc : cnt ≤ 20) (h : X4At V ad el cnt M St We pl F T) (g0 : Nat → Int64) (ho : el 92 = .inl (V.2 2, 1, .inr (.inl g0))) (x y : Int32) : TX l V yL_fit wsL_fit { frames := 8, cells := 2, slots := 12, locals := 134 } n ad el [.ref (ad 0), .int x, .int y, .ref (ad 92)] (QIw V n ad (fun k u => (k = 0 ∧ ∃ (r8 : Int32) (u8 : Nat → va_E), (fun (r : Int32) (u : Nat → va_E) => ∃ i : Nat, i < 7 ∧ x = nI i ∧ (1 ≤ y ∧ y ≤ 500) ∧ r = We i ∧ X4At V ad u cnt M (upd St i y) (upd We i 0) pl F T ∧ ∀ j, 85 ≤ j → u j = el j) r8 u8 ∧ (∀ j, j ≠ 92 → u j = u8 j) ∧ OutAt V u r8.toInt64) ∨ (k = 1 ∧ (¬ (0 ≤ x ∧ x ≤ 6)) ∧ ∀ j, u j = el j) ∨ (k = 2 ∧ ((0 ≤ x ∧ x ≤ 6) ∧ ¬ (1 ≤ y ∧ y ≤ 500)) ∧ ∀ j, u j = el j))) (fun _ => False) 2 12 := by
  refine TX.bodyH (cc := cL_fit) (maxL := 5) (ret := (some .int)) (hh := [(0, 10, 13, 21), (0, 10, 17, 13)]) (by decide) rfl (Nat.le_of_ble_eq_true rfl) ?_
  intro p e s m below meth c C ht
  refine g_lv [0, 1, 2, 3] (lv' := [(0, .ref (ad 0)), (1, .int x), (2, .int y), (3, .ref (ad 92))]) rfl ?_
  refine g_aload_n C 3 rfl dL_fit_0 ?_
  refine g_iconst C (v := nI 0) dL_fit_1 (by decide) ?_
  refine g_aload_n C 0 rfl dL_fit_2 ?_
  refine g_iload_n C 1 rfl dL_fit_3 ?_
  refine g_iload_n C 2 rfl dL_fit_4 ?_
  refine g_xcalli C (r_xV C (st := [.int (nI 0), .ref (ad 92)]) (c_X4_fit l V hlt (by omega) hc h x y) (cwV 2 C.ts gL_fit_X4_fit rfl rfl rfl (by decide +kernel) ⟨(Nat.le_of_ble_eq_true rfl), (Nat.le_of_ble_eq_true rfl)⟩) (by omega) h.1 rfl rfl rfl (Nat.le_of_ble_eq_true rfl) dL_fit_5 ⟨(Nat.le_of_ble_eq_true rfl), (Nat.le_of_ble_eq_true rfl)⟩) (fun E hE => ?_) (fun r u hu => ?_)
  · -- throws
    rcases hE with ⟨rfl, hno⟩ | ⟨rfl, hno⟩
    · -- x_IB
      refine g_catch C (hh := [(0, 10, 13, 21), (0, 10, 17, 13)]) ht [] ⟨0, 10, 13, 21⟩ [⟨0, 10, 17, 13⟩] rfl (fun z hz => absurd hz List.not_mem_nil) rfl (by decide) (List.mem_of_getElem? (i := 1) rfl) (List.mem_of_getElem? (i := 23) rfl) 13 rfl (fun q => ?_)
      refine g_astore C (lv' := [(4, .ref q), (0, .ref (ad 0)), (1, .int x), (2, .int y), (3, .ref (ad 92))]) dL_fit_13 (by decide) rfl ?_
      refine g_iconst C (v := nI 1) dL_fit_15 (by decide) ?_
      exact g_x (g_iret C rfl dL_fit_16 el rfl rfl rfl (Or.inr (Or.inl ⟨rfl, hno, fun j => rfl⟩)) (Nat.le_of_ble_eq_true rfl) (Nat.le_of_ble_eq_true rfl))
    · -- x_IA
      refine g_catch C (hh := [(0, 10, 13, 21), (0, 10, 17, 13)]) ht [⟨0, 10, 13, 21⟩] ⟨0, 10, 17, 13⟩ [] rfl (fun z hz => Or.inr (by rw [List.mem_singleton.mp hz]; exact ⟨by decide, _, (List.mem_of_getElem? (i := 1) rfl), (List.mem_of_getElem? (i := 0) rfl)⟩)) rfl (by decide) (List.mem_of_getElem? (i := 2) rfl) (List.mem_of_getElem? (i := 16) rfl) 17 rfl (fun q => ?_)
      refine g_astore C (lv' := [(4, .ref q), (0, .ref (ad 0)), (1, .int x), (2, .int y), (3, .ref (ad 92))]) dL_fit_17 (by decide) rfl ?_
      refine g_iconst C (v := nI 2) dL_fit_19 (by decide) ?_
      exact g_x (g_iret C rfl dL_fit_20 el rfl rfl rfl (Or.inr (Or.inr ⟨rfl, hno, fun j => rfl⟩)) (Nat.le_of_ble_eq_true rfl) (Nat.le_of_ble_eq_true rfl))
  obtain ⟨_, -, -, -, -, -, hfr⟩ := id hu
  refine g_i2l C (v := r.toInt64) dL_fit_8 rfl ?_
  refine g_last C 92 (by omega) ((hfr 92 (by omega)).trans ho) 0 rfl (by omega) (by decide) dL_fit_9 (fun el1 e2 o3 => ?_)
  refine g_goto C (tgt := 21) dL_fit_10 (by decide) ?_
  refine g_iconst C (v := nI 0) dL_fit_21 (by decide) ?_
  exact g_x (g_iret C rfl dL_fit_22 el1 rfl rfl rfl (Or.inl ⟨rfl, r, u, hu, fun j hj => o3 j hj, ⟨_, e2, updL_s _ _⟩⟩) (Nat.le_of_ble_eq_true rfl) (Nat.le_of_ble_eq_true rfl))

set_option maxHeartbeats 4000000 in
set_option maxRecDepth 100000 in
theorem c_L_turn (l : Launch) (V : gT) (hlt : l.stackTraces = false) {n : Nat} {ad : Nat → Nat} {el : Nat → va_E} {cnt : Nat} {M St We pl : Nat → Int32} {F T : Nat → Nat → Int32} (hn : 93 ≤ n) (hc : cnt ≤ 20) (h : X4At V ad el cnt M St We pl F T) (g0 : Nat → Int64) (ho : el 92 = .inl (V.2 2, 1, .inr (.inl g0))) (x y : Int32) : TX l V yL_turn wsL_turn { frames := 8, cells := 1, slots := 6, locals := 134 } n ad el [.ref (ad 0), .int x, .int y, .ref (ad 92)] (QIw V n ad (fun k u => (k = 0 ∧ ∃ (r8 : Int32) (u8 : Nat → va_E), (fun (z : Int32) (u : Nat → va_E) => ∃ r cl : Nat, r < 5 ∧ cl < 6 ∧ x = nI r ∧ y = nI cl ∧ z = (if pl (6 * r + cl) = 0 then 1 else 0) ∧ X4At V ad u cnt M St We (upd pl (6 * r + cl) (if pl (6 * r + cl) = 0 then 1 else 0)) F T ∧ ∀ j, 85 ≤ j → u j = el j) r8 u8 ∧ (∀ j, j ≠ 92 → u j = u8 j) ∧ OutAt V u (if r8 = 0 then 0 else 1)) ∨ (k = 1 ∧ (¬ ((0 ≤ x ∧ x ≤ 4) ∧ 0 ≤ y ∧ y ≤ 5)) ∧ ∀ j, u j = el j))) (fun _ => False) 1 6 := by
  refine TX.bodyH (cc := cL_turn) (maxL := 5) (ret := (some .int)) (hh := [(0, 17, 20, 21)]) (by decide) rfl (Nat.le_of_ble_eq_true rfl) ?_
  intro p e s m below meth c C ht
  refine g_lv [0, 1, 2, 3] (lv' := [(0, .ref (ad 0)), (1, .int x), (2, .int y), (3, .ref (ad 92))]) rfl ?_
  refine g_aload_n C 3 rfl dL_turn_0 ?_
  refine g_iconst C (v := nI 0) dL_turn_1 (by decide) ?_
  refine g_aload_n C 0 rfl dL_turn_2 ?_
  refine g_iload_n C 1 rfl dL_turn_3 ?_
  refine g_iload_n C 2 rfl dL_turn_4 ?_
  refine g_xcalli C (r_xV C (st := [.int (nI 0), .ref (ad 92)]) (c_X4_turn l V hlt (by omega) hc h x y) (cwV 2 C.ts gL_turn_X4_turn rfl rfl rfl (by decide +kernel) ⟨(Nat.le_of_ble_eq_true rfl), (Nat.le_of_ble_eq_true rfl)⟩) (by omega) h.1 rfl rfl rfl (Nat.le_of_ble_eq_true rfl) dL_turn_5 ⟨(Nat.le_of_ble_eq_true rfl), (Nat.le_of_ble_eq_true rfl)⟩) (fun E hE => ?_) (fun r u hu => ?_)
  · -- throws
    obtain ⟨rfl, hno⟩ := hE
    refine g_catch C (hh := [(0, 17, 20, 21)]) ht [] ⟨0, 17, 20, 21⟩ [] rfl (fun z hz => absurd hz List.not_mem_nil) rfl (by decide) (List.mem_of_getElem? (i := 1) rfl) (List.mem_of_getElem? (i := 23) rfl) 20 rfl (fun q => ?_)
    refine g_astore C (lv' := [(4, .ref q), (0, .ref (ad 0)), (1, .int x), (2, .int y), (3, .ref (ad 92))]) dL_turn_20 (by decide) rfl ?_
    refine g_iconst C (v := nI 1) dL_turn_22 (by decide) ?_
    exact g_x (g_iret C rfl dL_turn_23 el rfl rfl rfl (Or.inr (⟨rfl, hno, fun j => rfl⟩)) (Nat.le_of_ble_eq_true rfl) (Nat.le_of_ble_eq_true rfl))
  obtain ⟨_, _, -, -, -, -, -, -, hfr⟩ := id hu
  refine g_if_eq C (tgt := 15) dL_turn_8 (by decide) (fun c8 => ?_) (fun c8 => ?_)
  · -- 15
    refine g_lconst C (v := 0) dL_turn_15 (by decide) ?_
    refine g_last C 92 (by omega) ((hfr 92 (by omega)).trans ho) 0 rfl (by omega) (by decide) dL_turn_16 (fun el1 e2 o3 => ?_)
    refine g_goto C (tgt := 24) dL_turn_17 (by decide) ?_
    refine g_iconst C (v := nI 0) dL_turn_24 (by decide) ?_
    exact g_x (g_iret C rfl dL_turn_25 el1 rfl rfl rfl (Or.inl ⟨rfl, r, u, hu, fun j hj => o3 j hj, ⟨_, e2, (updL_s _ _).trans (if_pos c8).symm⟩⟩) (Nat.le_of_ble_eq_true rfl) (Nat.le_of_ble_eq_true rfl))
  · -- 11
    refine g_lconst C (v := 1) dL_turn_11 (by decide) ?_
    refine g_goto C (tgt := 16) dL_turn_12 (by decide) ?_
    refine g_last C 92 (by omega) ((hfr 92 (by omega)).trans ho) 0 rfl (by omega) (by decide) dL_turn_16 (fun el4 e5 o6 => ?_)
    refine g_goto C (tgt := 24) dL_turn_17 (by decide) ?_
    refine g_iconst C (v := nI 0) dL_turn_24 (by decide) ?_
    exact g_x (g_iret C rfl dL_turn_25 el4 rfl rfl rfl (Or.inl ⟨rfl, r, u, hu, fun j hj => o6 j hj, ⟨_, e5, (updL_s _ _).trans (if_neg c8).symm⟩⟩) (Nat.le_of_ble_eq_true rfl) (Nat.le_of_ble_eq_true rfl))

set_option maxHeartbeats 4000000 in
set_option maxRecDepth 100000 in
theorem c_L_run (l : Launch) (V : gT) (hlt : l.stackTraces = false) {n : Nat} {ad : Nat → Nat} {el : Nat → va_E} {cnt : Nat} {M St We pl : Nat → Int32} {F T : Nat → Nat → Int32} (hn : 93 ≤ n) (hc : cnt ≤ 20) (h : X4At V ad el cnt M St We pl F T) (g0 : Nat → Int64) (ho : el 92 = .inl (V.2 2, 1, .inr (.inl g0))) : TX l V yL_run wsL_run { frames := 7, cells := 1, slots := 6, locals := 112 } n ad el [.ref (ad 0), .ref (ad 92)] (QIw V n ad (fun k u => (k = 0 ∧ ∃ (r8 : Int32) (u8 : Nat → va_E), (fun (r : Int32) (u : Nat → va_E) => (cnt < 20 ∧ 5 ≤ M 3) ∧ r = nI cnt ∧ (∃ f1 : Nat → Int32, (∀ j, j < 30 → f1 j = s_fault M St We pl j) ∧ X4At V ad u (cnt + 1) (s_end M) St (s_W St We 5) pl (va_up F cnt f1) T) ∧ ∀ j, 85 ≤ j → u j = el j) r8 u8 ∧ (∀ j, j ≠ 92 → u j = u8 j) ∧ OutAt V u r8.toInt64) ∨ (k = 1 ∧ (¬ (cnt < 20 ∧ 5 ≤ M 3)) ∧ ∀ j, u j = el j))) (fun _ => False) 1 6 := by
  refine TX.bodyH (cc := cL_run) (maxL := 3) (ret := (some .int)) (hh := [(0, 8, 11, 31)]) (by decide) rfl (Nat.le_of_ble_eq_true rfl) ?_
  intro p e s m below meth c C ht
  refine g_lv [0, 1] (lv' := [(0, .ref (ad 0)), (1, .ref (ad 92))]) rfl ?_
  refine g_aload_n C 1 rfl dL_run_0 ?_
  refine g_iconst C (v := nI 0) dL_run_1 (by decide) ?_
  refine g_aload_n C 0 rfl dL_run_2 ?_
  refine g_xcalli C (r_xV C (st := [.int (nI 0), .ref (ad 92)]) (c_X4_run l V hlt (by omega) hc h) (cwV 0 C.ts gL_run_X4_run rfl rfl rfl (by decide +kernel) ⟨(Nat.le_of_ble_eq_true rfl), (Nat.le_of_ble_eq_true rfl)⟩) (by omega) h.1 rfl rfl rfl (Nat.le_of_ble_eq_true rfl) dL_run_3 ⟨(Nat.le_of_ble_eq_true rfl), (Nat.le_of_ble_eq_true rfl)⟩) (fun E hE => ?_) (fun r u hu => ?_)
  · -- throws
    obtain ⟨rfl, hno⟩ := hE
    refine g_catch C (hh := [(0, 8, 11, 31)]) ht [] ⟨0, 8, 11, 31⟩ [] rfl (fun z hz => absurd hz List.not_mem_nil) rfl (by decide) (List.mem_of_getElem? (i := 1) rfl) (List.mem_of_getElem? (i := 24) rfl) 11 rfl (fun q => ?_)
    refine g_astore_n C (lv' := [(2, .ref q), (0, .ref (ad 0)), (1, .ref (ad 92))]) dL_run_11 (by decide) rfl ?_
    refine g_iconst C (v := nI 1) dL_run_12 (by decide) ?_
    exact g_x (g_iret C rfl dL_run_13 el rfl rfl rfl (Or.inr (⟨rfl, hno, fun j => rfl⟩)) (Nat.le_of_ble_eq_true rfl) (Nat.le_of_ble_eq_true rfl))
  obtain ⟨-, -, -, hfr⟩ := id hu
  refine g_i2l C (v := r.toInt64) dL_run_6 rfl ?_
  refine g_last C 92 (by omega) ((hfr 92 (by omega)).trans ho) 0 rfl (by omega) (by decide) dL_run_7 (fun el1 e2 o3 => ?_)
  refine g_goto C (tgt := 14) dL_run_8 (by decide) ?_
  refine g_iconst C (v := nI 0) dL_run_14 (by decide) ?_
  exact g_x (g_iret C rfl dL_run_15 el1 rfl rfl rfl (Or.inl ⟨rfl, r, u, hu, fun j hj => o3 j hj, ⟨_, e2, updL_s _ _⟩⟩) (Nat.le_of_ble_eq_true rfl) (Nat.le_of_ble_eq_true rfl))

set_option maxHeartbeats 4000000 in
set_option maxRecDepth 100000 in
theorem c_L_faults (l : Launch) (V : gT) (hlt : l.stackTraces = false) {n : Nat} {ad : Nat → Nat} {el : Nat → va_E} {cnt : Nat} {M St We pl : Nat → Int32} {F T : Nat → Nat → Int32} (hn : 93 ≤ n) (hc : cnt ≤ 20) (h : X4At V ad el cnt M St We pl F T) (g0 : Nat → Int64) (ho : el 92 = .inl (V.2 2, 1, .inr (.inl g0))) (x y z : Int32) : TX l V yL_faults wsL_faults { frames := 8, cells := 2, slots := 12, locals := 134 } n ad el [.ref (ad 0), .int x, .int y, .int z, .ref (ad 92)] (QIw V n ad (fun k u => (k = 0 ∧ ∃ (r8 : Int32) (u8 : Nat → va_E), (fun (v : Int32) => ∃ i r cl : Nat, i < cnt ∧ r < 5 ∧ cl < 6 ∧ x = nI i ∧ y = nI r ∧ z = nI cl ∧ v = F i (6 * r + cl)) r8 ∧ u8 = el ∧ (∀ j, j ≠ 92 → u j = u8 j) ∧ OutAt V u r8.toInt64) ∨ (k = 1 ∧ (¬ ((0 ≤ x ∧ x ≤ nI cnt - nI 1) ∧ (0 ≤ y ∧ y ≤ 4) ∧ 0 ≤ z ∧ z ≤ 5)) ∧ ∀ j, u j = el j))) (fun _ => False) 2 12 := by
  refine TX.bodyH (cc := cL_faults) (maxL := 6) (ret := (some .int)) (hh := [(0, 12, 15, 21)]) (by decide) rfl (Nat.le_of_ble_eq_true rfl) ?_
  intro p e s m below meth c C ht
  refine g_lv [0, 1, 2, 3, 4] (lv' := [(0, .ref (ad 0)), (1, .int x), (2, .int y), (3, .int z), (4, .ref (ad 92))]) rfl ?_
  refine g_aload C 4 rfl dL_faults_0 ?_
  refine g_iconst C (v := nI 0) dL_faults_2 (by decide) ?_
  refine g_aload_n C 0 rfl dL_faults_3 ?_
  refine g_iload_n C 1 rfl dL_faults_4 ?_
  refine g_iload_n C 2 rfl dL_faults_5 ?_
  refine g_iload_n C 3 rfl dL_faults_6 ?_
  refine g_xcalli C (r_xV C (st := [.int (nI 0), .ref (ad 92)]) (c_X4_faults l V hlt (by omega) hc h x y z) (cwV 3 C.ts gL_faults_X4_faults rfl rfl rfl (by decide +kernel) ⟨(Nat.le_of_ble_eq_true rfl), (Nat.le_of_ble_eq_true rfl)⟩) (by omega) h.1 rfl rfl rfl (Nat.le_of_ble_eq_true rfl) dL_faults_7 ⟨(Nat.le_of_ble_eq_true rfl), (Nat.le_of_ble_eq_true rfl)⟩) (fun E hE => ?_) (fun r u hu => ?_)
  · -- throws
    obtain ⟨rfl, hno⟩ := hE
    refine g_catch C (hh := [(0, 12, 15, 21)]) ht [] ⟨0, 12, 15, 21⟩ [] rfl (fun z hz => absurd hz List.not_mem_nil) rfl (by decide) (List.mem_of_getElem? (i := 1) rfl) (List.mem_of_getElem? (i := 23) rfl) 15 rfl (fun q => ?_)
    refine g_astore C (lv' := [(5, .ref q), (0, .ref (ad 0)), (1, .int x), (2, .int y), (3, .int z), (4, .ref (ad 92))]) dL_faults_15 (by decide) rfl ?_
    refine g_iconst C (v := nI 1) dL_faults_17 (by decide) ?_
    exact g_x (g_iret C rfl dL_faults_18 el rfl rfl rfl (Or.inr (⟨rfl, hno, fun j => rfl⟩)) (Nat.le_of_ble_eq_true rfl) (Nat.le_of_ble_eq_true rfl))
  refine g_i2l C (v := r.toInt64) dL_faults_10 rfl ?_
  refine g_last C 92 (by omega) ho 0 rfl (by omega) (by decide) dL_faults_11 (fun el1 e2 o3 => ?_)
  have m4 := (o3 0 (by omega)).trans h.1
  refine g_goto C (tgt := 19) dL_faults_12 (by decide) ?_
  refine g_iconst C (v := nI 0) dL_faults_19 (by decide) ?_
  exact g_x (g_iret C rfl dL_faults_20 el1 rfl rfl rfl (Or.inl ⟨rfl, r, el, hu, rfl, fun j hj => o3 j hj, ⟨_, e2, updL_s _ _⟩⟩) (Nat.le_of_ble_eq_true rfl) (Nat.le_of_ble_eq_true rfl))

set_option maxHeartbeats 4000000 in
set_option maxRecDepth 100000 in
theorem c_L_tear (l : Launch) (V : gT) (hlt : l.stackTraces = false) {n : Nat} {ad : Nat → Nat} {el : Nat → va_E} {cnt : Nat} {M St We pl : Nat → Int32} {F T : Nat → Nat → Int32} (hn : 93 ≤ n) (hc : cnt ≤ 20) (h : X4At V ad el cnt M St We pl F T) (g0 : Nat → Int64) (ho : el 92 = .inl (V.2 2, 1, .inr (.inl g0))) (x y z : Int32) : TX l V yL_tear wsL_tear { frames := 8, cells := 3, slots := 18, locals := 137 } n ad el [.ref (ad 0), .int x, .int y, .int z, .ref (ad 92)] (QIw V n ad (fun k u => (k = 0 ∧ ∃ (r8 : Int32) (u8 : Nat → va_E), (fun (v : Int32) (u : Nat → va_E) => ∃ i r cl : Nat, i < cnt ∧ r < 5 ∧ cl < 6 ∧ x = nI i ∧ y = nI r ∧ z = nI cl ∧ T i (6 * r + cl) = 0 ∧ v = s_worth (F i (6 * r + cl)) (T i (6 * r + cl)) ∧ X4At V ad u cnt M St We pl F (va_up T i (upd (T i) (6 * r + cl) 1)) ∧ ∀ j, 85 ≤ j → u j = el j) r8 u8 ∧ (∀ j, j ≠ 92 → u j = u8 j) ∧ OutAt V u r8.toInt64) ∨ (k = 1 ∧ (¬ ((0 ≤ x ∧ x ≤ nI cnt - nI 1) ∧ (0 ≤ y ∧ y ≤ 4) ∧ 0 ≤ z ∧ z ≤ 5)) ∧ ∀ j, u j = el j) ∨ (k = 2 ∧ (∃ i r cl : Nat, i < cnt ∧ r < 5 ∧ cl < 6 ∧ x = nI i ∧ y = nI r ∧ z = nI cl ∧ ¬ T i (6 * r + cl) = 0) ∧ ∀ j, u j = el j))) (fun _ => False) 3 18 := by
  refine TX.bodyH (cc := cL_tear) (maxL := 6) (ret := (some .int)) (hh := [(0, 12, 15, 21), (0, 12, 19, 31)]) (by decide) rfl (Nat.le_of_ble_eq_true rfl) ?_
  intro p e s m below meth c C ht
  refine g_lv [0, 1, 2, 3, 4] (lv' := [(0, .ref (ad 0)), (1, .int x), (2, .int y), (3, .int z), (4, .ref (ad 92))]) rfl ?_
  refine g_aload C 4 rfl dL_tear_0 ?_
  refine g_iconst C (v := nI 0) dL_tear_2 (by decide) ?_
  refine g_aload_n C 0 rfl dL_tear_3 ?_
  refine g_iload_n C 1 rfl dL_tear_4 ?_
  refine g_iload_n C 2 rfl dL_tear_5 ?_
  refine g_iload_n C 3 rfl dL_tear_6 ?_
  refine g_xcalli C (r_xV C (st := [.int (nI 0), .ref (ad 92)]) (c_X4_tear l V hlt (by omega) hc h x y z) (cwV 3 C.ts gL_tear_X4_tear rfl rfl rfl (by decide +kernel) ⟨(Nat.le_of_ble_eq_true rfl), (Nat.le_of_ble_eq_true rfl)⟩) (by omega) h.1 rfl rfl rfl (Nat.le_of_ble_eq_true rfl) dL_tear_7 ⟨(Nat.le_of_ble_eq_true rfl), (Nat.le_of_ble_eq_true rfl)⟩) (fun E hE => ?_) (fun r u hu => ?_)
  · -- throws
    rcases hE with ⟨rfl, hno⟩ | ⟨rfl, hno⟩
    · -- x_IB
      refine g_catch C (hh := [(0, 12, 15, 21), (0, 12, 19, 31)]) ht [] ⟨0, 12, 15, 21⟩ [⟨0, 12, 19, 31⟩] rfl (fun z hz => absurd hz List.not_mem_nil) rfl (by decide) (List.mem_of_getElem? (i := 1) rfl) (List.mem_of_getElem? (i := 23) rfl) 15 rfl (fun q => ?_)
      refine g_astore C (lv' := [(5, .ref q), (0, .ref (ad 0)), (1, .int x), (2, .int y), (3, .int z), (4, .ref (ad 92))]) dL_tear_15 (by decide) rfl ?_
      refine g_iconst C (v := nI 1) dL_tear_17 (by decide) ?_
      exact g_x (g_iret C rfl dL_tear_18 el rfl rfl rfl (Or.inr (Or.inl ⟨rfl, hno, fun j => rfl⟩)) (Nat.le_of_ble_eq_true rfl) (Nat.le_of_ble_eq_true rfl))
    · -- x_IS
      refine g_catch C (hh := [(0, 12, 15, 21), (0, 12, 19, 31)]) ht [⟨0, 12, 15, 21⟩] ⟨0, 12, 19, 31⟩ [] rfl (fun z hz => Or.inr (by rw [List.mem_singleton.mp hz]; exact ⟨by decide, _, (List.mem_of_getElem? (i := 1) rfl), (List.mem_of_getElem? (i := 1) rfl)⟩)) rfl (by decide) (List.mem_of_getElem? (i := 2) rfl) (List.mem_of_getElem? (i := 24) rfl) 19 rfl (fun q => ?_)
      refine g_astore C (lv' := [(5, .ref q), (0, .ref (ad 0)), (1, .int x), (2, .int y), (3, .int z), (4, .ref (ad 92))]) dL_tear_19 (by decide) rfl ?_
      refine g_iconst C (v := nI 2) dL_tear_21 (by decide) ?_
      exact g_x (g_iret C rfl dL_tear_22 el rfl rfl rfl (Or.inr (Or.inr ⟨rfl, hno, fun j => rfl⟩)) (Nat.le_of_ble_eq_true rfl) (Nat.le_of_ble_eq_true rfl))
  obtain ⟨_, _, _, -, -, -, -, -, -, -, -, -, hfr⟩ := id hu
  refine g_i2l C (v := r.toInt64) dL_tear_10 rfl ?_
  refine g_last C 92 (by omega) ((hfr 92 (by omega)).trans ho) 0 rfl (by omega) (by decide) dL_tear_11 (fun el1 e2 o3 => ?_)
  refine g_goto C (tgt := 23) dL_tear_12 (by decide) ?_
  refine g_iconst C (v := nI 0) dL_tear_23 (by decide) ?_
  exact g_x (g_iret C rfl dL_tear_24 el1 rfl rfl rfl (Or.inl ⟨rfl, r, u, hu, fun j hj => o3 j hj, ⟨_, e2, updL_s _ _⟩⟩) (Nat.le_of_ble_eq_true rfl) (Nat.le_of_ble_eq_true rfl))

set_option maxHeartbeats 4000000 in
set_option maxRecDepth 100000 in
theorem c_L_sheet (l : Launch) (V : gT) (hlt : l.stackTraces = false) {n : Nat} {ad : Nat → Nat} {el : Nat → va_E} {cnt : Nat} {M St We pl : Nat → Int32} {F T : Nat → Nat → Int32} (hn : 93 ≤ n) (hc : cnt ≤ 20) (h : X4At V ad el cnt M St We pl F T) (g0 : Nat → Int64) (ho : el 92 = .inl (V.2 2, 1, .inr (.inl g0))) (x y : Int32) : TX l V yL_sheet wsL_sheet { frames := 8, cells := 2, slots := 12, locals := 133 } n ad el [.ref (ad 0), .int x, .int y, .ref (ad 92)] (QIw V n ad (fun k u => (k = 0 ∧ ∃ (r8 : Int32) (u8 : Nat → va_E), (fun (v : Int32) => ∃ i : Nat, i < cnt ∧ x = nI i ∧ (0 ≤ y ∧ y ≤ 6 - 1) ∧ v = s_sheet (F i) (T i) y) r8 ∧ u8 = el ∧ (∀ j, j ≠ 92 → u j = u8 j) ∧ OutAt V u r8.toInt64) ∨ (k = 1 ∧ (¬ ((0 ≤ x ∧ x ≤ nI cnt - nI 1) ∧ 0 ≤ y ∧ y ≤ 6 - 1)) ∧ ∀ j, u j = el j))) (fun _ => False) 2 12 := by
  refine TX.bodyH (cc := cL_sheet) (maxL := 5) (ret := (some .int)) (hh := [(0, 10, 13, 21)]) (by decide) rfl (Nat.le_of_ble_eq_true rfl) ?_
  intro p e s m below meth c C ht
  refine g_lv [0, 1, 2, 3] (lv' := [(0, .ref (ad 0)), (1, .int x), (2, .int y), (3, .ref (ad 92))]) rfl ?_
  refine g_aload_n C 3 rfl dL_sheet_0 ?_
  refine g_iconst C (v := nI 0) dL_sheet_1 (by decide) ?_
  refine g_aload_n C 0 rfl dL_sheet_2 ?_
  refine g_iload_n C 1 rfl dL_sheet_3 ?_
  refine g_iload_n C 2 rfl dL_sheet_4 ?_
  refine g_xcalli C (r_xV C (st := [.int (nI 0), .ref (ad 92)]) (c_X4_sheet l V hlt (by omega) hc h x y) (cwV 2 C.ts gL_sheet_X4_sheet rfl rfl rfl (by decide +kernel) ⟨(Nat.le_of_ble_eq_true rfl), (Nat.le_of_ble_eq_true rfl)⟩) (by omega) h.1 rfl rfl rfl (Nat.le_of_ble_eq_true rfl) dL_sheet_5 ⟨(Nat.le_of_ble_eq_true rfl), (Nat.le_of_ble_eq_true rfl)⟩) (fun E hE => ?_) (fun r u hu => ?_)
  · -- throws
    obtain ⟨rfl, hno⟩ := hE
    refine g_catch C (hh := [(0, 10, 13, 21)]) ht [] ⟨0, 10, 13, 21⟩ [] rfl (fun z hz => absurd hz List.not_mem_nil) rfl (by decide) (List.mem_of_getElem? (i := 1) rfl) (List.mem_of_getElem? (i := 23) rfl) 13 rfl (fun q => ?_)
    refine g_astore C (lv' := [(4, .ref q), (0, .ref (ad 0)), (1, .int x), (2, .int y), (3, .ref (ad 92))]) dL_sheet_13 (by decide) rfl ?_
    refine g_iconst C (v := nI 1) dL_sheet_15 (by decide) ?_
    exact g_x (g_iret C rfl dL_sheet_16 el rfl rfl rfl (Or.inr (⟨rfl, hno, fun j => rfl⟩)) (Nat.le_of_ble_eq_true rfl) (Nat.le_of_ble_eq_true rfl))
  refine g_i2l C (v := r.toInt64) dL_sheet_8 rfl ?_
  refine g_last C 92 (by omega) ho 0 rfl (by omega) (by decide) dL_sheet_9 (fun el1 e2 o3 => ?_)
  have m4 := (o3 0 (by omega)).trans h.1
  refine g_goto C (tgt := 17) dL_sheet_10 (by decide) ?_
  refine g_iconst C (v := nI 0) dL_sheet_17 (by decide) ?_
  exact g_x (g_iret C rfl dL_sheet_18 el1 rfl rfl rfl (Or.inl ⟨rfl, r, el, hu, rfl, fun j hj => o3 j hj, ⟨_, e2, updL_s _ _⟩⟩) (Nat.le_of_ble_eq_true rfl) (Nat.le_of_ble_eq_true rfl))

set_option maxHeartbeats 4000000 in
set_option maxRecDepth 100000 in
theorem c_L_pin (l : Launch) (V : gT) (hlt : l.stackTraces = false) {n : Nat} {ad : Nat → Nat} {el : Nat → va_E} {cnt : Nat} {M St We pl : Nat → Int32} {F T : Nat → Nat → Int32} (hn : 93 ≤ n) (hc : cnt ≤ 20) (h : X4At V ad el cnt M St We pl F T) (g0 : Nat → Int64) (ho : el 92 = .inl (V.2 2, 1, .inr (.inl g0))) (x y : Int32) : TX l V yL_pin wsL_pin { frames := 8, cells := 2, slots := 12, locals := 133 } n ad el [.ref (ad 0), .int x, .int y, .ref (ad 92)] (QIw V n ad (fun k u => (k = 0 ∧ ∃ (r8 : Int32) (u8 : Nat → va_E), (fun (v : Int32) => ∃ i : Nat, i < 7 ∧ x = nI i ∧ (0 ≤ y ∧ y ≤ 4 - 1) ∧ v = s_pin (St i) (We i) y) r8 ∧ u8 = el ∧ (∀ j, j ≠ 92 → u j = u8 j) ∧ OutAt V u r8.toInt64) ∨ (k = 1 ∧ (¬ ((0 ≤ x ∧ x ≤ 6) ∧ 0 ≤ y ∧ y ≤ 4 - 1)) ∧ ∀ j, u j = el j))) (fun _ => False) 2 12 := by
  refine TX.bodyH (cc := cL_pin) (maxL := 5) (ret := (some .int)) (hh := [(0, 10, 13, 21)]) (by decide) rfl (Nat.le_of_ble_eq_true rfl) ?_
  intro p e s m below meth c C ht
  refine g_lv [0, 1, 2, 3] (lv' := [(0, .ref (ad 0)), (1, .int x), (2, .int y), (3, .ref (ad 92))]) rfl ?_
  refine g_aload_n C 3 rfl dL_pin_0 ?_
  refine g_iconst C (v := nI 0) dL_pin_1 (by decide) ?_
  refine g_aload_n C 0 rfl dL_pin_2 ?_
  refine g_iload_n C 1 rfl dL_pin_3 ?_
  refine g_iload_n C 2 rfl dL_pin_4 ?_
  refine g_xcalli C (r_xV C (st := [.int (nI 0), .ref (ad 92)]) (c_X4_pin l V hlt (by omega) hc h x y) (cwV 2 C.ts gL_pin_X4_pin rfl rfl rfl (by decide +kernel) ⟨(Nat.le_of_ble_eq_true rfl), (Nat.le_of_ble_eq_true rfl)⟩) (by omega) h.1 rfl rfl rfl (Nat.le_of_ble_eq_true rfl) dL_pin_5 ⟨(Nat.le_of_ble_eq_true rfl), (Nat.le_of_ble_eq_true rfl)⟩) (fun E hE => ?_) (fun r u hu => ?_)
  · -- throws
    obtain ⟨rfl, hno⟩ := hE
    refine g_catch C (hh := [(0, 10, 13, 21)]) ht [] ⟨0, 10, 13, 21⟩ [] rfl (fun z hz => absurd hz List.not_mem_nil) rfl (by decide) (List.mem_of_getElem? (i := 1) rfl) (List.mem_of_getElem? (i := 23) rfl) 13 rfl (fun q => ?_)
    refine g_astore C (lv' := [(4, .ref q), (0, .ref (ad 0)), (1, .int x), (2, .int y), (3, .ref (ad 92))]) dL_pin_13 (by decide) rfl ?_
    refine g_iconst C (v := nI 1) dL_pin_15 (by decide) ?_
    exact g_x (g_iret C rfl dL_pin_16 el rfl rfl rfl (Or.inr (⟨rfl, hno, fun j => rfl⟩)) (Nat.le_of_ble_eq_true rfl) (Nat.le_of_ble_eq_true rfl))
  refine g_i2l C (v := r.toInt64) dL_pin_8 rfl ?_
  refine g_last C 92 (by omega) ho 0 rfl (by omega) (by decide) dL_pin_9 (fun el1 e2 o3 => ?_)
  have m4 := (o3 0 (by omega)).trans h.1
  refine g_goto C (tgt := 17) dL_pin_10 (by decide) ?_
  refine g_iconst C (v := nI 0) dL_pin_17 (by decide) ?_
  exact g_x (g_iret C rfl dL_pin_18 el1 rfl rfl rfl (Or.inl ⟨rfl, r, el, hu, rfl, fun j hj => o3 j hj, ⟨_, e2, updL_s _ _⟩⟩) (Nat.le_of_ble_eq_true rfl) (Nat.le_of_ble_eq_true rfl))

set_option maxHeartbeats 4000000 in
set_option maxRecDepth 100000 in
theorem c_L_count (l : Launch) (V : gT) (hlt : l.stackTraces = false) {n : Nat} {ad : Nat → Nat} {el : Nat → va_E} {cnt : Nat} {M St We pl : Nat → Int32} {F T : Nat → Nat → Int32} (hn : 93 ≤ n) (hc : cnt ≤ 20) (h : X4At V ad el cnt M St We pl F T) (g0 : Nat → Int64) (ho : el 92 = .inl (V.2 2, 1, .inr (.inl g0))) (x : Int32) : TX l V yL_count wsL_count { frames := 8, cells := 1, slots := 6, locals := 132 } n ad el [.ref (ad 0), .int x, .ref (ad 92)] (QIw V n ad (fun k u => (k = 0 ∧ ∃ (r8 : Int32) (u8 : Nat → va_E), (fun (v : Int32) => (0 ≤ x ∧ x ≤ 10 - 1) ∧ v = s_cnt cnt M St We pl F T x) r8 ∧ u8 = el ∧ (∀ j, j ≠ 92 → u j = u8 j) ∧ OutAt V u r8.toInt64) ∨ (k = 1 ∧ (¬ (0 ≤ x ∧ x ≤ 10 - 1)) ∧ ∀ j, u j = el j))) (fun _ => False) 1 6 := by
  refine TX.bodyH (cc := cL_count) (maxL := 4) (ret := (some .int)) (hh := [(0, 9, 12, 21)]) (by decide) rfl (Nat.le_of_ble_eq_true rfl) ?_
  intro p e s m below meth c C ht
  refine g_lv [0, 1, 2] (lv' := [(0, .ref (ad 0)), (1, .int x), (2, .ref (ad 92))]) rfl ?_
  refine g_aload_n C 2 rfl dL_count_0 ?_
  refine g_iconst C (v := nI 0) dL_count_1 (by decide) ?_
  refine g_aload_n C 0 rfl dL_count_2 ?_
  refine g_iload_n C 1 rfl dL_count_3 ?_
  refine g_xcalli C (r_xV C (st := [.int (nI 0), .ref (ad 92)]) (c_X4_count l V hlt (by omega) hc h x) (cwV 1 C.ts gL_count_X4_count rfl rfl rfl (by decide +kernel) ⟨(Nat.le_of_ble_eq_true rfl), (Nat.le_of_ble_eq_true rfl)⟩) (by omega) h.1 rfl rfl rfl (Nat.le_of_ble_eq_true rfl) dL_count_4 ⟨(Nat.le_of_ble_eq_true rfl), (Nat.le_of_ble_eq_true rfl)⟩) (fun E hE => ?_) (fun r u hu => ?_)
  · -- throws
    obtain ⟨rfl, hno⟩ := hE
    refine g_catch C (hh := [(0, 9, 12, 21)]) ht [] ⟨0, 9, 12, 21⟩ [] rfl (fun z hz => absurd hz List.not_mem_nil) rfl (by decide) (List.mem_of_getElem? (i := 1) rfl) (List.mem_of_getElem? (i := 23) rfl) 12 rfl (fun q => ?_)
    refine g_astore_n C (lv' := [(3, .ref q), (0, .ref (ad 0)), (1, .int x), (2, .ref (ad 92))]) dL_count_12 (by decide) rfl ?_
    refine g_iconst C (v := nI 1) dL_count_13 (by decide) ?_
    exact g_x (g_iret C rfl dL_count_14 el rfl rfl rfl (Or.inr (⟨rfl, hno, fun j => rfl⟩)) (Nat.le_of_ble_eq_true rfl) (Nat.le_of_ble_eq_true rfl))
  refine g_i2l C (v := r.toInt64) dL_count_7 rfl ?_
  refine g_last C 92 (by omega) ho 0 rfl (by omega) (by decide) dL_count_8 (fun el1 e2 o3 => ?_)
  have m4 := (o3 0 (by omega)).trans h.1
  refine g_goto C (tgt := 15) dL_count_9 (by decide) ?_
  refine g_iconst C (v := nI 0) dL_count_15 (by decide) ?_
  exact g_x (g_iret C rfl dL_count_16 el1 rfl rfl rfl (Or.inl ⟨rfl, r, el, hu, rfl, fun j hj => o3 j hj, ⟨_, e2, updL_s _ _⟩⟩) (Nat.le_of_ble_eq_true rfl) (Nat.le_of_ble_eq_true rfl))

set_option maxHeartbeats 4000000 in
set_option maxRecDepth 100000 in
theorem c_L_foresee (l : Launch) (V : gT) (hlt : l.stackTraces = false) {n : Nat} {ad : Nat → Nat} {el : Nat → va_E} {cnt : Nat} {M St We pl : Nat → Int32} {F T : Nat → Nat → Int32} (hn : 93 ≤ n) (hc : cnt ≤ 20) (h : X4At V ad el cnt M St We pl F T) (g0 : Nat → Int64) (ho : el 92 = .inl (V.2 2, 1, .inr (.inl g0))) (x y : Int32) : TX l V yL_foresee wsL_foresee { frames := 8, cells := 2, slots := 12, locals := 139 } n ad el [.ref (ad 0), .int x, .int y, .ref (ad 92)] (QIw V n ad (fun k u => (k = 0 ∧ ∃ (r8 : Int32) (u8 : Nat → va_E), (fun (r : Int32) (u : Nat → va_E) => ∃ N : Nat, 1 ≤ N ∧ N ≤ 20 ∧ x = nI N ∧ (0 ≤ y ∧ y ≤ 4 - 1) ∧ r = s_fore M St We pl N y ∧ X4At V ad u cnt M St We pl F T ∧ ∀ j, 85 ≤ j → u j = el j) r8 u8 ∧ (∀ j, j ≠ 92 → u j = u8 j) ∧ OutAt V u r8.toInt64) ∨ (k = 1 ∧ (¬ (1 ≤ x ∧ x ≤ 20)) ∧ ∀ j, u j = el j) ∨ (k = 2 ∧ ((1 ≤ x ∧ x ≤ 20) ∧ ¬ (0 ≤ y ∧ y ≤ 4 - 1)) ∧ ∀ j, u j = el j))) (fun _ => False) 2 12 := by
  refine TX.bodyH (cc := cL_foresee) (maxL := 5) (ret := (some .int)) (hh := [(0, 10, 13, 13), (0, 10, 17, 21)]) (by decide) rfl (Nat.le_of_ble_eq_true rfl) ?_
  intro p e s m below meth c C ht
  refine g_lv [0, 1, 2, 3] (lv' := [(0, .ref (ad 0)), (1, .int x), (2, .int y), (3, .ref (ad 92))]) rfl ?_
  refine g_aload_n C 3 rfl dL_foresee_0 ?_
  refine g_iconst C (v := nI 0) dL_foresee_1 (by decide) ?_
  refine g_aload_n C 0 rfl dL_foresee_2 ?_
  refine g_iload_n C 1 rfl dL_foresee_3 ?_
  refine g_iload_n C 2 rfl dL_foresee_4 ?_
  refine g_xcalli C (r_xV C (st := [.int (nI 0), .ref (ad 92)]) (c_X4_foresee l V hlt (by omega) hc h x y) (cwV 2 C.ts gL_foresee_X4_foresee rfl rfl rfl (by decide +kernel) ⟨(Nat.le_of_ble_eq_true rfl), (Nat.le_of_ble_eq_true rfl)⟩) (by omega) h.1 rfl rfl rfl (Nat.le_of_ble_eq_true rfl) dL_foresee_5 ⟨(Nat.le_of_ble_eq_true rfl), (Nat.le_of_ble_eq_true rfl)⟩) (fun E hE => ?_) (fun r u hu => ?_)
  · -- throws
    rcases hE with ⟨rfl, hno⟩ | ⟨rfl, hno⟩
    · -- x_IA
      refine g_catch C (hh := [(0, 10, 13, 13), (0, 10, 17, 21)]) ht [] ⟨0, 10, 13, 13⟩ [⟨0, 10, 17, 21⟩] rfl (fun z hz => absurd hz List.not_mem_nil) rfl (by decide) (List.mem_of_getElem? (i := 1) rfl) (List.mem_of_getElem? (i := 16) rfl) 13 rfl (fun q => ?_)
      refine g_astore C (lv' := [(4, .ref q), (0, .ref (ad 0)), (1, .int x), (2, .int y), (3, .ref (ad 92))]) dL_foresee_13 (by decide) rfl ?_
      refine g_iconst C (v := nI 1) dL_foresee_15 (by decide) ?_
      exact g_x (g_iret C rfl dL_foresee_16 el rfl rfl rfl (Or.inr (Or.inl ⟨rfl, hno, fun j => rfl⟩)) (Nat.le_of_ble_eq_true rfl) (Nat.le_of_ble_eq_true rfl))
    · -- x_IB
      refine g_catch C (hh := [(0, 10, 13, 13), (0, 10, 17, 21)]) ht [⟨0, 10, 13, 13⟩] ⟨0, 10, 17, 21⟩ [] rfl (fun z hz => Or.inr (by rw [List.mem_singleton.mp hz]; exact ⟨by decide, _, (List.mem_of_getElem? (i := 1) rfl), (List.mem_of_getElem? (i := 2) rfl)⟩)) rfl (by decide) (List.mem_of_getElem? (i := 2) rfl) (List.mem_of_getElem? (i := 23) rfl) 17 rfl (fun q => ?_)
      refine g_astore C (lv' := [(4, .ref q), (0, .ref (ad 0)), (1, .int x), (2, .int y), (3, .ref (ad 92))]) dL_foresee_17 (by decide) rfl ?_
      refine g_iconst C (v := nI 2) dL_foresee_19 (by decide) ?_
      exact g_x (g_iret C rfl dL_foresee_20 el rfl rfl rfl (Or.inr (Or.inr ⟨rfl, hno, fun j => rfl⟩)) (Nat.le_of_ble_eq_true rfl) (Nat.le_of_ble_eq_true rfl))
  obtain ⟨_, -, -, -, -, -, -, hfr⟩ := id hu
  refine g_i2l C (v := r.toInt64) dL_foresee_8 rfl ?_
  refine g_last C 92 (by omega) ((hfr 92 (by omega)).trans ho) 0 rfl (by omega) (by decide) dL_foresee_9 (fun el1 e2 o3 => ?_)
  refine g_goto C (tgt := 21) dL_foresee_10 (by decide) ?_
  refine g_iconst C (v := nI 0) dL_foresee_21 (by decide) ?_
  exact g_x (g_iret C rfl dL_foresee_22 el1 rfl rfl rfl (Or.inl ⟨rfl, r, u, hu, fun j hj => o3 j hj, ⟨_, e2, updL_s _ _⟩⟩) (Nat.le_of_ble_eq_true rfl) (Nat.le_of_ble_eq_true rfl))

set_option maxHeartbeats 4000000 in
set_option maxRecDepth 100000 in
theorem c_L_advise (l : Launch) (V : gT) (hlt : l.stackTraces = false) {n : Nat} {ad : Nat → Nat} {el : Nat → va_E} {cnt : Nat} {M St We pl : Nat → Int32} {F T : Nat → Nat → Int32} (hn : 93 ≤ n) (hc : cnt ≤ 20) (h : X4At V ad el cnt M St We pl F T) (g0 : Nat → Int64) (ho : el 92 = .inl (V.2 2, 1, .inr (.inl g0))) (x : Int32) : TX l V yL_advise wsL_advise { frames := 8, cells := 1, slots := 6, locals := 141 } n ad el [.ref (ad 0), .int x, .ref (ad 92)] (QIw V n ad (fun k u => (k = 0 ∧ ∃ (r8 : Int32) (u8 : Nat → va_E), (fun (r : Int32) (u : Nat → va_E) => ∃ N : Nat, 1 ≤ N ∧ N ≤ 20 ∧ x = nI N ∧ r = s_adv M St We pl N ∧ X4At V ad u cnt M St We pl F T ∧ ∀ j, 85 ≤ j → u j = el j) r8 u8 ∧ (∀ j, j ≠ 92 → u j = u8 j) ∧ OutAt V u r8.toInt64) ∨ (k = 1 ∧ (¬ (1 ≤ x ∧ x ≤ 20)) ∧ ∀ j, u j = el j))) (fun _ => False) 1 6 := by
  refine TX.bodyH (cc := cL_advise) (maxL := 4) (ret := (some .int)) (hh := [(0, 9, 12, 13)]) (by decide) rfl (Nat.le_of_ble_eq_true rfl) ?_
  intro p e s m below meth c C ht
  refine g_lv [0, 1, 2] (lv' := [(0, .ref (ad 0)), (1, .int x), (2, .ref (ad 92))]) rfl ?_
  refine g_aload_n C 2 rfl dL_advise_0 ?_
  refine g_iconst C (v := nI 0) dL_advise_1 (by decide) ?_
  refine g_aload_n C 0 rfl dL_advise_2 ?_
  refine g_iload_n C 1 rfl dL_advise_3 ?_
  refine g_xcalli C (r_xV C (st := [.int (nI 0), .ref (ad 92)]) (c_X4_advise l V hlt (by omega) hc h x) (cwV 1 C.ts gL_advise_X4_advise rfl rfl rfl (by decide +kernel) ⟨(Nat.le_of_ble_eq_true rfl), (Nat.le_of_ble_eq_true rfl)⟩) (by omega) h.1 rfl rfl rfl (Nat.le_of_ble_eq_true rfl) dL_advise_4 ⟨(Nat.le_of_ble_eq_true rfl), (Nat.le_of_ble_eq_true rfl)⟩) (fun E hE => ?_) (fun r u hu => ?_)
  · -- throws
    obtain ⟨rfl, hno⟩ := hE
    refine g_catch C (hh := [(0, 9, 12, 13)]) ht [] ⟨0, 9, 12, 13⟩ [] rfl (fun z hz => absurd hz List.not_mem_nil) rfl (by decide) (List.mem_of_getElem? (i := 1) rfl) (List.mem_of_getElem? (i := 16) rfl) 12 rfl (fun q => ?_)
    refine g_astore_n C (lv' := [(3, .ref q), (0, .ref (ad 0)), (1, .int x), (2, .ref (ad 92))]) dL_advise_12 (by decide) rfl ?_
    refine g_iconst C (v := nI 1) dL_advise_13 (by decide) ?_
    exact g_x (g_iret C rfl dL_advise_14 el rfl rfl rfl (Or.inr (⟨rfl, hno, fun j => rfl⟩)) (Nat.le_of_ble_eq_true rfl) (Nat.le_of_ble_eq_true rfl))
  obtain ⟨_, -, -, -, -, -, hfr⟩ := id hu
  refine g_i2l C (v := r.toInt64) dL_advise_7 rfl ?_
  refine g_last C 92 (by omega) ((hfr 92 (by omega)).trans ho) 0 rfl (by omega) (by decide) dL_advise_8 (fun el1 e2 o3 => ?_)
  refine g_goto C (tgt := 15) dL_advise_9 (by decide) ?_
  refine g_iconst C (v := nI 0) dL_advise_15 (by decide) ?_
  exact g_x (g_iret C rfl dL_advise_16 el1 rfl rfl rfl (Or.inl ⟨rfl, r, u, hu, fun j hj => o3 j hj, ⟨_, e2, updL_s _ _⟩⟩) (Nat.le_of_ble_eq_true rfl) (Nat.le_of_ble_eq_true rfl))

set_option maxHeartbeats 4000000 in
set_option maxRecDepth 100000 in
theorem c_L_like (l : Launch) (V : gT) (hlt : l.stackTraces = false) {n : Nat} {ad : Nat → Nat} {el : Nat → va_E} {cnt : Nat} {M St We pl : Nat → Int32} {F T : Nat → Nat → Int32} (hn : 93 ≤ n) (hc : cnt ≤ 20) (h : X4At V ad el cnt M St We pl F T) (g0 : Nat → Int64) (ho : el 92 = .inl (V.2 2, 1, .inr (.inl g0))) (x : Int32) : TX l V yL_like wsL_like { frames := 7, cells := 1, slots := 6, locals := 111 } n ad el [.ref (ad 0), .int x, .ref (ad 92)] (QIw V n ad (fun k u => (k = 0 ∧ ∃ (r8 : Int32) (u8 : Nat → va_E), (fun (v : Int32) => (0 ≤ x ∧ x ≤ 31) ∧ v = s_with F T x cnt) r8 ∧ u8 = el ∧ (∀ j, j ≠ 92 → u j = u8 j) ∧ OutAt V u r8.toInt64) ∨ (k = 1 ∧ (¬ (0 ≤ x ∧ x ≤ 31)) ∧ ∀ j, u j = el j))) (fun _ => False) 1 6 := by
  refine TX.bodyH (cc := cL_like) (maxL := 4) (ret := (some .int)) (hh := [(0, 9, 12, 13)]) (by decide) rfl (Nat.le_of_ble_eq_true rfl) ?_
  intro p e s m below meth c C ht
  refine g_lv [0, 1, 2] (lv' := [(0, .ref (ad 0)), (1, .int x), (2, .ref (ad 92))]) rfl ?_
  refine g_aload_n C 2 rfl dL_like_0 ?_
  refine g_iconst C (v := nI 0) dL_like_1 (by decide) ?_
  refine g_aload_n C 0 rfl dL_like_2 ?_
  refine g_iload_n C 1 rfl dL_like_3 ?_
  refine g_xcalli C (r_xV C (st := [.int (nI 0), .ref (ad 92)]) (c_X4_like l V hlt (by omega) hc h x) (cwV 1 C.ts gL_like_X4_like rfl rfl rfl (by decide +kernel) ⟨(Nat.le_of_ble_eq_true rfl), (Nat.le_of_ble_eq_true rfl)⟩) (by omega) h.1 rfl rfl rfl (Nat.le_of_ble_eq_true rfl) dL_like_4 ⟨(Nat.le_of_ble_eq_true rfl), (Nat.le_of_ble_eq_true rfl)⟩) (fun E hE => ?_) (fun r u hu => ?_)
  · -- throws
    obtain ⟨rfl, hno⟩ := hE
    refine g_catch C (hh := [(0, 9, 12, 13)]) ht [] ⟨0, 9, 12, 13⟩ [] rfl (fun z hz => absurd hz List.not_mem_nil) rfl (by decide) (List.mem_of_getElem? (i := 1) rfl) (List.mem_of_getElem? (i := 16) rfl) 12 rfl (fun q => ?_)
    refine g_astore_n C (lv' := [(3, .ref q), (0, .ref (ad 0)), (1, .int x), (2, .ref (ad 92))]) dL_like_12 (by decide) rfl ?_
    refine g_iconst C (v := nI 1) dL_like_13 (by decide) ?_
    exact g_x (g_iret C rfl dL_like_14 el rfl rfl rfl (Or.inr (⟨rfl, hno, fun j => rfl⟩)) (Nat.le_of_ble_eq_true rfl) (Nat.le_of_ble_eq_true rfl))
  refine g_i2l C (v := r.toInt64) dL_like_7 rfl ?_
  refine g_last C 92 (by omega) ho 0 rfl (by omega) (by decide) dL_like_8 (fun el1 e2 o3 => ?_)
  have m4 := (o3 0 (by omega)).trans h.1
  refine g_goto C (tgt := 15) dL_like_9 (by decide) ?_
  refine g_iconst C (v := nI 0) dL_like_15 (by decide) ?_
  exact g_x (g_iret C rfl dL_like_16 el1 rfl rfl rfl (Or.inl ⟨rfl, r, el, hu, rfl, fun j hj => o3 j hj, ⟨_, e2, updL_s _ _⟩⟩) (Nat.le_of_ble_eq_true rfl) (Nat.le_of_ble_eq_true rfl))
