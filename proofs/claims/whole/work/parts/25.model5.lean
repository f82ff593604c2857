/-! ===== the reference: sheet, pin, count, like, share, digest ===== -/
theorem s_sheet_1 (f t : Nat → Int32) : s_sheet f t (nI 1) = s_leftWith f t 0 := by rw [s_sheet, if_neg (by decide), if_pos (by decide)]
theorem s_sheet_2 (f t : Nat → Int32) : s_sheet f t (nI 2) = s_worths f t := by rw [s_sheet, if_neg (by decide), if_neg (by decide), if_pos (by decide)]
theorem i_rearr {a b : Int32} : a + 1 - b = a - b + 1 := by rw [Int32.sub_eq_add_neg, Int32.sub_eq_add_neg, Int32.add_assoc, Int32.add_assoc, Int32.add_comm 1]
theorem i_self {a : Int32} : a + 1 - (a + 1) = 0 := Int32.sub_self _
theorem s_sum_add (g : Nat → Int32) (a : Nat) : ∀ b, s_sum g (a + b) = s_sum g a + s_sum (fun j => g (a + j)) b
  | 0 => (Int32.add_zero _).symm
  | b + 1 => by rw [← Nat.add_assoc, s_sum, s_sum_add g a b, s_sum, Int32.add_assoc]
theorem s_sum_30 (g : Nat → Int32) : ∀ N, s_sum g (30 * N) = s_sum (fun s => s_sum (fun j => g (30 * s + j)) 30) N
  | 0 => rfl
  | N + 1 => by
    rw [Nat.mul_add, Nat.mul_one, s_sum_add, s_sum_30 g N]
    rfl
def s_lk (F T : Nat → Nat → Int32) (x : Int32) (k : Nat) : Int32 := s_lw (F (k / 30) (k % 30)) (T (k / 30) (k % 30)) x
theorem s_lk_sum (F T : Nat → Nat → Int32) (x : Int32) (cnt : Nat) : s_sum (s_lk F T x) (30 * cnt) = s_with F T x cnt := by
  rw [s_sum_30]
  refine s_sum_congr (fun s _ => s_sum_congr (fun j hj => ?_))
  show s_lk F T x (30 * s + j) = s_lw (F s j) (T s j) x
  rw [s_lk, show (30 * s + j) / 30 = s by omega, show (30 * s + j) % 30 = j by omega]
theorem in_nat_le {x : Int32} {w : Nat} (hw : w ≤ 9) (h : x = nI w) : 0 ≤ x ∧ x ≤ 9 := by
  subst h
  exact ⟨nI_pos' (by omega), nI_le (b := 9) (by omega) (by omega)⟩

set_option maxHeartbeats 4000000 in
set_option maxRecDepth 100000 in
theorem c_X5_sheet (l : Launch) (V : gT) {n : Nat} {ad : Nat → Nat} {el : Nat → va_E} {thr : Int32} {cnt : Nat} {M St We pl sh : Nat → Int32} {F T : Nat → Nat → Int32} (hn : 92 ≤ n) (hc : cnt ≤ 20) (h : X5At V ad el thr cnt M St We pl sh F T) (hF : ∀ q, q < cnt → ∀ k, k < 30 → F32 (F q k)) (x y : Int32) : TT l V yX5_sheet wsX5_sheet { frames := 3, cells := 0, slots := 0, locals := 79 } n ad el [.ref (ad 85), .int x, .int y] (QIw V n ad (fun v u => ((∃ i : Nat, i < cnt ∧ x = nI i ∧ (0 ≤ y ∧ y ≤ 5) ∧ v = s_sheet (F i) (T i) y ∧ X5At V ad u 0 cnt M St We pl sh F T) ∨ (¬ ((0 ≤ x ∧ x ≤ nI cnt - nI 1) ∧ 0 ≤ y ∧ y ≤ 5) ∧ X5At V ad u 1 cnt M St We pl sh F T)) ∧ ∀ j, (j < 85 ∨ 92 ≤ j) → u j = el j)) 0 0 := by
  refine TT.body (cc := cX5_sheet) (maxL := 3) (ret := (some .int)) (by decide) rfl (Nat.le_of_ble_eq_true rfl) ?_
  intro p e s m below meth c C hnm
  refine g_lv [0, 1, 2] (lv' := [(0, .ref (ad 85)), (1, .int x), (2, .int y)]) rfl ?_
  obtain ⟨m1, ⟨g16, m2, r9⟩, ⟨g17, m3, r10⟩, ⟨g18, m4, r11⟩, ⟨g19, m5, r12⟩, ⟨g20, m6, r13⟩, ⟨g21, m7, r14⟩⟩ := id h
  refine g_aload_n C 0 rfl dX5_sheet_0 ?_
  refine g_iconst C (v := nI 0) dX5_sheet_1 (by decide) ?_
  refine g_putf C 85 (by omega) m1 rfl 0 (by decide) (fun w h => (List.mem_cons_of_mem _ (List.mem_append_right _ h))) tyX5 tyX5_ok nmX5 (List.mem_of_getElem? (i := 1) rfl) rfl rfl rfl rfl (Nat.le_of_ble_eq_true rfl) dX5_sheet_2 (fun el22 e23 o24 => ?_)
  replace e23 : el22 85 = .inr (5, [.int (nI 0), .int (nI cnt), .ref (ad 86), .ref (ad 87), .ref (ad 88), .ref (ad 89), .ref (ad 90), .ref (ad 91)]) := e23
  have m25 := (o24 86 (by omega)).trans m2
  have m26 := (o24 87 (by omega)).trans m3
  have m27 := (o24 88 (by omega)).trans m4
  have m28 := (o24 89 (by omega)).trans m5
  have m29 := (o24 90 (by omega)).trans m6
  have m30 := (o24 91 (by omega)).trans m7
  refine g_aload_n C 0 rfl dX5_sheet_5 ?_
  refine g_iload_n C 1 rfl dX5_sheet_6 ?_
  refine g_calli C (r_V C (st := []) (c_X5_isSheet l V (by omega) (by omega) ⟨e23, ⟨_, m25, r9⟩, ⟨_, m26, r10⟩, ⟨_, m27, r11⟩, ⟨_, m28, r12⟩, ⟨_, m29, r13⟩, ⟨_, m30, r14⟩⟩ x) (cwV 1 C.ts gX5_sheet_X5_isSheet rfl rfl rfl (by decide +kernel) ⟨(Nat.le_of_ble_eq_true rfl), (Nat.le_of_ble_eq_true rfl)⟩) (by omega) e23 rfl rfl rfl (Nat.le_of_ble_eq_true rfl) dX5_sheet_7 ⟨(Nat.le_of_ble_eq_true rfl), (Nat.le_of_ble_eq_true rfl)⟩) (fun r u hu => ?_)
  subst hu
  refine g_if_eq C (tgt := 31) dX5_sheet_10 (by decide) (fun c10 => ?_) (fun c10 => ?_)
  · -- 31
    refine g_aload_n C 0 rfl dX5_sheet_31 ?_
    refine g_iconst C (v := nI 1) dX5_sheet_32 (by decide) ?_
    refine g_calli C (r_V C (st := []) (c_X5_fail l V (by omega) (by omega) ⟨e23, ⟨_, m25, r9⟩, ⟨_, m26, r10⟩, ⟨_, m27, r11⟩, ⟨_, m28, r12⟩, ⟨_, m29, r13⟩, ⟨_, m30, r14⟩⟩ 1) (cwV 1 C.ts gX5_sheet_X5_fail rfl rfl rfl (by decide +kernel) ⟨(Nat.le_of_ble_eq_true rfl), (Nat.le_of_ble_eq_true rfl)⟩) (by omega) e23 rfl rfl rfl (Nat.le_of_ble_eq_true rfl) dX5_sheet_33 ⟨(Nat.le_of_ble_eq_true rfl), (Nat.le_of_ble_eq_true rfl)⟩) (fun r9 u hu => ?_)
    exact g_iret C rfl dX5_sheet_36 u rfl rfl rfl ⟨Or.inr (⟨fun z => s_in_0 c10 z.1, hu.2.1⟩), fun j hj => (hu.2.2 j (by omega)).trans ((o24 j (by omega)).trans (rfl))⟩ (Nat.le_of_ble_eq_true rfl) (Nat.le_of_ble_eq_true rfl)
  · -- 13
    refine g_iload_n C 2 rfl dX5_sheet_13 ?_
    refine g_iconst C (v := nI 0) dX5_sheet_14 (by decide) ?_
    refine g_iconst C (v := nI 5) dX5_sheet_15 (by decide) ?_
    refine g_calli C (r_S C (st := []) (c_X5_isIn l V y 0 5) (va_cwS 3 C.ts gX5_sheet_X5_isIn rfl rfl rfl (by decide +kernel) ⟨(Nat.le_of_ble_eq_true rfl), (Nat.le_of_ble_eq_true rfl)⟩) rfl rfl (Nat.le_of_ble_eq_true rfl) dX5_sheet_16 ⟨(Nat.le_of_ble_eq_true rfl), (Nat.le_of_ble_eq_true rfl)⟩) (fun r u hu => ?_)
    subst hu
    refine g_if_eq C (tgt := 31) dX5_sheet_19 (by decide) (fun c19 => ?_) (fun c19 => ?_)
    · -- 31
      refine g_aload_n C 0 rfl dX5_sheet_31 ?_
      refine g_iconst C (v := nI 1) dX5_sheet_32 (by decide) ?_
      refine g_calli C (r_V C (st := []) (c_X5_fail l V (by omega) (by omega) ⟨e23, ⟨_, m25, r9⟩, ⟨_, m26, r10⟩, ⟨_, m27, r11⟩, ⟨_, m28, r12⟩, ⟨_, m29, r13⟩, ⟨_, m30, r14⟩⟩ 1) (cwV 1 C.ts gX5_sheet_X5_fail rfl rfl rfl (by decide +kernel) ⟨(Nat.le_of_ble_eq_true rfl), (Nat.le_of_ble_eq_true rfl)⟩) (by omega) e23 rfl rfl rfl (Nat.le_of_ble_eq_true rfl) dX5_sheet_33 ⟨(Nat.le_of_ble_eq_true rfl), (Nat.le_of_ble_eq_true rfl)⟩) (fun r9 u hu => ?_)
      exact g_iret C rfl dX5_sheet_36 u rfl rfl rfl ⟨Or.inr (⟨fun z => s_in_0 c19 z.2, hu.2.1⟩), fun j hj => (hu.2.2 j (by omega)).trans ((o24 j (by omega)).trans (rfl))⟩ (Nat.le_of_ble_eq_true rfl) (Nat.le_of_ble_eq_true rfl)
    · -- 22
      obtain ⟨i, hi, rfl⟩ := in_sheet hc (s_in_1 c10)
      have hy := s_in_1 c19
      obtain ⟨w, hw, rfl⟩ := in_nat 5 hy (by decide)
      refine g_aload_n C 0 rfl dX5_sheet_22 ?_
      refine g_iload_n C 1 rfl dX5_sheet_23 ?_
      refine g_iload_n C 2 rfl dX5_sheet_24 ?_
      refine g_calli C (r_V C (st := []) (c_X5_sheetTold l V (by omega) (by omega) ⟨e23, ⟨_, m25, r9⟩, ⟨_, m26, r10⟩, ⟨_, m27, r11⟩, ⟨_, m28, r12⟩, ⟨_, m29, r13⟩, ⟨_, m30, r14⟩⟩ hF i (by omega) w (by omega)) (cwV 2 C.ts gX5_sheet_X5_sheetTold rfl rfl rfl (by decide +kernel) ⟨(Nat.le_of_ble_eq_true rfl), (Nat.le_of_ble_eq_true rfl)⟩) (by omega) e23 rfl rfl rfl (Nat.le_of_ble_eq_true rfl) dX5_sheet_25 ⟨(Nat.le_of_ble_eq_true rfl), (Nat.le_of_ble_eq_true rfl)⟩) (fun r u hu => ?_)
      subst hu
      refine g_goto C (tgt := 36) dX5_sheet_28 (by decide) ?_
      exact g_iret C rfl dX5_sheet_36 el22 rfl rfl rfl ⟨Or.inl ⟨i, hi, rfl, hy, rfl, ⟨e23, ⟨_, m25, r9⟩, ⟨_, m26, r10⟩, ⟨_, m27, r11⟩, ⟨_, m28, r12⟩, ⟨_, m29, r13⟩, ⟨_, m30, r14⟩⟩⟩, fun j hj => (o24 j (by omega)).trans (rfl)⟩ (Nat.le_of_ble_eq_true rfl) (Nat.le_of_ble_eq_true rfl)

set_option maxHeartbeats 4000000 in
set_option maxRecDepth 100000 in
theorem c_X5_pinTold (l : Launch) (V : gT) {n : Nat} {ad : Nat → Nat} {el : Nat → va_E} {thr : Int32} {cnt : Nat} {M St We pl sh : Nat → Int32} {F T : Nat → Nat → Int32} (hn : 92 ≤ n) (hc : cnt ≤ 20) (h : X5At V ad el thr cnt M St We pl sh F T) (hP : ∀ q, q < 7 → We q ≤ St q ∨ We q = St q + 1) (i : Nat) (hi : i < 7) (y : Int32) : TT l V yX5_pinTold wsX5_pinTold { frames := 1, cells := 0, slots := 0, locals := 21 } n ad el [.ref (ad 85), .int (nI i), .int y] (QIr V n ad el (fun r => r = s_pin (St i) (We i) y)) 0 0 := by
  refine TT.body (cc := cX5_pinTold) (maxL := 3) (ret := (some .int)) (by decide) rfl (Nat.le_of_ble_eq_true rfl) ?_
  intro p e s m below meth c C hnm
  refine g_lv [0, 1, 2] (lv' := [(0, .ref (ad 85)), (1, .int (nI i)), (2, .int y)]) rfl ?_
  obtain ⟨m1, ⟨g16, m2, r9⟩, ⟨g17, m3, r10⟩, ⟨g18, m4, r11⟩, ⟨g19, m5, r12⟩, ⟨g20, m6, r13⟩, ⟨g21, m7, r14⟩⟩ := id h
  refine g_iload_n C 2 rfl dX5_pinTold_0 ?_
  refine g_if_ne C (tgt := 13) dX5_pinTold_1 (by decide) (fun c1 => ?_) (fun c1 => ?_)
  · -- 13
    refine g_iload_n C 2 rfl dX5_pinTold_13 ?_
    refine g_iconst C (v := nI 1) dX5_pinTold_14 (by decide) ?_
    refine g_icmp_ne C (tgt := 27) dX5_pinTold_15 (by decide) (fun c15 => ?_) (fun c15 => ?_)
    · -- 27
      refine g_iload_n C 2 rfl dX5_pinTold_27 ?_
      refine g_iconst C (v := nI 2) dX5_pinTold_28 (by decide) ?_
      refine g_icmp_ne C (tgt := 48) dX5_pinTold_29 (by decide) (fun c29 => ?_) (fun c29 => ?_)
      · -- 48
        refine g_aload_n C 0 rfl dX5_pinTold_48 ?_
        refine g_getf C 85 (by omega) m1 rfl 4 (by decide) (fun w h => (List.mem_cons_of_mem _ (List.mem_append_right _ h))) (List.mem_of_getElem? (i := 1) rfl) rfl rfl dX5_pinTold_49 ?_
        refine g_iload_n C 1 rfl dX5_pinTold_52 ?_
        refine g_iald C 88 (by omega) m4 i rfl (by omega) (by decide) dX5_pinTold_53 ?_
        refine g_top (r11 i (by omega) : g18 i = St i) ?_
        refine g_iconst C (v := nI 1) dX5_pinTold_54 (by decide) ?_
        refine g_iadd C (v := (St i) + 1) dX5_pinTold_55 rfl ?_
        refine g_aload_n C 0 rfl dX5_pinTold_56 ?_
        refine g_getf C 85 (by omega) m1 rfl 5 (by decide) (fun w h => (List.mem_cons_of_mem _ (List.mem_append_right _ h))) (List.mem_of_getElem? (i := 2) rfl) rfl rfl dX5_pinTold_57 ?_
        refine g_iload_n C 1 rfl dX5_pinTold_60 ?_
        refine g_iald C 89 (by omega) m5 i rfl (by omega) (by decide) dX5_pinTold_61 ?_
        refine g_top (r12 i (by omega) : g19 i = We i) ?_
        refine g_isub C (v := ((St i) + 1) - (We i)) dX5_pinTold_62 rfl ?_
        exact g_iret C rfl dX5_pinTold_63 () rfl rfl rfl (by
              rw [s_pin, if_neg c1, if_neg (show ¬ y = 1 from c15), if_neg (show ¬ y = 2 from c29)]
              by_cases e : We i ≤ St i
              · rw [if_pos e]; exact i_rearr
              · rw [if_neg e, (hP i hi).resolve_left e]; exact i_self) (Nat.le_of_ble_eq_true rfl) (Nat.le_of_ble_eq_true rfl)
      · -- 32
        refine g_aload_n C 0 rfl dX5_pinTold_32 ?_
        refine g_iload_n C 1 rfl dX5_pinTold_33 ?_
        refine g_calli C (r_V C (st := []) (c_X5_isWhole l V (by omega) (by omega) ⟨m1, ⟨_, m2, r9⟩, ⟨_, m3, r10⟩, ⟨_, m4, r11⟩, ⟨_, m5, r12⟩, ⟨_, m6, r13⟩, ⟨_, m7, r14⟩⟩ i (by omega)) (cwV 1 C.ts gX5_pinTold_X5_isWhole rfl rfl rfl (by decide +kernel) ⟨(Nat.le_of_ble_eq_true rfl), (Nat.le_of_ble_eq_true rfl)⟩) (by omega) m1 rfl rfl rfl (Nat.le_of_ble_eq_true rfl) dX5_pinTold_34 ⟨(Nat.le_of_ble_eq_true rfl), (Nat.le_of_ble_eq_true rfl)⟩) (fun r u hu => ?_)
        subst hu
        refine g_if_eq C (tgt := 44) dX5_pinTold_37 (by decide) (fun c37 => ?_) (fun c37 => ?_)
        · -- 44
          refine g_iconst C (v := nI 0) dX5_pinTold_44 (by decide) ?_
          refine g_goto C (tgt := 63) dX5_pinTold_45 (by decide) ?_
          exact g_iret C rfl dX5_pinTold_63 () rfl rfl rfl (by rw [s_pin, if_neg c1, if_neg (show ¬ y = 1 from c15), if_pos (show y = 2 from c29), if_neg (fun z => by rw [if_pos z] at c37; exact absurd c37 (by decide))] <;> rfl) (Nat.le_of_ble_eq_true rfl) (Nat.le_of_ble_eq_true rfl)
        · -- 40
          refine g_iconst C (v := nI 1) dX5_pinTold_40 (by decide) ?_
          refine g_goto C (tgt := 63) dX5_pinTold_41 (by decide) ?_
          exact g_iret C rfl dX5_pinTold_63 () rfl rfl rfl (by rw [s_pin, if_neg c1, if_neg (show ¬ y = 1 from c15), if_pos (show y = 2 from c29), if_pos (Classical.byContradiction (fun z => c37 (if_neg z)))] <;> rfl) (Nat.le_of_ble_eq_true rfl) (Nat.le_of_ble_eq_true rfl)
    · -- 18
      refine g_aload_n C 0 rfl dX5_pinTold_18 ?_
      refine g_getf C 85 (by omega) m1 rfl 5 (by decide) (fun w h => (List.mem_cons_of_mem _ (List.mem_append_right _ h))) (List.mem_of_getElem? (i := 2) rfl) rfl rfl dX5_pinTold_19 ?_
      refine g_iload_n C 1 rfl dX5_pinTold_22 ?_
      refine g_iald C 89 (by omega) m5 i rfl (by omega) (by decide) dX5_pinTold_23 ?_
      refine g_top (r12 i (by omega) : g19 i = We i) ?_
      refine g_goto C (tgt := 63) dX5_pinTold_24 (by decide) ?_
      exact g_iret C rfl dX5_pinTold_63 () rfl rfl rfl (by rw [s_pin, if_neg c1, if_pos (show y = 1 from c15)]) (Nat.le_of_ble_eq_true rfl) (Nat.le_of_ble_eq_true rfl)
  · -- 4
    refine g_aload_n C 0 rfl dX5_pinTold_4 ?_
    refine g_getf C 85 (by omega) m1 rfl 4 (by decide) (fun w h => (List.mem_cons_of_mem _ (List.mem_append_right _ h))) (List.mem_of_getElem? (i := 1) rfl) rfl rfl dX5_pinTold_5 ?_
    refine g_iload_n C 1 rfl dX5_pinTold_8 ?_
    refine g_iald C 88 (by omega) m4 i rfl (by omega) (by decide) dX5_pinTold_9 ?_
    refine g_top (r11 i (by omega) : g18 i = St i) ?_
    refine g_goto C (tgt := 63) dX5_pinTold_10 (by decide) ?_
    exact g_iret C rfl dX5_pinTold_63 () rfl rfl rfl (by rw [s_pin, if_pos c1]) (Nat.le_of_ble_eq_true rfl) (Nat.le_of_ble_eq_true rfl)

set_option maxHeartbeats 4000000 in
set_option maxRecDepth 100000 in
theorem c_X5_pin (l : Launch) (V : gT) {n : Nat} {ad : Nat → Nat} {el : Nat → va_E} {thr : Int32} {cnt : Nat} {M St We pl sh : Nat → Int32} {F T : Nat → Nat → Int32} (hn : 92 ≤ n) (hc : cnt ≤ 20) (h : X5At V ad el thr cnt M St We pl sh F T) (hP : ∀ q, q < 7 → We q ≤ St q ∨ We q = St q + 1) (x y : Int32) : TT l V yX5_pin wsX5_pin { frames := 2, cells := 0, slots := 0, locals := 43 } n ad el [.ref (ad 85), .int x, .int y] (QIw V n ad (fun v u => ((∃ i : Nat, i < 7 ∧ x = nI i ∧ (0 ≤ y ∧ y ≤ 3) ∧ v = s_pin (St i) (We i) y ∧ X5At V ad u 0 cnt M St We pl sh F T) ∨ (¬ ((0 ≤ x ∧ x ≤ 6) ∧ 0 ≤ y ∧ y ≤ 3) ∧ X5At V ad u 1 cnt M St We pl sh F T)) ∧ ∀ j, (j < 85 ∨ 92 ≤ j) → u j = el j)) 0 0 := by
  refine TT.body (cc := cX5_pin) (maxL := 3) (ret := (some .int)) (by decide) rfl (Nat.le_of_ble_eq_true rfl) ?_
  intro p e s m below meth c C hnm
  refine g_lv [0, 1, 2] (lv' := [(0, .ref (ad 85)), (1, .int x), (2, .int y)]) rfl ?_
  obtain ⟨m1, ⟨g16, m2, r9⟩, ⟨g17, m3, r10⟩, ⟨g18, m4, r11⟩, ⟨g19, m5, r12⟩, ⟨g20, m6, r13⟩, ⟨g21, m7, r14⟩⟩ := id h
  refine g_aload_n C 0 rfl dX5_pin_0 ?_
  refine g_iconst C (v := nI 0) dX5_pin_1 (by decide) ?_
  refine g_putf C 85 (by omega) m1 rfl 0 (by decide) (fun w h => (List.mem_cons_of_mem _ (List.mem_append_right _ h))) tyX5 tyX5_ok nmX5 (List.mem_of_getElem? (i := 1) rfl) rfl rfl rfl rfl (Nat.le_of_ble_eq_true rfl) dX5_pin_2 (fun el22 e23 o24 => ?_)
  replace e23 : el22 85 = .inr (5, [.int (nI 0), .int (nI cnt), .ref (ad 86), .ref (ad 87), .ref (ad 88), .ref (ad 89), .ref (ad 90), .ref (ad 91)]) := e23
  have m25 := (o24 86 (by omega)).trans m2
  have m26 := (o24 87 (by omega)).trans m3
  have m27 := (o24 88 (by omega)).trans m4
  have m28 := (o24 89 (by omega)).trans m5
  have m29 := (o24 90 (by omega)).trans m6
  have m30 := (o24 91 (by omega)).trans m7
  refine g_iload_n C 1 rfl dX5_pin_5 ?_
  refine g_iconst C (v := nI 0) dX5_pin_6 (by decide) ?_
  refine g_bipush C (v := nI 6) dX5_pin_7 (by decide) ?_
  refine g_calli C (r_S C (st := []) (c_X5_isIn l V x 0 6) (va_cwS 3 C.ts gX5_pin_X5_isIn rfl rfl rfl (by decide +kernel) ⟨(Nat.le_of_ble_eq_true rfl), (Nat.le_of_ble_eq_true rfl)⟩) rfl rfl (Nat.le_of_ble_eq_true rfl) dX5_pin_9 ⟨(Nat.le_of_ble_eq_true rfl), (Nat.le_of_ble_eq_true rfl)⟩) (fun r u hu => ?_)
  subst hu
  refine g_if_eq C (tgt := 33) dX5_pin_12 (by decide) (fun c12 => ?_) (fun c12 => ?_)
  · -- 33
    refine g_aload_n C 0 rfl dX5_pin_33 ?_
    refine g_iconst C (v := nI 1) dX5_pin_34 (by decide) ?_
    refine g_calli C (r_V C (st := []) (c_X5_fail l V (by omega) (by omega) ⟨e23, ⟨_, m25, r9⟩, ⟨_, m26, r10⟩, ⟨_, m27, r11⟩, ⟨_, m28, r12⟩, ⟨_, m29, r13⟩, ⟨_, m30, r14⟩⟩ 1) (cwV 1 C.ts gX5_pin_X5_fail rfl rfl rfl (by decide +kernel) ⟨(Nat.le_of_ble_eq_true rfl), (Nat.le_of_ble_eq_true rfl)⟩) (by omega) e23 rfl rfl rfl (Nat.le_of_ble_eq_true rfl) dX5_pin_35 ⟨(Nat.le_of_ble_eq_true rfl), (Nat.le_of_ble_eq_true rfl)⟩) (fun r9 u hu => ?_)
    exact g_iret C rfl dX5_pin_38 u rfl rfl rfl ⟨Or.inr (⟨fun z => s_in_0 c12 z.1, hu.2.1⟩), fun j hj => (hu.2.2 j (by omega)).trans ((o24 j (by omega)).trans (rfl))⟩ (Nat.le_of_ble_eq_true rfl) (Nat.le_of_ble_eq_true rfl)
  · -- 15
    refine g_iload_n C 2 rfl dX5_pin_15 ?_
    refine g_iconst C (v := nI 0) dX5_pin_16 (by decide) ?_
    refine g_iconst C (v := nI 3) dX5_pin_17 (by decide) ?_
    refine g_calli C (r_S C (st := []) (c_X5_isIn l V y 0 3) (va_cwS 3 C.ts gX5_pin_X5_isIn rfl rfl rfl (by decide +kernel) ⟨(Nat.le_of_ble_eq_true rfl), (Nat.le_of_ble_eq_true rfl)⟩) rfl rfl (Nat.le_of_ble_eq_true rfl) dX5_pin_18 ⟨(Nat.le_of_ble_eq_true rfl), (Nat.le_of_ble_eq_true rfl)⟩) (fun r u hu => ?_)
    subst hu
    refine g_if_eq C (tgt := 33) dX5_pin_21 (by decide) (fun c21 => ?_) (fun c21 => ?_)
    · -- 33
      refine g_aload_n C 0 rfl dX5_pin_33 ?_
      refine g_iconst C (v := nI 1) dX5_pin_34 (by decide) ?_
      refine g_calli C (r_V C (st := []) (c_X5_fail l V (by omega) (by omega) ⟨e23, ⟨_, m25, r9⟩, ⟨_, m26, r10⟩, ⟨_, m27, r11⟩, ⟨_, m28, r12⟩, ⟨_, m29, r13⟩, ⟨_, m30, r14⟩⟩ 1) (cwV 1 C.ts gX5_pin_X5_fail rfl rfl rfl (by decide +kernel) ⟨(Nat.le_of_ble_eq_true rfl), (Nat.le_of_ble_eq_true rfl)⟩) (by omega) e23 rfl rfl rfl (Nat.le_of_ble_eq_true rfl) dX5_pin_35 ⟨(Nat.le_of_ble_eq_true rfl), (Nat.le_of_ble_eq_true rfl)⟩) (fun r9 u hu => ?_)
      exact g_iret C rfl dX5_pin_38 u rfl rfl rfl ⟨Or.inr (⟨fun z => s_in_0 c21 z.2, hu.2.1⟩), fun j hj => (hu.2.2 j (by omega)).trans ((o24 j (by omega)).trans (rfl))⟩ (Nat.le_of_ble_eq_true rfl) (Nat.le_of_ble_eq_true rfl)
    · -- 24
      obtain ⟨i, hi, rfl⟩ := in_nat 6 (s_in_1 c12) (by decide)
      have hi : i < 7 := by omega
      refine g_aload_n C 0 rfl dX5_pin_24 ?_
      refine g_iload_n C 1 rfl dX5_pin_25 ?_
      refine g_iload_n C 2 rfl dX5_pin_26 ?_
      refine g_calli C (r_V C (st := []) (c_X5_pinTold l V (by omega) (by omega) ⟨e23, ⟨_, m25, r9⟩, ⟨_, m26, r10⟩, ⟨_, m27, r11⟩, ⟨_, m28, r12⟩, ⟨_, m29, r13⟩, ⟨_, m30, r14⟩⟩ hP i (by omega) y) (cwV 2 C.ts gX5_pin_X5_pinTold rfl rfl rfl (by decide +kernel) ⟨(Nat.le_of_ble_eq_true rfl), (Nat.le_of_ble_eq_true rfl)⟩) (by omega) e23 rfl rfl rfl (Nat.le_of_ble_eq_true rfl) dX5_pin_27 ⟨(Nat.le_of_ble_eq_true rfl), (Nat.le_of_ble_eq_true rfl)⟩) (fun r u hu => ?_)
      subst hu
      refine g_goto C (tgt := 38) dX5_pin_30 (by decide) ?_
      exact g_iret C rfl dX5_pin_38 el22 rfl rfl rfl ⟨Or.inl ⟨i, hi, rfl, s_in_1 c21, rfl, ⟨e23, ⟨_, m25, r9⟩, ⟨_, m26, r10⟩, ⟨_, m27, r11⟩, ⟨_, m28, r12⟩, ⟨_, m29, r13⟩, ⟨_, m30, r14⟩⟩⟩, fun j hj => (o24 j (by omega)).trans (rfl)⟩ (Nat.le_of_ble_eq_true rfl) (Nat.le_of_ble_eq_true rfl)

set_option maxHeartbeats 4000000 in
set_option maxRecDepth 100000 in
theorem c_X5_counted (l : Launch) (V : gT) {n : Nat} {ad : Nat → Nat} {el : Nat → va_E} {thr : Int32} {cnt : Nat} {M St We pl sh : Nat → Int32} {F T : Nat → Nat → Int32} (hn : 92 ≤ n) (hc : cnt ≤ 20) (h : X5At V ad el thr cnt M St We pl sh F T) (hF : ∀ q, q < cnt → ∀ k, k < 30 → F32 (F q k)) (x : Int32) (hx : 0 ≤ x ∧ x ≤ 9) : TT l V yX5_counted wsX5_counted { frames := 3, cells := 0, slots := 0, locals := 79 } n ad el [.ref (ad 85), .int x] (QIr V n ad el (fun r => r = s_cnt cnt M St We pl F T x)) 0 0 := by
  refine TT.body (cc := cX5_counted) (maxL := 7) (ret := (some .int)) (by decide) rfl (Nat.le_of_ble_eq_true rfl) ?_
  intro p e s m below meth c C hnm
  refine g_lv [0, 1] (lv' := [(0, .ref (ad 85)), (1, .int x)]) rfl ?_
  obtain ⟨m1, ⟨g16, m2, r9⟩, ⟨g17, m3, r10⟩, ⟨g18, m4, r11⟩, ⟨g19, m5, r12⟩, ⟨g20, m6, r13⟩, ⟨g21, m7, r14⟩⟩ := id h
  refine g_iconst C (v := nI 0) dX5_counted_0 (by decide) ?_
  refine g_istore_n C (lv' := [(2, .int (nI 0)), (0, .ref (ad 85)), (1, .int x)]) dX5_counted_1 (by decide) rfl ?_
  refine g_iload_n C 2 rfl dX5_counted_2 ?_
  by_cases q0 : x = 0
  · -- case
    refine g_tableIn C (tgt := 56) (off := 53) dX5_counted_3 (by rw [q0]; decide) (by rw [q0]; decide) (by rw [q0]; rfl) (by decide) ?_
    refine g_aload_n C 1 rfl dX5_counted_56 ?_
    refine g_getf C 85 (by omega) m1 rfl 1 (by decide) (fun w h => (List.mem_cons_of_mem _ (List.mem_append_right _ h))) (List.mem_of_getElem? (i := 1) rfl) rfl rfl dX5_counted_57 ?_
    exact g_iret C rfl dX5_counted_60 () rfl rfl rfl (by rw [s_cnt, if_pos q0] <;> rfl) (Nat.le_of_ble_eq_true rfl) (Nat.le_of_ble_eq_true rfl)
  by_cases q1 : x = 1
  · -- case
    refine g_tableIn C (tgt := 139) (off := 136) dX5_counted_3 (by rw [q1]; decide) (by rw [q1]; decide) (by rw [q1]; rfl) (by decide) ?_
    refine g_aload_n C 1 rfl dX5_counted_139 ?_
    refine g_getf C 85 (by omega) m1 rfl 3 (by decide) (fun w h => (List.mem_cons_of_mem _ (List.mem_append_right _ h))) (List.mem_of_getElem? (i := 3) rfl) rfl rfl dX5_counted_140 ?_
    refine g_iload_n C 2 rfl dX5_counted_143 ?_
    refine g_iconst C (v := nI 1) dX5_counted_144 (by decide) ?_
    refine g_isub C (v := nI 0) dX5_counted_145 (by rw [q1] <;> rfl) ?_
    refine g_iald C 87 (by omega) m3 0 rfl (by omega) (by decide) dX5_counted_146 ?_
    refine g_top (r10 0 (by omega) : g17 0 = M 0) ?_
    exact g_iret C rfl dX5_counted_147 () rfl rfl rfl (by rw [s_cnt, if_neg q0, if_pos q1] <;> rfl) (Nat.le_of_ble_eq_true rfl) (Nat.le_of_ble_eq_true rfl)
  by_cases q2 : x = 2
  · -- case
    refine g_tableIn C (tgt := 139) (off := 136) dX5_counted_3 (by rw [q2]; decide) (by rw [q2]; decide) (by rw [q2]; rfl) (by decide) ?_
    refine g_aload_n C 1 rfl dX5_counted_139 ?_
    refine g_getf C 85 (by omega) m1 rfl 3 (by decide) (fun w h => (List.mem_cons_of_mem _ (List.mem_append_right _ h))) (List.mem_of_getElem? (i := 3) rfl) rfl rfl dX5_counted_140 ?_
    refine g_iload_n C 2 rfl dX5_counted_143 ?_
    refine g_iconst C (v := nI 1) dX5_counted_144 (by decide) ?_
    refine g_isub C (v := nI 1) dX5_counted_145 (by rw [q2] <;> rfl) ?_
    refine g_iald C 87 (by omega) m3 1 rfl (by omega) (by decide) dX5_counted_146 ?_
    refine g_top (r10 1 (by omega) : g17 1 = M 1) ?_
    exact g_iret C rfl dX5_counted_147 () rfl rfl rfl (by rw [s_cnt, if_neg q0, if_neg q1, if_pos q2] <;> rfl) (Nat.le_of_ble_eq_true rfl) (Nat.le_of_ble_eq_true rfl)
  by_cases q3 : x = 3
  · -- case
    refine g_tableIn C (tgt := 139) (off := 136) dX5_counted_3 (by rw [q3]; decide) (by rw [q3]; decide) (by rw [q3]; rfl) (by decide) ?_
    refine g_aload_n C 1 rfl dX5_counted_139 ?_
    refine g_getf C 85 (by omega) m1 rfl 3 (by decide) (fun w h => (List.mem_cons_of_mem _ (List.mem_append_right _ h))) (List.mem_of_getElem? (i := 3) rfl) rfl rfl dX5_counted_140 ?_
    refine g_iload_n C 2 rfl dX5_counted_143 ?_
    refine g_iconst C (v := nI 1) dX5_counted_144 (by decide) ?_
    refine g_isub C (v := nI 2) dX5_counted_145 (by rw [q3] <;> rfl) ?_
    refine g_iald C 87 (by omega) m3 2 rfl (by omega) (by decide) dX5_counted_146 ?_
    refine g_top (r10 2 (by omega) : g17 2 = M 2) ?_
    exact g_iret C rfl dX5_counted_147 () rfl rfl rfl (by rw [s_cnt, if_neg q0, if_neg q1, if_neg q2, if_pos q3] <;> rfl) (Nat.le_of_ble_eq_true rfl) (Nat.le_of_ble_eq_true rfl)
  by_cases q4 : x = 4
  · -- case
    refine g_tableIn C (tgt := 139) (off := 136) dX5_counted_3 (by rw [q4]; decide) (by rw [q4]; decide) (by rw [q4]; rfl) (by decide) ?_
    refine g_aload_n C 1 rfl dX5_counted_139 ?_
    refine g_getf C 85 (by omega) m1 rfl 3 (by decide) (fun w h => (List.mem_cons_of_mem _ (List.mem_append_right _ h))) (List.mem_of_getElem? (i := 3) rfl) rfl rfl dX5_counted_140 ?_
    refine g_iload_n C 2 rfl dX5_counted_143 ?_
    refine g_iconst C (v := nI 1) dX5_counted_144 (by decide) ?_
    refine g_isub C (v := nI 3) dX5_counted_145 (by rw [q4] <;> rfl) ?_
    refine g_iald C 87 (by omega) m3 3 rfl (by omega) (by decide) dX5_counted_146 ?_
    refine g_top (r10 3 (by omega) : g17 3 = M 3) ?_
    exact g_iret C rfl dX5_counted_147 () rfl rfl rfl (by rw [s_cnt, if_neg q0, if_neg q1, if_neg q2, if_neg q3, if_pos q4] <;> rfl) (Nat.le_of_ble_eq_true rfl) (Nat.le_of_ble_eq_true rfl)
  by_cases q5 : x = 5
  · -- case
    refine g_tableIn C (tgt := 139) (off := 136) dX5_counted_3 (by rw [q5]; decide) (by rw [q5]; decide) (by rw [q5]; rfl) (by decide) ?_
    refine g_aload_n C 1 rfl dX5_counted_139 ?_
    refine g_getf C 85 (by omega) m1 rfl 3 (by decide) (fun w h => (List.mem_cons_of_mem _ (List.mem_append_right _ h))) (List.mem_of_getElem? (i := 3) rfl) rfl rfl dX5_counted_140 ?_
    refine g_iload_n C 2 rfl dX5_counted_143 ?_
    refine g_iconst C (v := nI 1) dX5_counted_144 (by decide) ?_
    refine g_isub C (v := nI 4) dX5_counted_145 (by rw [q5] <;> rfl) ?_
    refine g_iald C 87 (by omega) m3 4 rfl (by omega) (by decide) dX5_counted_146 ?_
    refine g_top (r10 4 (by omega) : g17 4 = M 4) ?_
    exact g_iret C rfl dX5_counted_147 () rfl rfl rfl (by rw [s_cnt, if_neg q0, if_neg q1, if_neg q2, if_neg q3, if_neg q4, if_pos q5] <;> rfl) (Nat.le_of_ble_eq_true rfl) (Nat.le_of_ble_eq_true rfl)
  by_cases q6 : x = 6
  · -- case
    refine g_tableIn C (tgt := 139) (off := 136) dX5_counted_3 (by rw [q6]; decide) (by rw [q6]; decide) (by rw [q6]; rfl) (by decide) ?_
    refine g_aload_n C 1 rfl dX5_counted_139 ?_
    refine g_getf C 85 (by omega) m1 rfl 3 (by decide) (fun w h => (List.mem_cons_of_mem _ (List.mem_append_right _ h))) (List.mem_of_getElem? (i := 3) rfl) rfl rfl dX5_counted_140 ?_
    refine g_iload_n C 2 rfl dX5_counted_143 ?_
    refine g_iconst C (v := nI 1) dX5_counted_144 (by decide) ?_
    refine g_isub C (v := nI 5) dX5_counted_145 (by rw [q6] <;> rfl) ?_
    refine g_iald C 87 (by omega) m3 5 rfl (by omega) (by decide) dX5_counted_146 ?_
    refine g_top (r10 5 (by omega) : g17 5 = M 5) ?_
    exact g_iret C rfl dX5_counted_147 () rfl rfl rfl (by rw [s_cnt, if_neg q0, if_neg q1, if_neg q2, if_neg q3, if_neg q4, if_neg q5, if_pos q6] <;> rfl) (Nat.le_of_ble_eq_true rfl) (Nat.le_of_ble_eq_true rfl)
  by_cases q7 : x = 7
  · -- case
    refine g_tableIn C (tgt := 61) (off := 58) dX5_counted_3 (by rw [q7]; decide) (by rw [q7]; decide) (by rw [q7]; rfl) (by decide) ?_
    refine g_aload_n C 1 rfl dX5_counted_61 ?_
    refine g_calli C (r_V C (st := []) (c_X5_broken l V (by omega) (by omega) ⟨m1, ⟨_, m2, r9⟩, ⟨_, m3, r10⟩, ⟨_, m4, r11⟩, ⟨_, m5, r12⟩, ⟨_, m6, r13⟩, ⟨_, m7, r14⟩⟩) (cwV 0 C.ts gX5_counted_X5_broken rfl rfl rfl (by decide +kernel) ⟨(Nat.le_of_ble_eq_true rfl), (Nat.le_of_ble_eq_true rfl)⟩) (by omega) m1 rfl rfl rfl (Nat.le_of_ble_eq_true rfl) dX5_counted_62 ⟨(Nat.le_of_ble_eq_true rfl), (Nat.le_of_ble_eq_true rfl)⟩) (fun r u hu => ?_)
    subst hu
    exact g_iret C rfl dX5_counted_65 () rfl rfl rfl (by rw [s_cnt, if_neg q0, if_neg q1, if_neg q2, if_neg q3, if_neg q4, if_neg q5, if_neg q6, if_pos q7] <;> rfl) (Nat.le_of_ble_eq_true rfl) (Nat.le_of_ble_eq_true rfl)
  by_cases q8 : x = 8
  · -- case
    refine g_tableIn C (tgt := 66) (off := 63) dX5_counted_3 (by rw [q8]; decide) (by rw [q8]; decide) (by rw [q8]; rfl) (by decide) ?_
    refine g_aload_n C 1 rfl dX5_counted_66 ?_
    refine g_getf C 85 (by omega) m1 rfl 6 (by decide) (fun w h => (List.mem_cons_of_mem _ (List.mem_append_right _ h))) (List.mem_of_getElem? (i := 2) rfl) rfl rfl dX5_counted_67 ?_
    refine g_astore_n C (lv' := [(3, .ref (ad 90)), (2, .int (nI 0)), (0, .ref (ad 85)), (1, .int x)]) dX5_counted_70 (by decide) rfl ?_
    refine g_aload_n C 0 rfl dX5_counted_71 ?_
    refine g_alen C 90 (by omega) 1 rfl m6 (v := nI 30) rfl dX5_counted_72 ?_
    refine g_istore C (lv' := [(4, .int (nI 30)), (3, .ref (ad 90)), (2, .int (nI 0)), (0, .ref (ad 85)), (1, .int x)]) dX5_counted_73 (by decide) rfl ?_
    refine g_iconst C (v := nI 0) dX5_counted_75 (by decide) ?_
    refine g_istore C (lv' := [(5, .int (nI 0)), (4, .int (nI 30)), (3, .ref (ad 90)), (2, .int (nI 0)), (0, .ref (ad 85)), (1, .int x)]) dX5_counted_76 (by decide) rfl ?_
    refine g_lv [0, 3, 1, 2, 4, 5] (lv' := [(5, .int (nI 0)), (2, .int (nI 0)), (4, .int (nI 30)), (3, .ref (ad 90)), (0, .ref (ad 85)), (1, .int x)]) rfl ?_
    refine g_for 30 (fun (i : Nat) => [(5, .int (nI i)), (2, .int (s_sum (fun j => if pl j = 0 then 0 else 1) i)), (4, .int (nI 30)), (3, .ref (ad 90)), (0, .ref (ad 85)), (1, .int x)]) ?_ (fun i hi ih => ?_)
    · -- loop 78: its end
      refine g_iload C 0 rfl dX5_counted_78 ?_
      refine g_iload C 2 rfl dX5_counted_80 ?_
      refine g_icmp_ge C (tgt := 110) dX5_counted_82 (by decide) (fun c82 => ?_) (fun c82 => ?_)
      · -- 110
        have c82 : 30 ≤ 30 := (nI_leI (by omega) (by omega)).mp c82
        refine g_iload_n C 1 rfl dX5_counted_110 ?_
        exact g_iret C rfl dX5_counted_111 () rfl rfl rfl (by rw [s_cnt, if_neg q0, if_neg q1, if_neg q2, if_neg q3, if_neg q4, if_neg q5, if_neg q6, if_neg q7, if_pos q8] <;> rfl) (Nat.le_of_ble_eq_true rfl) (Nat.le_of_ble_eq_true rfl)
      · -- 85
        have c82 : 30 < 30 := Nat.lt_of_not_le (fun z => c82 ((nI_leI (by omega) (by omega)).mpr z))
        exact absurd c82 (by omega)
    · -- loop 78: its body
      refine g_iload C 0 rfl dX5_counted_78 ?_
      refine g_iload C 2 rfl dX5_counted_80 ?_
      refine g_icmp_ge C (tgt := 110) dX5_counted_82 (by decide) (fun c82 => ?_) (fun c82 => ?_)
      · -- 110
        have c82 : 30 ≤ i := (nI_leI (by omega) (by omega)).mp c82
        exact absurd c82 (by omega)
      · -- 85
        have c82 : i < 30 := Nat.lt_of_not_le (fun z => c82 ((nI_leI (by omega) (by omega)).mpr z))
        refine g_aload_n C 3 rfl dX5_counted_85 ?_
        refine g_iload C 0 rfl dX5_counted_86 ?_
        refine g_zald C 90 (by omega) m6 i rfl (by omega) (by decide) dX5_counted_88 ?_
        refine g_top (r13 i (by omega) : g20 i = pl i) ?_
        refine g_istore C (lv' := [(6, .int (pl i)), (5, .int (nI i)), (2, .int (s_sum (fun j => if pl j = 0 then 0 else 1) i)), (4, .int (nI 30)), (3, .ref (ad 90)), (0, .ref (ad 85)), (1, .int x)]) dX5_counted_89 (by decide) rfl ?_
        refine g_iload_n C 2 rfl dX5_counted_91 ?_
        refine g_iload C 0 rfl dX5_counted_92 ?_
        refine g_via (fun v : Int32 => v = if pl i = 0 then 0 else 1) 102 (fun _ => [(6, .int (pl i)), (5, .int (nI i)), (2, .int (s_sum (fun j => if pl j = 0 then 0 else 1) i)), (4, .int (nI 30)), (3, .ref (ad 90)), (0, .ref (ad 85)), (1, .int x)]) (fun v => .int v :: [.int (s_sum (fun j => if pl j = 0 then 0 else 1) i)]) (fun v hv => ?_) (fun J => ?_)
        · -- join
          subst hv
          refine g_iadd C (v := (s_sum (fun j => if pl j = 0 then 0 else 1) i) + (if pl i = 0 then 0 else 1)) dX5_counted_102 rfl ?_
          refine g_istore_n C (lv' := [(2, .int ((s_sum (fun j => if pl j = 0 then 0 else 1) i) + (if pl i = 0 then 0 else 1))), (6, .int (pl i)), (5, .int (nI i)), (4, .int (nI 30)), (3, .ref (ad 90)), (0, .ref (ad 85)), (1, .int x)]) dX5_counted_103 (by decide) rfl ?_
          refine g_iinc C 2 rfl (v := nI (i + 1)) (lv' := [(5, .int (nI (i + 1))), (2, .int ((s_sum (fun j => if pl j = 0 then 0 else 1) i) + (if pl i = 0 then 0 else 1))), (6, .int (pl i)), (4, .int (nI 30)), (3, .ref (ad 90)), (0, .ref (ad 85)), (1, .int x)]) dX5_counted_104 (nI_add _ _) (by decide) rfl ?_
          refine g_goto C (tgt := 78) dX5_counted_107 (by decide) ?_
          refine g_lv [0, 1, 3, 4, 5, 6] (lv' := [(5, .int (nI (i + 1))), (2, .int ((s_sum (fun j => if pl j = 0 then 0 else 1) i) + (if pl i = 0 then 0 else 1))), (4, .int (nI 30)), (3, .ref (ad 90)), (0, .ref (ad 85)), (1, .int x)]) rfl ?_
          exact ih
        · -- ways
          refine g_if_eq C (tgt := 101) dX5_counted_94 (by decide) (fun c94 => ?_) (fun c94 => ?_)
          · -- 101
            refine g_iconst C (v := nI 0) dX5_counted_101 (by decide) ?_
            exact J _ ((if_pos c94).symm)
          · -- 97
            refine g_iconst C (v := nI 1) dX5_counted_97 (by decide) ?_
            refine g_goto C (tgt := 102) dX5_counted_98 (by decide) ?_
            exact J _ ((if_neg c94).symm)
  by_cases q9 : x = 9
  · -- case
    refine g_tableIn C (tgt := 112) (off := 109) dX5_counted_3 (by rw [q9]; decide) (by rw [q9]; decide) (by rw [q9]; rfl) (by decide) ?_
    refine g_iconst C (v := nI 0) dX5_counted_112 (by decide) ?_
    refine g_istore_n C (lv' := [(3, .int (nI 0)), (2, .int (nI 0)), (0, .ref (ad 85)), (1, .int x)]) dX5_counted_113 (by decide) rfl ?_
    refine g_lv [0, 1, 2, 3] (lv' := [(3, .int (nI 0)), (2, .int (nI 0)), (0, .ref (ad 85)), (1, .int x)]) rfl ?_
    refine g_for cnt (fun (i : Nat) => [(3, .int (nI i)), (2, .int (s_sum (fun s => s_worths (F s) (T s)) i)), (0, .ref (ad 85)), (1, .int x)]) ?_ (fun i hi ih => ?_)
    · -- loop 114: its end
      refine g_iload_n C 0 rfl dX5_counted_114 ?_
      refine g_aload_n C 2 rfl dX5_counted_115 ?_
      refine g_getf C 85 (by omega) m1 rfl 1 (by decide) (fun w h => (List.mem_cons_of_mem _ (List.mem_append_right _ h))) (List.mem_of_getElem? (i := 1) rfl) rfl rfl dX5_counted_116 ?_
      refine g_icmp_ge C (tgt := 137) dX5_counted_119 (by decide) (fun c119 => ?_) (fun c119 => ?_)
      · -- 137
        have c119 : cnt ≤ cnt := (nI_leI (by omega) (by omega)).mp c119
        refine g_iload_n C 1 rfl dX5_counted_137 ?_
        exact g_iret C rfl dX5_counted_138 () rfl rfl rfl (by rw [s_cnt, if_neg q0, if_neg q1, if_neg q2, if_neg q3, if_neg q4, if_neg q5, if_neg q6, if_neg q7, if_neg q8] <;> rfl) (Nat.le_of_ble_eq_true rfl) (Nat.le_of_ble_eq_true rfl)
      · -- 122
        have c119 : cnt < cnt := Nat.lt_of_not_le (fun z => c119 ((nI_leI (by omega) (by omega)).mpr z))
        exact absurd c119 (by omega)
    · -- loop 114: its body
      refine g_iload_n C 0 rfl dX5_counted_114 ?_
      refine g_aload_n C 2 rfl dX5_counted_115 ?_
      refine g_getf C 85 (by omega) m1 rfl 1 (by decide) (fun w h => (List.mem_cons_of_mem _ (List.mem_append_right _ h))) (List.mem_of_getElem? (i := 1) rfl) rfl rfl dX5_counted_116 ?_
      refine g_icmp_ge C (tgt := 137) dX5_counted_119 (by decide) (fun c119 => ?_) (fun c119 => ?_)
      · -- 137
        have c119 : cnt ≤ i := (nI_leI (by omega) (by omega)).mp c119
        exact absurd c119 (by omega)
      · -- 122
        have c119 : i < cnt := Nat.lt_of_not_le (fun z => c119 ((nI_leI (by omega) (by omega)).mpr z))
        refine g_iload_n C 1 rfl dX5_counted_122 ?_
        refine g_aload_n C 2 rfl dX5_counted_123 ?_
        refine g_iload_n C 0 rfl dX5_counted_124 ?_
        refine g_iconst C (v := nI 2) dX5_counted_125 (by decide) ?_
        refine g_calli C (r_V C (st := [.int (s_sum (fun s => s_worths (F s) (T s)) i)]) (c_X5_sheetTold l V (by omega) (by omega) ⟨m1, ⟨_, m2, r9⟩, ⟨_, m3, r10⟩, ⟨_, m4, r11⟩, ⟨_, m5, r12⟩, ⟨_, m6, r13⟩, ⟨_, m7, r14⟩⟩ hF i (by omega) 2 (by omega)) (cwV 2 C.ts gX5_counted_X5_sheetTold rfl rfl rfl (by decide +kernel) ⟨(Nat.le_of_ble_eq_true rfl), (Nat.le_of_ble_eq_true rfl)⟩) (by omega) m1 rfl rfl rfl (Nat.le_of_ble_eq_true rfl) dX5_counted_126 ⟨(Nat.le_of_ble_eq_true rfl), (Nat.le_of_ble_eq_true rfl)⟩) (fun r u hu => ?_)
        rw [s_sheet_2] at hu
        subst hu
        refine g_iadd C (v := (s_sum (fun s => s_worths (F s) (T s)) i) + (s_worths (F i) (T i))) dX5_counted_129 rfl ?_
        refine g_istore_n C (lv' := [(2, .int ((s_sum (fun s => s_worths (F s) (T s)) i) + (s_worths (F i) (T i)))), (3, .int (nI i)), (0, .ref (ad 85)), (1, .int x)]) dX5_counted_130 (by decide) rfl ?_
        refine g_iinc C 1 rfl (v := nI (i + 1)) (lv' := [(3, .int (nI (i + 1))), (2, .int ((s_sum (fun s => s_worths (F s) (T s)) i) + (s_worths (F i) (T i)))), (0, .ref (ad 85)), (1, .int x)]) dX5_counted_131 (nI_add _ _) (by decide) rfl ?_
        refine g_goto C (tgt := 114) dX5_counted_134 (by decide) ?_
        refine g_lv [0, 1, 2, 3] (lv' := [(3, .int (nI (i + 1))), (2, .int ((s_sum (fun s => s_worths (F s) (T s)) i) + (s_worths (F i) (T i)))), (0, .ref (ad 85)), (1, .int x)]) rfl ?_
        exact ih
  exfalso
  have a1 := hx.1
  have a2 := hx.2
  rw [i_le] at a1 a2
  have a3 : (0 : Int32).toInt = 0 := by decide
  have a4 : (9 : Int32).toInt = 9 := by decide
  have z0 : x.toInt ≠ 0 := fun z => q0 (Int32.toInt_inj.mp z)
  have z1 : x.toInt ≠ 1 := fun z => q1 (Int32.toInt_inj.mp z)
  have z2 : x.toInt ≠ 2 := fun z => q2 (Int32.toInt_inj.mp z)
  have z3 : x.toInt ≠ 3 := fun z => q3 (Int32.toInt_inj.mp z)
  have z4 : x.toInt ≠ 4 := fun z => q4 (Int32.toInt_inj.mp z)
  have z5 : x.toInt ≠ 5 := fun z => q5 (Int32.toInt_inj.mp z)
  have z6 : x.toInt ≠ 6 := fun z => q6 (Int32.toInt_inj.mp z)
  have z7 : x.toInt ≠ 7 := fun z => q7 (Int32.toInt_inj.mp z)
  have z8 : x.toInt ≠ 8 := fun z => q8 (Int32.toInt_inj.mp z)
  have z9 : x.toInt ≠ 9 := fun z => q9 (Int32.toInt_inj.mp z)
  omega

set_option maxHeartbeats 4000000 in
set_option maxRecDepth 100000 in
theorem c_X5_count (l : Launch) (V : gT) {n : Nat} {ad : Nat → Nat} {el : Nat → va_E} {thr : Int32} {cnt : Nat} {M St We pl sh : Nat → Int32} {F T : Nat → Nat → Int32} (hn : 92 ≤ n) (hc : cnt ≤ 20) (h : X5At V ad el thr cnt M St We pl sh F T) (hF : ∀ q, q < cnt → ∀ k, k < 30 → F32 (F q k)) (x : Int32) : TT l V yX5_count wsX5_count { frames := 4, cells := 0, slots := 0, locals := 105 } n ad el [.ref (ad 85), .int x] (QIw V n ad (fun v u => (((0 ≤ x ∧ x ≤ 9) ∧ v = s_cnt cnt M St We pl F T x ∧ X5At V ad u 0 cnt M St We pl sh F T) ∨ (¬ (0 ≤ x ∧ x ≤ 9) ∧ X5At V ad u 1 cnt M St We pl sh F T)) ∧ ∀ j, (j < 85 ∨ 92 ≤ j) → u j = el j)) 0 0 := by
  refine TT.body (cc := cX5_count) (maxL := 2) (ret := (some .int)) (by decide) rfl (Nat.le_of_ble_eq_true rfl) ?_
  intro p e s m below meth c C hnm
  refine g_lv [0, 1] (lv' := [(0, .ref (ad 85)), (1, .int x)]) rfl ?_
  obtain ⟨m1, ⟨g16, m2, r9⟩, ⟨g17, m3, r10⟩, ⟨g18, m4, r11⟩, ⟨g19, m5, r12⟩, ⟨g20, m6, r13⟩, ⟨g21, m7, r14⟩⟩ := id h
  refine g_aload_n C 0 rfl dX5_count_0 ?_
  refine g_iconst C (v := nI 0) dX5_count_1 (by decide) ?_
  refine g_putf C 85 (by omega) m1 rfl 0 (by decide) (fun w h => (List.mem_cons_of_mem _ (List.mem_append_right _ h))) tyX5 tyX5_ok nmX5 (List.mem_of_getElem? (i := 1) rfl) rfl rfl rfl rfl (Nat.le_of_ble_eq_true rfl) dX5_count_2 (fun el22 e23 o24 => ?_)
  replace e23 : el22 85 = .inr (5, [.int (nI 0), .int (nI cnt), .ref (ad 86), .ref (ad 87), .ref (ad 88), .ref (ad 89), .ref (ad 90), .ref (ad 91)]) := e23
  have m25 := (o24 86 (by omega)).trans m2
  have m26 := (o24 87 (by omega)).trans m3
  have m27 := (o24 88 (by omega)).trans m4
  have m28 := (o24 89 (by omega)).trans m5
  have m29 := (o24 90 (by omega)).trans m6
  have m30 := (o24 91 (by omega)).trans m7
  refine g_iload_n C 1 rfl dX5_count_5 ?_
  refine g_iconst C (v := nI 0) dX5_count_6 (by decide) ?_
  refine g_bipush C (v := nI 9) dX5_count_7 (by decide) ?_
  refine g_calli C (r_S C (st := []) (c_X5_isIn l V x 0 9) (va_cwS 3 C.ts gX5_count_X5_isIn rfl rfl rfl (by decide +kernel) ⟨(Nat.le_of_ble_eq_true rfl), (Nat.le_of_ble_eq_true rfl)⟩) rfl rfl (Nat.le_of_ble_eq_true rfl) dX5_count_9 ⟨(Nat.le_of_ble_eq_true rfl), (Nat.le_of_ble_eq_true rfl)⟩) (fun r u hu => ?_)
  subst hu
  refine g_if_eq C (tgt := 23) dX5_count_12 (by decide) (fun c12 => ?_) (fun c12 => ?_)
  · -- 23
    refine g_aload_n C 0 rfl dX5_count_23 ?_
    refine g_iconst C (v := nI 1) dX5_count_24 (by decide) ?_
    refine g_calli C (r_V C (st := []) (c_X5_fail l V (by omega) (by omega) ⟨e23, ⟨_, m25, r9⟩, ⟨_, m26, r10⟩, ⟨_, m27, r11⟩, ⟨_, m28, r12⟩, ⟨_, m29, r13⟩, ⟨_, m30, r14⟩⟩ 1) (cwV 1 C.ts gX5_count_X5_fail rfl rfl rfl (by decide +kernel) ⟨(Nat.le_of_ble_eq_true rfl), (Nat.le_of_ble_eq_true rfl)⟩) (by omega) e23 rfl rfl rfl (Nat.le_of_ble_eq_true rfl) dX5_count_25 ⟨(Nat.le_of_ble_eq_true rfl), (Nat.le_of_ble_eq_true rfl)⟩) (fun r9 u hu => ?_)
    exact g_iret C rfl dX5_count_28 u rfl rfl rfl ⟨Or.inr (⟨s_in_0 c12, hu.2.1⟩), fun j hj => (hu.2.2 j (by omega)).trans ((o24 j (by omega)).trans (rfl))⟩ (Nat.le_of_ble_eq_true rfl) (Nat.le_of_ble_eq_true rfl)
  · -- 15
    refine g_aload_n C 0 rfl dX5_count_15 ?_
    refine g_iload_n C 1 rfl dX5_count_16 ?_
    refine g_calli C (r_V C (st := []) (c_X5_counted l V (by omega) (by omega) ⟨e23, ⟨_, m25, r9⟩, ⟨_, m26, r10⟩, ⟨_, m27, r11⟩, ⟨_, m28, r12⟩, ⟨_, m29, r13⟩, ⟨_, m30, r14⟩⟩ hF x (s_in_1 c12)) (cwV 1 C.ts gX5_count_X5_counted rfl rfl rfl (by decide +kernel) ⟨(Nat.le_of_ble_eq_true rfl), (Nat.le_of_ble_eq_true rfl)⟩) (by omega) e23 rfl rfl rfl (Nat.le_of_ble_eq_true rfl) dX5_count_17 ⟨(Nat.le_of_ble_eq_true rfl), (Nat.le_of_ble_eq_true rfl)⟩) (fun r u hu => ?_)
    subst hu
    refine g_goto C (tgt := 28) dX5_count_20 (by decide) ?_
    exact g_iret C rfl dX5_count_28 el22 rfl rfl rfl ⟨Or.inl ⟨s_in_1 c12, rfl, ⟨e23, ⟨_, m25, r9⟩, ⟨_, m26, r10⟩, ⟨_, m27, r11⟩, ⟨_, m28, r12⟩, ⟨_, m29, r13⟩, ⟨_, m30, r14⟩⟩⟩, fun j hj => (o24 j (by omega)).trans (rfl)⟩ (Nat.le_of_ble_eq_true rfl) (Nat.le_of_ble_eq_true rfl)

set_option maxHeartbeats 4000000 in
set_option maxRecDepth 100000 in
theorem c_X5_like (l : Launch) (V : gT) {n : Nat} {ad : Nat → Nat} {el : Nat → va_E} {thr : Int32} {cnt : Nat} {M St We pl sh : Nat → Int32} {F T : Nat → Nat → Int32} (hn : 92 ≤ n) (hc : cnt ≤ 20) (h : X5At V ad el thr cnt M St We pl sh F T) (hF : ∀ q, q < cnt → ∀ k, k < 30 → F32 (F q k)) (x : Int32) : TT l V yX5_like wsX5_like { frames := 1, cells := 0, slots := 0, locals := 22 } n ad el [.ref (ad 85), .int x] (QIw V n ad (fun v u => (((0 ≤ x ∧ x ≤ 31) ∧ v = s_with F T x cnt ∧ X5At V ad u 0 cnt M St We pl sh F T) ∨ (¬ (0 ≤ x ∧ x ≤ 31) ∧ X5At V ad u 1 cnt M St We pl sh F T)) ∧ ∀ j, (j < 85 ∨ 92 ≤ j) → u j = el j)) 0 0 := by
  refine TT.body (cc := cX5_like) (maxL := 4) (ret := (some .int)) (by decide) rfl (Nat.le_of_ble_eq_true rfl) ?_
  intro p e s m below meth c C hnm
  refine g_lv [0, 1] (lv' := [(0, .ref (ad 85)), (1, .int x)]) rfl ?_
  obtain ⟨m1, ⟨g16, m2, r9⟩, ⟨g17, m3, r10⟩, ⟨g18, m4, r11⟩, ⟨g19, m5, r12⟩, ⟨g20, m6, r13⟩, ⟨g21, m7, r14⟩⟩ := id h
  refine g_aload_n C 0 rfl dX5_like_0 ?_
  refine g_iconst C (v := nI 0) dX5_like_1 (by decide) ?_
  refine g_putf C 85 (by omega) m1 rfl 0 (by decide) (fun w h => (List.mem_cons_of_mem _ (List.mem_append_right _ h))) tyX5 tyX5_ok nmX5 (List.mem_of_getElem? (i := 1) rfl) rfl rfl rfl rfl (Nat.le_of_ble_eq_true rfl) dX5_like_2 (fun el22 e23 o24 => ?_)
  replace e23 : el22 85 = .inr (5, [.int (nI 0), .int (nI cnt), .ref (ad 86), .ref (ad 87), .ref (ad 88), .ref (ad 89), .ref (ad 90), .ref (ad 91)]) := e23
  have m25 := (o24 86 (by omega)).trans m2
  have m26 := (o24 87 (by omega)).trans m3
  have m27 := (o24 88 (by omega)).trans m4
  have m28 := (o24 89 (by omega)).trans m5
  have m29 := (o24 90 (by omega)).trans m6
  have m30 := (o24 91 (by omega)).trans m7
  refine g_iload_n C 1 rfl dX5_like_5 ?_
  refine g_iconst C (v := nI 0) dX5_like_6 (by decide) ?_
  refine g_bipush C (v := nI 31) dX5_like_7 (by decide) ?_
  refine g_calli C (r_S C (st := []) (c_X5_isIn l V x 0 31) (va_cwS 3 C.ts gX5_like_X5_isIn rfl rfl rfl (by decide +kernel) ⟨(Nat.le_of_ble_eq_true rfl), (Nat.le_of_ble_eq_true rfl)⟩) rfl rfl (Nat.le_of_ble_eq_true rfl) dX5_like_9 ⟨(Nat.le_of_ble_eq_true rfl), (Nat.le_of_ble_eq_true rfl)⟩) (fun r u hu => ?_)
  subst hu
  refine g_if_ne C (tgt := 21) dX5_like_12 (by decide) (fun c12 => ?_) (fun c12 => ?_)
  · -- 21
    have hx := s_in_1 c12
    have hx32 : F32 x := by
      obtain ⟨v, hv, rfl⟩ := in_nat 31 hx (by decide)
      exact ⟨v, by omega, rfl⟩
    refine g_iconst C (v := nI 0) dX5_like_21 (by decide) ?_
    refine g_istore_n C (lv' := [(2, .int (nI 0)), (0, .ref (ad 85)), (1, .int x)]) dX5_like_22 (by decide) rfl ?_
    refine g_iconst C (v := nI 0) dX5_like_23 (by decide) ?_
    refine g_istore_n C (lv' := [(3, .int (nI 0)), (2, .int (nI 0)), (0, .ref (ad 85)), (1, .int x)]) dX5_like_24 (by decide) rfl ?_
    refine g_lv [0, 1, 2, 3] (lv' := [(3, .int (nI 0)), (2, .int (nI 0)), (0, .ref (ad 85)), (1, .int x)]) rfl ?_
    refine g_for (30 * cnt) (fun (k : Nat) => [(3, .int (nI k)), (2, .int (s_sum (s_lk F T x) k)), (0, .ref (ad 85)), (1, .int x)]) ?_ (fun k hk ihk => ?_)
    · -- loop 25: its end
      refine g_iload_n C 0 rfl dX5_like_25 ?_
      refine g_bipush C (v := nI 30) dX5_like_26 (by decide) ?_
      refine g_aload_n C 2 rfl dX5_like_28 ?_
      refine g_getf C 85 (by omega) e23 rfl 1 (by decide) (fun w h => (List.mem_cons_of_mem _ (List.mem_append_right _ h))) (List.mem_of_getElem? (i := 2) rfl) rfl rfl dX5_like_29 ?_
      refine g_imul C (v := nI (30 * cnt)) dX5_like_32 (pk_mul _ _) ?_
      refine g_icmp_ge C (tgt := 60) dX5_like_33 (by decide) (fun c33 => ?_) (fun c33 => ?_)
      · -- 60
        have c33 : (30 * cnt) ≤ (30 * cnt) := (nI_leI (by omega) (by omega)).mp c33
        refine g_iload_n C 1 rfl dX5_like_60 ?_
        exact g_iret C rfl dX5_like_61 el22 rfl rfl rfl ⟨Or.inl ⟨hx, s_lk_sum _ _ _ _, ⟨e23, ⟨_, m25, r9⟩, ⟨_, m26, r10⟩, ⟨_, m27, r11⟩, ⟨_, m28, r12⟩, ⟨_, m29, r13⟩, ⟨_, m30, r14⟩⟩⟩, fun j hj => (o24 j (by omega)).trans (rfl)⟩ (Nat.le_of_ble_eq_true rfl) (Nat.le_of_ble_eq_true rfl)
      · -- 36
        have c33 : (30 * cnt) < (30 * cnt) := Nat.lt_of_not_le (fun z => c33 ((nI_leI (by omega) (by omega)).mpr z))
        exact absurd c33 (by omega)
    · -- loop 25: its body
      refine g_iload_n C 0 rfl dX5_like_25 ?_
      refine g_bipush C (v := nI 30) dX5_like_26 (by decide) ?_
      refine g_aload_n C 2 rfl dX5_like_28 ?_
      refine g_getf C 85 (by omega) e23 rfl 1 (by decide) (fun w h => (List.mem_cons_of_mem _ (List.mem_append_right _ h))) (List.mem_of_getElem? (i := 2) rfl) rfl rfl dX5_like_29 ?_
      refine g_imul C (v := nI (30 * cnt)) dX5_like_32 (pk_mul _ _) ?_
      refine g_icmp_ge C (tgt := 60) dX5_like_33 (by decide) (fun c33 => ?_) (fun c33 => ?_)
      · -- 60
        have c33 : (30 * cnt) ≤ k := (nI_leI (by omega) (by omega)).mp c33
        exact absurd c33 (by omega)
      · -- 36
        have c33 : k < (30 * cnt) := Nat.lt_of_not_le (fun z => c33 ((nI_leI (by omega) (by omega)).mpr z))
        refine g_iload_n C 1 rfl dX5_like_36 ?_
        refine g_aload_n C 2 rfl dX5_like_37 ?_
        refine g_getf C 85 (by omega) e23 rfl 2 (by decide) (fun w h => (List.mem_cons_of_mem _ (List.mem_append_right _ h))) (List.mem_of_getElem? (i := 3) rfl) rfl rfl dX5_like_38 ?_
        refine g_iload_n C 0 rfl dX5_like_41 ?_
        refine g_iald C 86 (by omega) m25 (30 * ((k / 30)) + ((k % 30))) (congrArg nI (by omega)) (by omega) (by decide) dX5_like_42 ?_
        refine g_top (r9 ((k / 30)) (by omega) ((k % 30)) (by omega)) ?_
        refine g_iload_n C 3 rfl dX5_like_43 ?_
        refine g_via (fun v : Int32 => v = s_lk F T x k) 52 (fun _ => [(3, .int (nI k)), (2, .int (s_sum (s_lk F T x) k)), (0, .ref (ad 85)), (1, .int x)]) (fun v => .int v :: [.int (s_sum (s_lk F T x) k)]) (fun v hv => ?_) (fun J => ?_)
        · -- join
          subst hv
          refine g_iadd C (v := (s_sum (s_lk F T x) k) + (s_lk F T x k)) dX5_like_52 rfl ?_
          refine g_istore_n C (lv' := [(2, .int ((s_sum (s_lk F T x) k) + (s_lk F T x k))), (3, .int (nI k)), (0, .ref (ad 85)), (1, .int x)]) dX5_like_53 (by decide) rfl ?_
          refine g_iinc C 1 rfl (v := nI (k + 1)) (lv' := [(3, .int (nI (k + 1))), (2, .int ((s_sum (s_lk F T x) k) + (s_lk F T x k))), (0, .ref (ad 85)), (1, .int x)]) dX5_like_54 (nI_add _ _) (by decide) rfl ?_
          refine g_goto C (tgt := 25) dX5_like_57 (by decide) ?_
          refine g_lv [0, 1, 2, 3] (lv' := [(3, .int (nI (k + 1))), (2, .int ((s_sum (s_lk F T x) k) + (s_lk F T x k))), (0, .ref (ad 85)), (1, .int x)]) rfl ?_
          exact ihk
        · -- ways
          refine g_icmp_ne C (tgt := 51) dX5_like_44 (by decide) (fun c44 => ?_) (fun c44 => ?_)
          · -- 51
            refine g_iconst C (v := nI 0) dX5_like_51 (by decide) ?_
            exact J _ ((if_neg (fun z => c44 ((enc_eq (hF (k / 30) (by omega) (k % 30) (by omega)) hx32).mpr z))).symm)
          · -- 47
            refine g_iconst C (v := nI 1) dX5_like_47 (by decide) ?_
            refine g_goto C (tgt := 52) dX5_like_48 (by decide) ?_
            exact J _ ((if_pos ((enc_eq (hF (k / 30) (by omega) (k % 30) (by omega)) hx32).mp c44)).symm)
  · -- 15
    refine g_aload_n C 0 rfl dX5_like_15 ?_
    refine g_iconst C (v := nI 1) dX5_like_16 (by decide) ?_
    refine g_calli C (r_V C (st := []) (c_X5_fail l V (by omega) (by omega) ⟨e23, ⟨_, m25, r9⟩, ⟨_, m26, r10⟩, ⟨_, m27, r11⟩, ⟨_, m28, r12⟩, ⟨_, m29, r13⟩, ⟨_, m30, r14⟩⟩ 1) (cwV 1 C.ts gX5_like_X5_fail rfl rfl rfl (by decide +kernel) ⟨(Nat.le_of_ble_eq_true rfl), (Nat.le_of_ble_eq_true rfl)⟩) (by omega) e23 rfl rfl rfl (Nat.le_of_ble_eq_true rfl) dX5_like_17 ⟨(Nat.le_of_ble_eq_true rfl), (Nat.le_of_ble_eq_true rfl)⟩) (fun r9 u hu => ?_)
    exact g_iret C rfl dX5_like_20 u rfl rfl rfl ⟨Or.inr (⟨s_in_0 c12, hu.2.1⟩), fun j hj => (hu.2.2 j (by omega)).trans ((o24 j (by omega)).trans (rfl))⟩ (Nat.le_of_ble_eq_true rfl) (Nat.le_of_ble_eq_true rfl)

set_option maxHeartbeats 4000000 in
set_option maxRecDepth 100000 in
theorem c_X5_share (l : Launch) (V : gT) {n : Nat} {ad : Nat → Nat} {el : Nat → va_E} {thr : Int32} {cnt : Nat} {M St We pl sh : Nat → Int32} {F T : Nat → Nat → Int32} (hn : 92 ≤ n) (hc : cnt ≤ 20) (h : X5At V ad el thr cnt M St We pl sh F T) (hF : ∀ q, q < cnt → ∀ k, k < 30 → F32 (F q k)) : TT l V yX5_share wsX5_share { frames := 3, cells := 0, slots := 0, locals := 79 } n ad el [.ref (ad 85)] (QD V (fun r u => r = s_share F T cnt ∧ X5At V ad u 0 cnt M St We pl sh F T ∧ ∀ j, (j < 85 ∨ 92 ≤ j) → u j = el j) (fun _ => n) (fun _ => ad) id) 0 0 := by
  refine TT.body (cc := cX5_share) (maxL := 3) (ret := (some .double)) (by decide) rfl (Nat.le_of_ble_eq_true rfl) ?_
  intro p e s m below meth c C hnm
  refine g_lv [0] (lv' := [(0, .ref (ad 85))]) rfl ?_
  obtain ⟨m1, ⟨g16, m2, r9⟩, ⟨g17, m3, r10⟩, ⟨g18, m4, r11⟩, ⟨g19, m5, r12⟩, ⟨g20, m6, r13⟩, ⟨g21, m7, r14⟩⟩ := id h
  refine g_aload_n C 0 rfl dX5_share_0 ?_
  refine g_iconst C (v := nI 0) dX5_share_1 (by decide) ?_
  refine g_putf C 85 (by omega) m1 rfl 0 (by decide) (fun w h => (List.mem_cons_of_mem _ (List.mem_append_right _ h))) tyX5 tyX5_ok nmX5 (List.mem_of_getElem? (i := 1) rfl) rfl rfl rfl rfl (Nat.le_of_ble_eq_true rfl) dX5_share_2 (fun el22 e23 o24 => ?_)
  replace e23 : el22 85 = .inr (5, [.int (nI 0), .int (nI cnt), .ref (ad 86), .ref (ad 87), .ref (ad 88), .ref (ad 89), .ref (ad 90), .ref (ad 91)]) := e23
  have m25 := (o24 86 (by omega)).trans m2
  have m26 := (o24 87 (by omega)).trans m3
  have m27 := (o24 88 (by omega)).trans m4
  have m28 := (o24 89 (by omega)).trans m5
  have m29 := (o24 90 (by omega)).trans m6
  have m30 := (o24 91 (by omega)).trans m7
  refine g_iconst C (v := nI 0) dX5_share_5 (by decide) ?_
  refine g_istore_n C (lv' := [(1, .int (nI 0)), (0, .ref (ad 85))]) dX5_share_6 (by decide) rfl ?_
  refine g_iconst C (v := nI 0) dX5_share_7 (by decide) ?_
  refine g_istore_n C (lv' := [(2, .int (nI 0)), (1, .int (nI 0)), (0, .ref (ad 85))]) dX5_share_8 (by decide) rfl ?_
  refine g_lv [0, 1, 2] (lv' := [(2, .int (nI 0)), (1, .int (nI 0)), (0, .ref (ad 85))]) rfl ?_
  refine g_for cnt (fun (i : Nat) => [(2, .int (nI i)), (1, .int (s_sum (fun s => s_leftWith (F s) (T s) 0) i)), (0, .ref (ad 85))]) ?_ (fun i hi ih => ?_)
  · -- loop 9: its end
    refine g_iload_n C 0 rfl dX5_share_9 ?_
    refine g_aload_n C 2 rfl dX5_share_10 ?_
    refine g_getf C 85 (by omega) e23 rfl 1 (by decide) (fun w h => (List.mem_cons_of_mem _ (List.mem_append_right _ h))) (List.mem_of_getElem? (i := 2) rfl) rfl rfl dX5_share_11 ?_
    refine g_icmp_ge C (tgt := 32) dX5_share_14 (by decide) (fun c14 => ?_) (fun c14 => ?_)
    · -- 32
      have c14 : cnt ≤ cnt := (nI_leI (by omega) (by omega)).mp c14
      refine g_aload_n C 2 rfl dX5_share_32 ?_
      refine g_getf C 85 (by omega) e23 rfl 1 (by decide) (fun w h => (List.mem_cons_of_mem _ (List.mem_append_right _ h))) (List.mem_of_getElem? (i := 2) rfl) rfl rfl dX5_share_33 ?_
      refine g_if_ne C (tgt := 43) dX5_share_36 (by decide) (fun c36 => ?_) (fun c36 => ?_)
      · have hpos : 0 < cnt := by
          rcases Nat.eq_zero_or_pos cnt with e | e
          · subst e; exact absurd rfl c36
          · exact e
        refine g_iload_n C 1 rfl dX5_share_43 ?_
        refine g_i2d C dX5_share_44 ?_
        refine g_bipush C (v := nI 30) dX5_share_45 (by decide) ?_
        refine g_aload_n C 2 rfl dX5_share_47 ?_
        refine g_getf C 85 (by omega) e23 rfl 1 (by decide) (fun w h => (List.mem_cons_of_mem _ (List.mem_append_right _ h))) (List.mem_of_getElem? (i := 2) rfl) rfl rfl dX5_share_48 ?_
        refine g_imul C (v := nI (30 * cnt)) dX5_share_51 (pk_mul _ _) ?_
        refine g_i2d C dX5_share_52 ?_
        refine g_ddiv C dX5_share_53 (s_share_n64 (F := F) (T := T) hc hpos) ?_
        exact g_dret C rfl dX5_share_54 el22 rfl rfl rfl ⟨(if_neg (by omega)).symm, ⟨e23, ⟨_, m25, r9⟩, ⟨_, m26, r10⟩, ⟨_, m27, r11⟩, ⟨_, m28, r12⟩, ⟨_, m29, r13⟩, ⟨_, m30, r14⟩⟩, fun j hj => (o24 j (by omega)).trans (rfl)⟩ (Nat.le_of_ble_eq_true rfl) (Nat.le_of_ble_eq_true rfl)
      · have hz : cnt = 0 := by
          rcases Nat.eq_zero_or_pos cnt with e | e
          · exact e
          · exact absurd c36 (nI_ne0 (by omega) (by omega))
        refine g_dconst0 C dX5_share_39 ?_
        refine g_goto C (tgt := 54) dX5_share_40 (by decide) ?_
        exact g_dret C rfl dX5_share_54 el22 rfl rfl rfl ⟨(if_pos hz).symm, ⟨e23, ⟨_, m25, r9⟩, ⟨_, m26, r10⟩, ⟨_, m27, r11⟩, ⟨_, m28, r12⟩, ⟨_, m29, r13⟩, ⟨_, m30, r14⟩⟩, fun j hj => (o24 j (by omega)).trans (rfl)⟩ (Nat.le_of_ble_eq_true rfl) (Nat.le_of_ble_eq_true rfl)
    · -- 17
      have c14 : cnt < cnt := Nat.lt_of_not_le (fun z => c14 ((nI_leI (by omega) (by omega)).mpr z))
      exact absurd c14 (by omega)
  · -- loop 9: its body
    refine g_iload_n C 0 rfl dX5_share_9 ?_
    refine g_aload_n C 2 rfl dX5_share_10 ?_
    refine g_getf C 85 (by omega) e23 rfl 1 (by decide) (fun w h => (List.mem_cons_of_mem _ (List.mem_append_right _ h))) (List.mem_of_getElem? (i := 2) rfl) rfl rfl dX5_share_11 ?_
    refine g_icmp_ge C (tgt := 32) dX5_share_14 (by decide) (fun c14 => ?_) (fun c14 => ?_)
    · -- 32
      have c14 : cnt ≤ i := (nI_leI (by omega) (by omega)).mp c14
      exact absurd c14 (by omega)
    · -- 17
      have c14 : i < cnt := Nat.lt_of_not_le (fun z => c14 ((nI_leI (by omega) (by omega)).mpr z))
      refine g_iload_n C 1 rfl dX5_share_17 ?_
      refine g_aload_n C 2 rfl dX5_share_18 ?_
      refine g_iload_n C 0 rfl dX5_share_19 ?_
      refine g_iconst C (v := nI 1) dX5_share_20 (by decide) ?_
      refine g_calli C (r_V C (st := [.int (s_sum (fun s => s_leftWith (F s) (T s) 0) i)]) (c_X5_sheetTold l V (by omega) (by omega) ⟨e23, ⟨_, m25, r9⟩, ⟨_, m26, r10⟩, ⟨_, m27, r11⟩, ⟨_, m28, r12⟩, ⟨_, m29, r13⟩, ⟨_, m30, r14⟩⟩ hF i (by omega) 1 (by omega)) (cwV 2 C.ts gX5_share_X5_sheetTold rfl rfl rfl (by decide +kernel) ⟨(Nat.le_of_ble_eq_true rfl), (Nat.le_of_ble_eq_true rfl)⟩) (by omega) e23 rfl rfl rfl (Nat.le_of_ble_eq_true rfl) dX5_share_21 ⟨(Nat.le_of_ble_eq_true rfl), (Nat.le_of_ble_eq_true rfl)⟩) (fun r u hu => ?_)
      rw [s_sheet_1] at hu
      subst hu
      refine g_iadd C (v := (s_sum (fun s => s_leftWith (F s) (T s) 0) i) + (s_leftWith (F i) (T i) 0)) dX5_share_24 rfl ?_
      refine g_istore_n C (lv' := [(1, .int ((s_sum (fun s => s_leftWith (F s) (T s) 0) i) + (s_leftWith (F i) (T i) 0))), (2, .int (nI i)), (0, .ref (ad 85))]) dX5_share_25 (by decide) rfl ?_
      refine g_iinc C 1 rfl (v := nI (i + 1)) (lv' := [(2, .int (nI (i + 1))), (1, .int ((s_sum (fun s => s_leftWith (F s) (T s) 0) i) + (s_leftWith (F i) (T i) 0))), (0, .ref (ad 85))]) dX5_share_26 (nI_add _ _) (by decide) rfl ?_
      refine g_goto C (tgt := 9) dX5_share_29 (by decide) ?_
      refine g_lv [0, 1, 2] (lv' := [(2, .int (nI (i + 1))), (1, .int ((s_sum (fun s => s_leftWith (F s) (T s) 0) i) + (s_leftWith (F i) (T i) 0))), (0, .ref (ad 85))]) rfl ?_
      exact ih

set_option maxHeartbeats 4000000 in
set_option maxRecDepth 100000 in
theorem c_X5_digest (l : Launch) (V : gT) {n : Nat} {ad : Nat → Nat} {el : Nat → va_E} {thr : Int32} {cnt : Nat} {M St We pl sh : Nat → Int32} {F T : Nat → Nat → Int32} (hn : 92 ≤ n) (hc : cnt ≤ 20) (h : X5At V ad el thr cnt M St We pl sh F T) (hF : ∀ q, q < cnt → ∀ k, k < 30 → F32 (F q k)) (hP : ∀ q, q < 7 → We q ≤ St q ∨ We q = St q + 1) : TT l V yX5_digest wsX5_digest { frames := 4, cells := 0, slots := 0, locals := 105 } n ad el [.ref (ad 85)] (QL V (fun r u => r = s_digest cnt M St We pl F T ∧ X5At V ad u 0 cnt M St We pl sh F T ∧ ∀ j, (j < 85 ∨ 92 ≤ j) → u j = el j) (fun _ => n) (fun _ => ad) id) 0 0 := by
  refine TT.body (cc := cX5_digest) (maxL := 5) (ret := (some .long)) (by decide) rfl (Nat.le_of_ble_eq_true rfl) ?_
  intro p e s m below meth c C hnm
  refine g_lv [0] (lv' := [(0, .ref (ad 85))]) rfl ?_
  obtain ⟨m1, ⟨g16, m2, r9⟩, ⟨g17, m3, r10⟩, ⟨g18, m4, r11⟩, ⟨g19, m5, r12⟩, ⟨g20, m6, r13⟩, ⟨g21, m7, r14⟩⟩ := id h
  refine g_aload_n C 0 rfl dX5_digest_0 ?_
  refine g_iconst C (v := nI 0) dX5_digest_1 (by decide) ?_
  refine g_putf C 85 (by omega) m1 rfl 0 (by decide) (fun w h => (List.mem_cons_of_mem _ (List.mem_append_right _ h))) tyX5 tyX5_ok nmX5 (List.mem_of_getElem? (i := 1) rfl) rfl rfl rfl rfl (Nat.le_of_ble_eq_true rfl) dX5_digest_2 (fun el22 e23 o24 => ?_)
  replace e23 : el22 85 = .inr (5, [.int (nI 0), .int (nI cnt), .ref (ad 86), .ref (ad 87), .ref (ad 88), .ref (ad 89), .ref (ad 90), .ref (ad 91)]) := e23
  have m25 := (o24 86 (by omega)).trans m2
  have m26 := (o24 87 (by omega)).trans m3
  have m27 := (o24 88 (by omega)).trans m4
  have m28 := (o24 89 (by omega)).trans m5
  have m29 := (o24 90 (by omega)).trans m6
  have m30 := (o24 91 (by omega)).trans m7
  refine g_ldc2 C (v := 1069) (C.ts _ (List.mem_of_getElem? (i := 2) rfl)) dX5_digest_5 ?_
  refine g_lstore_n C (lv' := [(1, .long 1069), (0, .ref (ad 85))]) dX5_digest_8 (by decide) rfl ?_
  refine g_iconst C (v := nI 0) dX5_digest_9 (by decide) ?_
  refine g_istore_n C (lv' := [(3, .int (nI 0)), (1, .long 1069), (0, .ref (ad 85))]) dX5_digest_10 (by decide) rfl ?_
  refine g_lv [0, 1, 2] (lv' := [(3, .int (nI 0)), (1, .long 1069), (0, .ref (ad 85))]) rfl ?_
  refine g_for 10 (fun (i : Nat) => [(3, .int (nI i)), (1, .long (s_dig (fun w => s_cnt cnt M St We pl F T (nI w)) 1069 i)), (0, .ref (ad 85))]) ?_ (fun i hi ih => ?_)
  · -- loop 11: its end
    refine g_iload_n C 0 rfl dX5_digest_11 ?_
    refine g_bipush C (v := nI 10) dX5_digest_12 (by decide) ?_
    refine g_icmp_ge C (tgt := 36) dX5_digest_14 (by decide) (fun c14 => ?_) (fun c14 => ?_)
    · -- 36
      have c14 : 10 ≤ 10 := (nI_leI (by omega) (by omega)).mp c14
      refine g_iconst C (v := nI 0) dX5_digest_36 (by decide) ?_
      refine g_istore_n C (lv' := [(3, .int (nI 0)), (1, .long (s_dig (fun w => s_cnt cnt M St We pl F T (nI w)) 1069 10)), (0, .ref (ad 85))]) dX5_digest_37 (by decide) rfl ?_
      refine g_lv [0, 1, 2] (lv' := [(3, .int (nI 0)), (1, .long (s_dig (fun w => s_cnt cnt M St We pl F T (nI w)) 1069 10)), (0, .ref (ad 85))]) rfl ?_
      refine g_for 7 (fun (i : Nat) => [(3, .int (nI i)), (1, .long (s_digP St We (s_dig (fun w => s_cnt cnt M St We pl F T (nI w)) 1069 10) i)), (0, .ref (ad 85))]) ?_ (fun i hi ih => ?_)
      · -- loop 38: its end
        refine g_iload_n C 0 rfl dX5_digest_38 ?_
        refine g_bipush C (v := nI 7) dX5_digest_39 (by decide) ?_
        refine g_icmp_ge C (tgt := 80) dX5_digest_41 (by decide) (fun c41 => ?_) (fun c41 => ?_)
        · -- 80
          have c41 : 7 ≤ 7 := (nI_leI (by omega) (by omega)).mp c41
          refine g_iconst C (v := nI 0) dX5_digest_80 (by decide) ?_
          refine g_istore_n C (lv' := [(3, .int (nI 0)), (1, .long (s_digP St We (s_dig (fun w => s_cnt cnt M St We pl F T (nI w)) 1069 10) 7)), (0, .ref (ad 85))]) dX5_digest_81 (by decide) rfl ?_
          refine g_lv [0, 1, 2] (lv' := [(3, .int (nI 0)), (1, .long (s_digP St We (s_dig (fun w => s_cnt cnt M St We pl F T (nI w)) 1069 10) 7)), (0, .ref (ad 85))]) rfl ?_
          refine g_for cnt (fun (i : Nat) => [(3, .int (nI i)), (1, .long (s_digA F T (s_digP St We (s_dig (fun w => s_cnt cnt M St We pl F T (nI w)) 1069 10) 7) i)), (0, .ref (ad 85))]) ?_ (fun i hi ih => ?_)
          · -- loop 82: its end
            refine g_iload_n C 0 rfl dX5_digest_82 ?_
            refine g_aload_n C 2 rfl dX5_digest_83 ?_
            refine g_getf C 85 (by omega) e23 rfl 1 (by decide) (fun w h => (List.mem_cons_of_mem _ (List.mem_append_right _ h))) (List.mem_of_getElem? (i := 4) rfl) rfl rfl dX5_digest_84 ?_
            refine g_icmp_ge C (tgt := 185) dX5_digest_87 (by decide) (fun c87 => ?_) (fun c87 => ?_)
            · -- 185
              have c87 : cnt ≤ cnt := (nI_leI (by omega) (by omega)).mp c87
              refine g_lload_n C 1 rfl dX5_digest_185 ?_
              exact g_lret C rfl dX5_digest_186 el22 rfl rfl rfl ⟨rfl, ⟨e23, ⟨_, m25, r9⟩, ⟨_, m26, r10⟩, ⟨_, m27, r11⟩, ⟨_, m28, r12⟩, ⟨_, m29, r13⟩, ⟨_, m30, r14⟩⟩, fun j hj => (o24 j (by omega)).trans (rfl)⟩ (Nat.le_of_ble_eq_true rfl) (Nat.le_of_ble_eq_true rfl)
            · -- 90
              have c87 : cnt < cnt := Nat.lt_of_not_le (fun z => c87 ((nI_leI (by omega) (by omega)).mpr z))
              exact absurd c87 (by omega)
          · -- loop 82: its body
            refine g_iload_n C 0 rfl dX5_digest_82 ?_
            refine g_aload_n C 2 rfl dX5_digest_83 ?_
            refine g_getf C 85 (by omega) e23 rfl 1 (by decide) (fun w h => (List.mem_cons_of_mem _ (List.mem_append_right _ h))) (List.mem_of_getElem? (i := 4) rfl) rfl rfl dX5_digest_84 ?_
            refine g_icmp_ge C (tgt := 185) dX5_digest_87 (by decide) (fun c87 => ?_) (fun c87 => ?_)
            · -- 185
              have c87 : cnt ≤ i := (nI_leI (by omega) (by omega)).mp c87
              exact absurd c87 (by omega)
            · -- 90
              have c87 : i < cnt := Nat.lt_of_not_le (fun z => c87 ((nI_leI (by omega) (by omega)).mpr z))
              refine g_iconst C (v := nI 0) dX5_digest_90 (by decide) ?_
              refine g_istore C (lv' := [(4, .int (nI 0)), (3, .int (nI i)), (1, .long (s_digA F T (s_digP St We (s_dig (fun w => s_cnt cnt M St We pl F T (nI w)) 1069 10) 7) i)), (0, .ref (ad 85))]) dX5_digest_91 (by decide) rfl ?_
              refine g_lv [0, 1, 2, 3] (lv' := [(4, .int (nI 0)), (3, .int (nI i)), (1, .long (s_digA F T (s_digP St We (s_dig (fun w => s_cnt cnt M St We pl F T (nI w)) 1069 10) 7) i)), (0, .ref (ad 85))]) rfl ?_
              refine g_for 6 (fun (j : Nat) => [(4, .int (nI j)), (3, .int (nI i)), (1, .long (s_dig (fun w => s_sheet (F i) (T i) (nI w)) (s_digA F T (s_digP St We (s_dig (fun w => s_cnt cnt M St We pl F T (nI w)) 1069 10) 7) i) j)), (0, .ref (ad 85))]) ?_ (fun j hj jh => ?_)
              · -- loop 93: its end
                refine g_iload C 0 rfl dX5_digest_93 ?_
                refine g_bipush C (v := nI 6) dX5_digest_95 (by decide) ?_
                refine g_icmp_ge C (tgt := 121) dX5_digest_97 (by decide) (fun c97 => ?_) (fun c97 => ?_)
                · -- 121
                  have c97 : 6 ≤ 6 := (nI_leI (by omega) (by omega)).mp c97
                  refine g_bipush C (v := nI 30) dX5_digest_121 (by decide) ?_
                  refine g_iload_n C 1 rfl dX5_digest_123 ?_
                  refine g_imul C (v := nI (30 * i)) dX5_digest_124 (pk_mul _ _) ?_
                  refine g_istore C (lv' := [(4, .int (nI (30 * i))), (3, .int (nI i)), (1, .long (s_dig (fun w => s_sheet (F i) (T i) (nI w)) (s_digA F T (s_digP St We (s_dig (fun w => s_cnt cnt M St We pl F T (nI w)) 1069 10) 7) i) 6)), (0, .ref (ad 85))]) dX5_digest_125 (by decide) rfl ?_
                  refine g_lv [0, 1, 2, 3] (lv' := [(4, .int (nI (30 * i))), (3, .int (nI i)), (1, .long (s_dig (fun w => s_sheet (F i) (T i) (nI w)) (s_digA F T (s_digP St We (s_dig (fun w => s_cnt cnt M St We pl F T (nI w)) 1069 10) 7) i) 6)), (0, .ref (ad 85))]) rfl ?_
                  refine g_for 30 (fun (j : Nat) => [(4, .int (nI (30 * i + j))), (3, .int (nI i)), (1, .long (s_dig2 (F i) (fun j => s_worth (F i j) (T i j)) (s_dig (fun w => s_sheet (F i) (T i) (nI w)) (s_digA F T (s_digP St We (s_dig (fun w => s_cnt cnt M St We pl F T (nI w)) 1069 10) 7) i) 6) j)), (0, .ref (ad 85))]) ?_ (fun j hj jh => ?_)
                  · -- loop 127: its end
                    refine g_iload C 0 rfl dX5_digest_127 ?_
                    refine g_bipush C (v := nI 30) dX5_digest_129 (by decide) ?_
                    refine g_iload_n C 1 rfl dX5_digest_131 ?_
                    refine g_imul C (v := nI (30 * i)) dX5_digest_132 (pk_mul _ _) ?_
                    refine g_bipush C (v := nI 30) dX5_digest_133 (by decide) ?_
                    refine g_iadd C (v := nI ((30 * i) + 30)) dX5_digest_135 (nI_add _ _) ?_
                    refine g_icmp_ge C (tgt := 179) dX5_digest_136 (by decide) (fun c136 => ?_) (fun c136 => ?_)
                    · -- 179
                      have c136 : ((30 * i) + 30) ≤ (30 * i + 30) := (nI_leI (by omega) (by omega)).mp c136
                      refine g_iinc C 1 rfl (v := nI (i + 1)) (lv' := [(3, .int (nI (i + 1))), (4, .int (nI (30 * i + 30))), (1, .long (s_dig2 (F i) (fun j => s_worth (F i j) (T i j)) (s_dig (fun w => s_sheet (F i) (T i) (nI w)) (s_digA F T (s_digP St We (s_dig (fun w => s_cnt cnt M St We pl F T (nI w)) 1069 10) 7) i) 6) 30)), (0, .ref (ad 85))]) dX5_digest_179 (nI_add _ _) (by decide) rfl ?_
                      refine g_goto C (tgt := 82) dX5_digest_182 (by decide) ?_
                      refine g_lv [0, 2, 3] (lv' := [(3, .int (nI (i + 1))), (1, .long (s_dig2 (F i) (fun j => s_worth (F i j) (T i j)) (s_dig (fun w => s_sheet (F i) (T i) (nI w)) (s_digA F T (s_digP St We (s_dig (fun w => s_cnt cnt M St We pl F T (nI w)) 1069 10) 7) i) 6) 30)), (0, .ref (ad 85))]) rfl ?_
                      exact ih
                    · -- 139
                      have c136 : (30 * i + 30) < ((30 * i) + 30) := Nat.lt_of_not_le (fun z => c136 ((nI_leI (by omega) (by omega)).mpr z))
                      exact absurd c136 (by omega)
                  · -- loop 127: its body
                    refine g_iload C 0 rfl dX5_digest_127 ?_
                    refine g_bipush C (v := nI 30) dX5_digest_129 (by decide) ?_
                    refine g_iload_n C 1 rfl dX5_digest_131 ?_
                    refine g_imul C (v := nI (30 * i)) dX5_digest_132 (pk_mul _ _) ?_
                    refine g_bipush C (v := nI 30) dX5_digest_133 (by decide) ?_
                    refine g_iadd C (v := nI ((30 * i) + 30)) dX5_digest_135 (nI_add _ _) ?_
                    refine g_icmp_ge C (tgt := 179) dX5_digest_136 (by decide) (fun c136 => ?_) (fun c136 => ?_)
                    · -- 179
                      have c136 : ((30 * i) + 30) ≤ (30 * i + j) := (nI_leI (by omega) (by omega)).mp c136
                      exact absurd c136 (by omega)
                    · -- 139
                      have c136 : (30 * i + j) < ((30 * i) + 30) := Nat.lt_of_not_le (fun z => c136 ((nI_leI (by omega) (by omega)).mpr z))
                      refine g_lload_n C 2 rfl dX5_digest_139 ?_
                      refine g_ldc2 C (v := 31) (C.ts _ (List.mem_of_getElem? (i := 3) rfl)) dX5_digest_140 ?_
                      refine g_lmul C (v := (s_dig2 (F i) (fun j => s_worth (F i j) (T i j)) (s_dig (fun w => s_sheet (F i) (T i) (nI w)) (s_digA F T (s_digP St We (s_dig (fun w => s_cnt cnt M St We pl F T (nI w)) 1069 10) 7) i) 6) j) * 31) dX5_digest_143 rfl ?_
                      refine g_aload_n C 3 rfl dX5_digest_144 ?_
                      refine g_getf C 85 (by omega) e23 rfl 2 (by decide) (fun w h => (List.mem_cons_of_mem _ (List.mem_append_right _ h))) (List.mem_of_getElem? (i := 5) rfl) rfl rfl dX5_digest_145 ?_
                      refine g_iload C 0 rfl dX5_digest_148 ?_
                      refine g_iald C 86 (by omega) m25 (30 * i + j) (congrArg nI (by omega)) (by omega) (by decide) dX5_digest_150 ?_
                      refine g_top (r9 i (by omega) j (by omega)) ?_
                      refine g_bipush C (v := nI 32) dX5_digest_151 (by decide) ?_
                      refine g_irem C (v := F i j) dX5_digest_153 (by decide) (enc_rem9 (hF i hi j (by omega))) ?_
                      refine g_i2l C (v := (F i j).toInt64) dX5_digest_154 rfl ?_
                      refine g_ladd C (v := ((s_dig2 (F i) (fun j => s_worth (F i j) (T i j)) (s_dig (fun w => s_sheet (F i) (T i) (nI w)) (s_digA F T (s_digP St We (s_dig (fun w => s_cnt cnt M St We pl F T (nI w)) 1069 10) 7) i) 6) j) * 31) + ((F i j).toInt64)) dX5_digest_155 rfl ?_
                      refine g_ldc2 C (v := 31) (C.ts _ (List.mem_of_getElem? (i := 3) rfl)) dX5_digest_156 ?_
                      refine g_lmul C (v := (((s_dig2 (F i) (fun j => s_worth (F i j) (T i j)) (s_dig (fun w => s_sheet (F i) (T i) (nI w)) (s_digA F T (s_digP St We (s_dig (fun w => s_cnt cnt M St We pl F T (nI w)) 1069 10) 7) i) 6) j) * 31) + ((F i j).toInt64)) * 31) dX5_digest_159 rfl ?_
                      refine g_aload_n C 3 rfl dX5_digest_160 ?_
                      refine g_getf C 85 (by omega) e23 rfl 2 (by decide) (fun w h => (List.mem_cons_of_mem _ (List.mem_append_right _ h))) (List.mem_of_getElem? (i := 5) rfl) rfl rfl dX5_digest_161 ?_
                      refine g_iload C 0 rfl dX5_digest_164 ?_
                      refine g_iald C 86 (by omega) m25 (30 * i + j) (congrArg nI (by omega)) (by omega) (by decide) dX5_digest_166 ?_
                      refine g_top (r9 i (by omega) j (by omega)) ?_
                      refine g_calli C (r_S C (st := [.long ((((s_dig2 (F i) (fun j => s_worth (F i j) (T i j)) (s_dig (fun w => s_sheet (F i) (T i) (nI w)) (s_digA F T (s_digP St We (s_dig (fun w => s_cnt cnt M St We pl F T (nI w)) 1069 10) 7) i) 6) j) * 31) + ((F i j).toInt64)) * 31)]) (c_X5_worth l V (enc (F i j) (T i j))) (va_cwS 1 C.ts gX5_digest_X5_worth rfl rfl rfl (by decide +kernel) ⟨(Nat.le_of_ble_eq_true rfl), (Nat.le_of_ble_eq_true rfl)⟩) rfl rfl (Nat.le_of_ble_eq_true rfl) dX5_digest_167 ⟨(Nat.le_of_ble_eq_true rfl), (Nat.le_of_ble_eq_true rfl)⟩) (fun r u hu => ?_)
                      rw [mw_enc (hF i hi j (by omega))] at hu
                      subst hu
                      refine g_i2l C (v := (s_worth (F i j) (T i j)).toInt64) dX5_digest_170 rfl ?_
                      refine g_ladd C (v := ((((s_dig2 (F i) (fun j => s_worth (F i j) (T i j)) (s_dig (fun w => s_sheet (F i) (T i) (nI w)) (s_digA F T (s_digP St We (s_dig (fun w => s_cnt cnt M St We pl F T (nI w)) 1069 10) 7) i) 6) j) * 31) + ((F i j).toInt64)) * 31) + ((s_worth (F i j) (T i j)).toInt64)) dX5_digest_171 rfl ?_
                      refine g_lstore_n C (lv' := [(1, .long (((((s_dig2 (F i) (fun j => s_worth (F i j) (T i j)) (s_dig (fun w => s_sheet (F i) (T i) (nI w)) (s_digA F T (s_digP St We (s_dig (fun w => s_cnt cnt M St We pl F T (nI w)) 1069 10) 7) i) 6) j) * 31) + ((F i j).toInt64)) * 31) + ((s_worth (F i j) (T i j)).toInt64))), (4, .int (nI (30 * i + j))), (3, .int (nI i)), (0, .ref (ad 85))]) dX5_digest_172 (by decide) rfl ?_
                      refine g_iinc C 1 rfl (v := nI (30 * i + j + 1)) (lv' := [(4, .int (nI (30 * i + j + 1))), (1, .long (((((s_dig2 (F i) (fun j => s_worth (F i j) (T i j)) (s_dig (fun w => s_sheet (F i) (T i) (nI w)) (s_digA F T (s_digP St We (s_dig (fun w => s_cnt cnt M St We pl F T (nI w)) 1069 10) 7) i) 6) j) * 31) + ((F i j).toInt64)) * 31) + ((s_worth (F i j) (T i j)).toInt64))), (3, .int (nI i)), (0, .ref (ad 85))]) dX5_digest_173 (nI_add _ _) (by decide) rfl ?_
                      refine g_goto C (tgt := 127) dX5_digest_176 (by decide) ?_
                      refine g_lv [0, 2, 1, 3] (lv' := [(4, .int (nI (30 * i + j + 1))), (3, .int (nI i)), (1, .long (((((s_dig2 (F i) (fun j => s_worth (F i j) (T i j)) (s_dig (fun w => s_sheet (F i) (T i) (nI w)) (s_digA F T (s_digP St We (s_dig (fun w => s_cnt cnt M St We pl F T (nI w)) 1069 10) 7) i) 6) j) * 31) + ((F i j).toInt64)) * 31) + ((s_worth (F i j) (T i j)).toInt64))), (0, .ref (ad 85))]) rfl ?_
                      exact jh
                · -- 100
                  have c97 : 6 < 6 := Nat.lt_of_not_le (fun z => c97 ((nI_leI (by omega) (by omega)).mpr z))
                  exact absurd c97 (by omega)
              · -- loop 93: its body
                refine g_iload C 0 rfl dX5_digest_93 ?_
                refine g_bipush C (v := nI 6) dX5_digest_95 (by decide) ?_
                refine g_icmp_ge C (tgt := 121) dX5_digest_97 (by decide) (fun c97 => ?_) (fun c97 => ?_)
                · -- 121
                  have c97 : 6 ≤ j := (nI_leI (by omega) (by omega)).mp c97
                  exact absurd c97 (by omega)
                · -- 100
                  have c97 : j < 6 := Nat.lt_of_not_le (fun z => c97 ((nI_leI (by omega) (by omega)).mpr z))
                  refine g_lload_n C 2 rfl dX5_digest_100 ?_
                  refine g_ldc2 C (v := 31) (C.ts _ (List.mem_of_getElem? (i := 3) rfl)) dX5_digest_101 ?_
                  refine g_lmul C (v := (s_dig (fun w => s_sheet (F i) (T i) (nI w)) (s_digA F T (s_digP St We (s_dig (fun w => s_cnt cnt M St We pl F T (nI w)) 1069 10) 7) i) j) * 31) dX5_digest_104 rfl ?_
                  refine g_aload_n C 3 rfl dX5_digest_105 ?_
                  refine g_iload_n C 1 rfl dX5_digest_106 ?_
                  refine g_iload C 0 rfl dX5_digest_107 ?_
                  refine g_calli C (r_V C (st := [.long ((s_dig (fun w => s_sheet (F i) (T i) (nI w)) (s_digA F T (s_digP St We (s_dig (fun w => s_cnt cnt M St We pl F T (nI w)) 1069 10) 7) i) j) * 31)]) (c_X5_sheetTold l V (by omega) (by omega) ⟨e23, ⟨_, m25, r9⟩, ⟨_, m26, r10⟩, ⟨_, m27, r11⟩, ⟨_, m28, r12⟩, ⟨_, m29, r13⟩, ⟨_, m30, r14⟩⟩ hF i (by omega) j (by omega)) (cwV 2 C.ts gX5_digest_X5_sheetTold rfl rfl rfl (by decide +kernel) ⟨(Nat.le_of_ble_eq_true rfl), (Nat.le_of_ble_eq_true rfl)⟩) (by omega) e23 rfl rfl rfl (Nat.le_of_ble_eq_true rfl) dX5_digest_109 ⟨(Nat.le_of_ble_eq_true rfl), (Nat.le_of_ble_eq_true rfl)⟩) (fun r u hu => ?_)
                  subst hu
                  refine g_i2l C (v := (s_sheet (F i) (T i) (nI j)).toInt64) dX5_digest_112 rfl ?_
                  refine g_ladd C (v := ((s_dig (fun w => s_sheet (F i) (T i) (nI w)) (s_digA F T (s_digP St We (s_dig (fun w => s_cnt cnt M St We pl F T (nI w)) 1069 10) 7) i) j) * 31) + ((s_sheet (F i) (T i) (nI j)).toInt64)) dX5_digest_113 rfl ?_
                  refine g_lstore_n C (lv' := [(1, .long (((s_dig (fun w => s_sheet (F i) (T i) (nI w)) (s_digA F T (s_digP St We (s_dig (fun w => s_cnt cnt M St We pl F T (nI w)) 1069 10) 7) i) j) * 31) + ((s_sheet (F i) (T i) (nI j)).toInt64))), (4, .int (nI j)), (3, .int (nI i)), (0, .ref (ad 85))]) dX5_digest_114 (by decide) rfl ?_
                  refine g_iinc C 1 rfl (v := nI (j + 1)) (lv' := [(4, .int (nI (j + 1))), (1, .long (((s_dig (fun w => s_sheet (F i) (T i) (nI w)) (s_digA F T (s_digP St We (s_dig (fun w => s_cnt cnt M St We pl F T (nI w)) 1069 10) 7) i) j) * 31) + ((s_sheet (F i) (T i) (nI j)).toInt64))), (3, .int (nI i)), (0, .ref (ad 85))]) dX5_digest_115 (nI_add _ _) (by decide) rfl ?_
                  refine g_goto C (tgt := 93) dX5_digest_118 (by decide) ?_
                  refine g_lv [0, 2, 1, 3] (lv' := [(4, .int (nI (j + 1))), (3, .int (nI i)), (1, .long (((s_dig (fun w => s_sheet (F i) (T i) (nI w)) (s_digA F T (s_digP St We (s_dig (fun w => s_cnt cnt M St We pl F T (nI w)) 1069 10) 7) i) j) * 31) + ((s_sheet (F i) (T i) (nI j)).toInt64))), (0, .ref (ad 85))]) rfl ?_
                  exact jh
        · -- 44
          have c41 : 7 < 7 := Nat.lt_of_not_le (fun z => c41 ((nI_leI (by omega) (by omega)).mpr z))
          exact absurd c41 (by omega)
      · -- loop 38: its body
        refine g_iload_n C 0 rfl dX5_digest_38 ?_
        refine g_bipush C (v := nI 7) dX5_digest_39 (by decide) ?_
        refine g_icmp_ge C (tgt := 80) dX5_digest_41 (by decide) (fun c41 => ?_) (fun c41 => ?_)
        · -- 80
          have c41 : 7 ≤ i := (nI_leI (by omega) (by omega)).mp c41
          exact absurd c41 (by omega)
        · -- 44
          have c41 : i < 7 := Nat.lt_of_not_le (fun z => c41 ((nI_leI (by omega) (by omega)).mpr z))
          refine g_iconst C (v := nI 0) dX5_digest_44 (by decide) ?_
          refine g_istore C (lv' := [(4, .int (nI 0)), (3, .int (nI i)), (1, .long (s_digP St We (s_dig (fun w => s_cnt cnt M St We pl F T (nI w)) 1069 10) i)), (0, .ref (ad 85))]) dX5_digest_45 (by decide) rfl ?_
          refine g_lv [0, 1, 2, 3] (lv' := [(4, .int (nI 0)), (3, .int (nI i)), (1, .long (s_digP St We (s_dig (fun w => s_cnt cnt M St We pl F T (nI w)) 1069 10) i)), (0, .ref (ad 85))]) rfl ?_
          refine g_for 4 (fun (j : Nat) => [(4, .int (nI j)), (3, .int (nI i)), (1, .long (s_dig (fun w => s_pin (St i) (We i) (nI w)) (s_digP St We (s_dig (fun w => s_cnt cnt M St We pl F T (nI w)) 1069 10) i) j)), (0, .ref (ad 85))]) ?_ (fun j hj jh => ?_)
          · -- loop 47: its end
            refine g_iload C 0 rfl dX5_digest_47 ?_
            refine g_iconst C (v := nI 4) dX5_digest_49 (by decide) ?_
            refine g_icmp_ge C (tgt := 74) dX5_digest_50 (by decide) (fun c50 => ?_) (fun c50 => ?_)
            · -- 74
              have c50 : 4 ≤ 4 := (nI_leI (by omega) (by omega)).mp c50
              refine g_iinc C 1 rfl (v := nI (i + 1)) (lv' := [(3, .int (nI (i + 1))), (4, .int (nI 4)), (1, .long (s_dig (fun w => s_pin (St i) (We i) (nI w)) (s_digP St We (s_dig (fun w => s_cnt cnt M St We pl F T (nI w)) 1069 10) i) 4)), (0, .ref (ad 85))]) dX5_digest_74 (nI_add _ _) (by decide) rfl ?_
              refine g_goto C (tgt := 38) dX5_digest_77 (by decide) ?_
              refine g_lv [0, 2, 3] (lv' := [(3, .int (nI (i + 1))), (1, .long (s_dig (fun w => s_pin (St i) (We i) (nI w)) (s_digP St We (s_dig (fun w => s_cnt cnt M St We pl F T (nI w)) 1069 10) i) 4)), (0, .ref (ad 85))]) rfl ?_
              exact ih
            · -- 53
              have c50 : 4 < 4 := Nat.lt_of_not_le (fun z => c50 ((nI_leI (by omega) (by omega)).mpr z))
              exact absurd c50 (by omega)
          · -- loop 47: its body
            refine g_iload C 0 rfl dX5_digest_47 ?_
            refine g_iconst C (v := nI 4) dX5_digest_49 (by decide) ?_
            refine g_icmp_ge C (tgt := 74) dX5_digest_50 (by decide) (fun c50 => ?_) (fun c50 => ?_)
            · -- 74
              have c50 : 4 ≤ j := (nI_leI (by omega) (by omega)).mp c50
              exact absurd c50 (by omega)
            · -- 53
              have c50 : j < 4 := Nat.lt_of_not_le (fun z => c50 ((nI_leI (by omega) (by omega)).mpr z))
              refine g_lload_n C 2 rfl dX5_digest_53 ?_
              refine g_ldc2 C (v := 31) (C.ts _ (List.mem_of_getElem? (i := 3) rfl)) dX5_digest_54 ?_
              refine g_lmul C (v := (s_dig (fun w => s_pin (St i) (We i) (nI w)) (s_digP St We (s_dig (fun w => s_cnt cnt M St We pl F T (nI w)) 1069 10) i) j) * 31) dX5_digest_57 rfl ?_
              refine g_aload_n C 3 rfl dX5_digest_58 ?_
              refine g_iload_n C 1 rfl dX5_digest_59 ?_
              refine g_iload C 0 rfl dX5_digest_60 ?_
              refine g_calli C (r_V C (st := [.long ((s_dig (fun w => s_pin (St i) (We i) (nI w)) (s_digP St We (s_dig (fun w => s_cnt cnt M St We pl F T (nI w)) 1069 10) i) j) * 31)]) (c_X5_pinTold l V (by omega) (by omega) ⟨e23, ⟨_, m25, r9⟩, ⟨_, m26, r10⟩, ⟨_, m27, r11⟩, ⟨_, m28, r12⟩, ⟨_, m29, r13⟩, ⟨_, m30, r14⟩⟩ hP i (by omega) (nI j)) (cwV 2 C.ts gX5_digest_X5_pinTold rfl rfl rfl (by decide +kernel) ⟨(Nat.le_of_ble_eq_true rfl), (Nat.le_of_ble_eq_true rfl)⟩) (by omega) e23 rfl rfl rfl (Nat.le_of_ble_eq_true rfl) dX5_digest_62 ⟨(Nat.le_of_ble_eq_true rfl), (Nat.le_of_ble_eq_true rfl)⟩) (fun r u hu => ?_)
              subst hu
              refine g_i2l C (v := (s_pin (St i) (We i) (nI j)).toInt64) dX5_digest_65 rfl ?_
              refine g_ladd C (v := ((s_dig (fun w => s_pin (St i) (We i) (nI w)) (s_digP St We (s_dig (fun w => s_cnt cnt M St We pl F T (nI w)) 1069 10) i) j) * 31) + ((s_pin (St i) (We i) (nI j)).toInt64)) dX5_digest_66 rfl ?_
              refine g_lstore_n C (lv' := [(1, .long (((s_dig (fun w => s_pin (St i) (We i) (nI w)) (s_digP St We (s_dig (fun w => s_cnt cnt M St We pl F T (nI w)) 1069 10) i) j) * 31) + ((s_pin (St i) (We i) (nI j)).toInt64))), (4, .int (nI j)), (3, .int (nI i)), (0, .ref (ad 85))]) dX5_digest_67 (by decide) rfl ?_
              refine g_iinc C 1 rfl (v := nI (j + 1)) (lv' := [(4, .int (nI (j + 1))), (1, .long (((s_dig (fun w => s_pin (St i) (We i) (nI w)) (s_digP St We (s_dig (fun w => s_cnt cnt M St We pl F T (nI w)) 1069 10) i) j) * 31) + ((s_pin (St i) (We i) (nI j)).toInt64))), (3, .int (nI i)), (0, .ref (ad 85))]) dX5_digest_68 (nI_add _ _) (by decide) rfl ?_
              refine g_goto C (tgt := 47) dX5_digest_71 (by decide) ?_
              refine g_lv [0, 2, 1, 3] (lv' := [(4, .int (nI (j + 1))), (3, .int (nI i)), (1, .long (((s_dig (fun w => s_pin (St i) (We i) (nI w)) (s_digP St We (s_dig (fun w => s_cnt cnt M St We pl F T (nI w)) 1069 10) i) j) * 31) + ((s_pin (St i) (We i) (nI j)).toInt64))), (0, .ref (ad 85))]) rfl ?_
              exact jh
    · -- 17
      have c14 : 10 < 10 := Nat.lt_of_not_le (fun z => c14 ((nI_leI (by omega) (by omega)).mpr z))
      exact absurd c14 (by omega)
  · -- loop 11: its body
    refine g_iload_n C 0 rfl dX5_digest_11 ?_
    refine g_bipush C (v := nI 10) dX5_digest_12 (by decide) ?_
    refine g_icmp_ge C (tgt := 36) dX5_digest_14 (by decide) (fun c14 => ?_) (fun c14 => ?_)
    · -- 36
      have c14 : 10 ≤ i := (nI_leI (by omega) (by omega)).mp c14
      exact absurd c14 (by omega)
    · -- 17
      have c14 : i < 10 := Nat.lt_of_not_le (fun z => c14 ((nI_leI (by omega) (by omega)).mpr z))
      refine g_lload_n C 1 rfl dX5_digest_17 ?_
      refine g_ldc2 C (v := 31) (C.ts _ (List.mem_of_getElem? (i := 3) rfl)) dX5_digest_18 ?_
      refine g_lmul C (v := (s_dig (fun w => s_cnt cnt M St We pl F T (nI w)) 1069 i) * 31) dX5_digest_21 rfl ?_
      refine g_aload_n C 2 rfl dX5_digest_22 ?_
      refine g_iload_n C 0 rfl dX5_digest_23 ?_
      refine g_calli C (r_V C (st := [.long ((s_dig (fun w => s_cnt cnt M St We pl F T (nI w)) 1069 i) * 31)]) (c_X5_counted l V (by omega) (by omega) ⟨e23, ⟨_, m25, r9⟩, ⟨_, m26, r10⟩, ⟨_, m27, r11⟩, ⟨_, m28, r12⟩, ⟨_, m29, r13⟩, ⟨_, m30, r14⟩⟩ hF (nI i) (in_nat_le (w := i) (by omega) rfl)) (cwV 1 C.ts gX5_digest_X5_counted rfl rfl rfl (by decide +kernel) ⟨(Nat.le_of_ble_eq_true rfl), (Nat.le_of_ble_eq_true rfl)⟩) (by omega) e23 rfl rfl rfl (Nat.le_of_ble_eq_true rfl) dX5_digest_24 ⟨(Nat.le_of_ble_eq_true rfl), (Nat.le_of_ble_eq_true rfl)⟩) (fun r u hu => ?_)
      subst hu
      refine g_i2l C (v := (s_cnt cnt M St We pl F T (nI i)).toInt64) dX5_digest_27 rfl ?_
      refine g_ladd C (v := ((s_dig (fun w => s_cnt cnt M St We pl F T (nI w)) 1069 i) * 31) + ((s_cnt cnt M St We pl F T (nI i)).toInt64)) dX5_digest_28 rfl ?_
      refine g_lstore_n C (lv' := [(1, .long (((s_dig (fun w => s_cnt cnt M St We pl F T (nI w)) 1069 i) * 31) + ((s_cnt cnt M St We pl F T (nI i)).toInt64))), (3, .int (nI i)), (0, .ref (ad 85))]) dX5_digest_29 (by decide) rfl ?_
      refine g_iinc C 1 rfl (v := nI (i + 1)) (lv' := [(3, .int (nI (i + 1))), (1, .long (((s_dig (fun w => s_cnt cnt M St We pl F T (nI w)) 1069 i) * 31) + ((s_cnt cnt M St We pl F T (nI i)).toInt64))), (0, .ref (ad 85))]) dX5_digest_30 (nI_add _ _) (by decide) rfl ?_
      refine g_goto C (tgt := 11) dX5_digest_33 (by decide) ?_
      refine g_lv [0, 1, 2] (lv' := [(3, .int (nI (i + 1))), (1, .long (((s_dig (fun w => s_cnt cnt M St We pl F T (nI w)) 1069 i) * 31) + ((s_cnt cnt M St We pl F T (nI i)).toInt64))), (0, .ref (ad 85))]) rfl ?_
      exact ih
