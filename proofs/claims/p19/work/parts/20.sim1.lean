/-! ===== the law's own machine: worth, broken ===== -/
def s_wt (x t : Int32) : Int32 := if t = 0 ∧ x - x / 8 * 8 = 0 then (if x = 0 then 1 else if x = 8 then 21 else if x = 16 then 5 else 25) else 0
set_option maxRecDepth 100000 in
theorem s_wt_a : ∀ w, w < 32 → s_wt (nI w) 0 = s_worth (nI w) 0 := by decide +kernel
theorem s_wt_eq {x : Int32} (t : Int32) (h : F32 x) : s_wt x t = s_worth x t := by
  obtain ⟨w, hw, rfl⟩ := h
  by_cases e : t = 0
  · subst e; exact s_wt_a w hw
  · rw [s_wt, s_worth, if_neg (fun z => e z.1), if_neg (fun z => e z.1)]

set_option maxHeartbeats 4000000 in
set_option maxRecDepth 100000 in
theorem c_X5_worth (l : Launch) (V : gT) {n : Nat} {ad : Nat → Nat} {el : Nat → va_E} (x t : Int32) : TT l V yX5_worth wsX5_worth { frames := 0, cells := 0, slots := 0, locals := 0 } n ad el [.int x, .int t] (QIr V n ad el (fun r => r = s_wt x t)) 0 0 := by
  refine TT.body (cc := cX5_worth) (maxL := 2) (ret := (some .int)) (by decide) rfl (Nat.le_of_ble_eq_true rfl) ?_
  intro p e s m below meth c C hnm
  refine g_lv [0, 1] (lv' := [(0, .int x), (1, .int t)]) rfl ?_
  refine g_iload_n C 1 rfl dX5_worth_0 ?_
  refine g_if_ne C (tgt := 11) dX5_worth_1 (by decide) (fun c1 => ?_) (fun c1 => ?_)
  · -- 11
    refine g_iconst C (v := nI 0) dX5_worth_11 (by decide) ?_
    exact g_iret C rfl dX5_worth_12 () rfl rfl rfl (by rw [s_wt, if_neg (fun z => c1 z.1)] <;> rfl) (Nat.le_of_ble_eq_true rfl) (Nat.le_of_ble_eq_true rfl)
  · -- 4
    refine g_iload_n C 0 rfl dX5_worth_4 ?_
    refine g_bipush C (v := nI 8) dX5_worth_5 (by decide) ?_
    refine g_irem C (v := x - x / 8 * 8) dX5_worth_7 (by decide) rfl ?_
    refine g_if_eq C (tgt := 13) dX5_worth_8 (by decide) (fun c8 => ?_) (fun c8 => ?_)
    · -- 13
      refine g_iload_n C 0 rfl dX5_worth_13 ?_
      refine g_if_ne C (tgt := 21) dX5_worth_14 (by decide) (fun c14 => ?_) (fun c14 => ?_)
      · -- 21
        refine g_iload_n C 0 rfl dX5_worth_21 ?_
        refine g_bipush C (v := nI 8) dX5_worth_22 (by decide) ?_
        refine g_icmp_ne C (tgt := 32) dX5_worth_24 (by decide) (fun c24 => ?_) (fun c24 => ?_)
        · -- 32
          refine g_iload_n C 0 rfl dX5_worth_32 ?_
          refine g_bipush C (v := nI 16) dX5_worth_33 (by decide) ?_
          refine g_icmp_ne C (tgt := 42) dX5_worth_35 (by decide) (fun c35 => ?_) (fun c35 => ?_)
          · -- 42
            refine g_bipush C (v := nI 25) dX5_worth_42 (by decide) ?_
            exact g_iret C rfl dX5_worth_44 () rfl rfl rfl (by rw [s_wt, if_pos ⟨c1, c8⟩, if_neg (show ¬ x = 0 from c14), if_neg (show ¬ x = 8 from c24), if_neg (show ¬ x = 16 from c35)] <;> rfl) (Nat.le_of_ble_eq_true rfl) (Nat.le_of_ble_eq_true rfl)
          · -- 38
            refine g_iconst C (v := nI 5) dX5_worth_38 (by decide) ?_
            refine g_goto C (tgt := 44) dX5_worth_39 (by decide) ?_
            exact g_iret C rfl dX5_worth_44 () rfl rfl rfl (by rw [s_wt, if_pos ⟨c1, c8⟩, if_neg (show ¬ x = 0 from c14), if_neg (show ¬ x = 8 from c24), if_pos (show x = 16 from c35)] <;> rfl) (Nat.le_of_ble_eq_true rfl) (Nat.le_of_ble_eq_true rfl)
        · -- 27
          refine g_bipush C (v := nI 21) dX5_worth_27 (by decide) ?_
          refine g_goto C (tgt := 44) dX5_worth_29 (by decide) ?_
          exact g_iret C rfl dX5_worth_44 () rfl rfl rfl (by rw [s_wt, if_pos ⟨c1, c8⟩, if_neg (show ¬ x = 0 from c14), if_pos (show x = 8 from c24)] <;> rfl) (Nat.le_of_ble_eq_true rfl) (Nat.le_of_ble_eq_true rfl)
      · -- 17
        refine g_iconst C (v := nI 1) dX5_worth_17 (by decide) ?_
        refine g_goto C (tgt := 44) dX5_worth_18 (by decide) ?_
        exact g_iret C rfl dX5_worth_44 () rfl rfl rfl (by rw [s_wt, if_pos ⟨c1, c8⟩, if_pos (show x = 0 from c14)] <;> rfl) (Nat.le_of_ble_eq_true rfl) (Nat.le_of_ble_eq_true rfl)
    · -- 11
      refine g_iconst C (v := nI 0) dX5_worth_11 (by decide) ?_
      exact g_iret C rfl dX5_worth_12 () rfl rfl rfl (by rw [s_wt, if_neg (fun z => c8 z.2)] <;> rfl) (Nat.le_of_ble_eq_true rfl) (Nat.le_of_ble_eq_true rfl)

theorem s_bk01 (st we : Int32) : (if s_bk st we = 0 then (0 : Int32) else 1) = if we ≤ st then 0 else 1 := by
  unfold s_bk
  by_cases h : we ≤ st
  · rw [if_pos h]; rfl
  · rw [if_neg h]; rfl

set_option maxHeartbeats 4000000 in
set_option maxRecDepth 100000 in
theorem c_X5_broken (l : Launch) (V : gT) {n : Nat} {ad : Nat → Nat} {el : Nat → va_E} {B cnt : Nat} {M St We pl : Nat → Int32} {F T : Nat → Nat → Int32} (hB : 97 ≤ B) (hc : cnt ≤ 20) (hn : B + 12 * cnt ≤ n) (hs : SimAt V ad el B cnt M St We pl F T) : TT l V yX5_broken wsX5_broken { frames := 0, cells := 0, slots := 0, locals := 0 } n ad el [.ref (ad 85)] (QIr V n ad el (fun r => r = s_broken St We)) 0 0 := by
  refine TT.body (cc := cX5_broken) (maxL := 6) (ret := (some .int)) (by decide) rfl (Nat.le_of_ble_eq_true rfl) ?_
  intro p e s m below meth c C hnm
  refine g_lv [0] (lv' := [(0, .ref (ad 85))]) rfl ?_
  obtain ⟨y1, y2, y3, y4, y5, y6, y7, y8⟩ := id hs
  obtain ⟨g9, h10, z11⟩ := id y2
  obtain ⟨g12, h13, z14⟩ := id y3
  obtain ⟨g15, h16, z17⟩ := id y4
  obtain ⟨⟨g18, h19, z20⟩, r21⟩ := id y5
  obtain ⟨g22, h23, z24⟩ := id y6
  obtain ⟨g25, h26, z27⟩ := id y7
  refine g_iconst C (v := nI 0) dX5_broken_0 (by decide) ?_
  refine g_istore_n C (lv' := [(1, .int (nI 0)), (0, .ref (ad 85))]) dX5_broken_1 (by decide) rfl ?_
  refine g_aload_n C 1 rfl dX5_broken_2 ?_
  refine g_getf C 85 (by omega) y1 rfl 8 (by decide) (fun w h => (List.mem_cons_of_mem _ (List.mem_append_right _ h))) (List.mem_of_getElem? (i := 1) rfl) rfl rfl dX5_broken_3 ?_
  refine g_astore_n C (lv' := [(2, .ref (ad 88)), (1, .int (nI 0)), (0, .ref (ad 85))]) dX5_broken_6 (by decide) rfl ?_
  refine g_aload_n C 0 rfl dX5_broken_7 ?_
  refine g_alen C 88 (by omega) 1 rfl h16 (v := nI 7) rfl dX5_broken_8 ?_
  refine g_istore_n C (lv' := [(3, .int (nI 7)), (2, .ref (ad 88)), (1, .int (nI 0)), (0, .ref (ad 85))]) dX5_broken_9 (by decide) rfl ?_
  refine g_iconst C (v := nI 0) dX5_broken_10 (by decide) ?_
  refine g_istore C (lv' := [(4, .int (nI 0)), (3, .int (nI 7)), (2, .ref (ad 88)), (1, .int (nI 0)), (0, .ref (ad 85))]) dX5_broken_11 (by decide) rfl ?_
  refine g_lv [0, 3, 2, 1] (lv' := [(4, .int (nI 0)), (1, .int (nI 0)), (2, .ref (ad 88)), (3, .int (nI 7))]) rfl ?_
  refine g_for 7 (fun (i : Nat) => [(4, .int (nI i)), (1, .int (s_sum (fun i => if We i ≤ St i then 0 else 1) i)), (2, .ref (ad 88)), (3, .int (nI 7))]) ?_ (fun i hi ih => ?_)
  · -- loop 13: its end
    refine g_iload C 0 rfl dX5_broken_13 ?_
    refine g_iload_n C 3 rfl dX5_broken_15 ?_
    refine g_icmp_ge C (tgt := 44) dX5_broken_16 (by decide) (fun c16 => ?_) (fun c16 => ?_)
    rotate_left
    · exact absurd c16 (by decide)
    refine g_iload_n C 1 rfl dX5_broken_44 ?_
    exact g_iret C rfl dX5_broken_45 () rfl rfl rfl rfl (Nat.le_of_ble_eq_true rfl) (Nat.le_of_ble_eq_true rfl)
  · -- loop 13: its body
    refine g_iload C 0 rfl dX5_broken_13 ?_
    refine g_iload_n C 3 rfl dX5_broken_15 ?_
    refine g_icmp_ge C (tgt := 44) dX5_broken_16 (by decide) (fun c16 => ?_) (fun c16 => ?_)
    · -- 44
      have c16 : 7 ≤ i := (nI_leI (by omega) (by omega)).mp c16
      exact absurd c16 (by omega)
    · -- 19
      have c16 : i < 7 := Nat.lt_of_not_le (fun z => c16 ((nI_leI (by omega) (by omega)).mpr z))
      refine g_aload_n C 2 rfl dX5_broken_19 ?_
      refine g_iload C 0 rfl dX5_broken_20 ?_
      refine g_zald C 88 (by omega) h16 i rfl (by omega) (by decide) dX5_broken_22 ?_
      refine g_top ((z17 i (by omega)) : g15 i = s_bk (St i) (We i)) ?_
      refine g_istore C (lv' := [(5, .int (s_bk (St i) (We i))), (4, .int (nI i)), (1, .int (s_sum (fun i => if We i ≤ St i then 0 else 1) i)), (2, .ref (ad 88)), (3, .int (nI 7))]) dX5_broken_23 (by decide) rfl ?_
      refine g_iload_n C 2 rfl dX5_broken_25 ?_
      refine g_iload C 0 rfl dX5_broken_26 ?_
      refine g_via (fun v : Int32 => v = if s_bk (St i) (We i) = 0 then 0 else 1) 36 (fun _ => [(5, .int (s_bk (St i) (We i))), (4, .int (nI i)), (1, .int (s_sum (fun i => if We i ≤ St i then 0 else 1) i)), (2, .ref (ad 88)), (3, .int (nI 7))]) (fun v => .int v :: [.int (s_sum (fun i => if We i ≤ St i then 0 else 1) i)]) (fun v hv => ?_) (fun J => ?_)
      · -- join
        subst hv
        refine g_iadd C (v := (s_sum (fun i => if We i ≤ St i then 0 else 1) i) + (if s_bk (St i) (We i) = 0 then 0 else 1)) dX5_broken_36 rfl ?_
        refine g_istore_n C (lv' := [(1, .int ((s_sum (fun i => if We i ≤ St i then 0 else 1) i) + (if s_bk (St i) (We i) = 0 then 0 else 1))), (5, .int (s_bk (St i) (We i))), (4, .int (nI i)), (2, .ref (ad 88)), (3, .int (nI 7))]) dX5_broken_37 (by decide) rfl ?_
        refine g_iinc C 2 rfl (v := nI (i + 1)) (lv' := [(4, .int (nI (i + 1))), (1, .int ((s_sum (fun i => if We i ≤ St i then 0 else 1) i) + (if s_bk (St i) (We i) = 0 then 0 else 1))), (5, .int (s_bk (St i) (We i))), (2, .ref (ad 88)), (3, .int (nI 7))]) dX5_broken_38 (nI_add _ _) (by decide) rfl ?_
        refine g_goto C (tgt := 13) dX5_broken_41 (by decide) ?_
        refine g_lv [0, 1, 3, 4] (lv' := [(4, .int (nI (i + 1))), (1, .int ((s_sum (fun i => if We i ≤ St i then 0 else 1) i) + (if s_bk (St i) (We i) = 0 then 0 else 1))), (2, .ref (ad 88)), (3, .int (nI 7))]) rfl ?_
        have e9 : s_sum (fun i => if We i ≤ St i then 0 else 1) (i + 1) = s_sum (fun i => if We i ≤ St i then 0 else 1) i + (if s_bk (St i) (We i) = 0 then 0 else 1) := by rw [s_sum, s_bk01]
        refine g_lveq (lv' := [(4, .int (nI (i + 1))), (1, .int (s_sum (fun i => if We i ≤ St i then 0 else 1) (i + 1))), (2, .ref (ad 88)), (3, .int (nI 7))]) (by rw [e9]) ?_
        exact ih
      · -- ways
        refine g_if_eq C (tgt := 35) dX5_broken_28 (by decide) (fun c28 => ?_) (fun c28 => ?_)
        · -- 35
          refine g_iconst C (v := nI 0) dX5_broken_35 (by decide) ?_
          refine g_lv [0, 1, 2, 3, 4] (lv' := [(5, .int (s_bk (St i) (We i))), (4, .int (nI i)), (1, .int (s_sum (fun i => if We i ≤ St i then 0 else 1) i)), (2, .ref (ad 88)), (3, .int (nI 7))]) rfl ?_
          exact J _ ((if_pos c28).symm)
        · -- 31
          refine g_iconst C (v := nI 1) dX5_broken_31 (by decide) ?_
          refine g_goto C (tgt := 36) dX5_broken_32 (by decide) ?_
          refine g_lv [0, 1, 2, 3, 4] (lv' := [(5, .int (s_bk (St i) (We i))), (4, .int (nI i)), (1, .int (s_sum (fun i => if We i ≤ St i then 0 else 1) i)), (2, .ref (ad 88)), (3, .int (nI 7))]) rfl ?_
          exact J _ ((if_neg c28).symm)
