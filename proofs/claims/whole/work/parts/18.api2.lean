/-! ===== the class: share, digest, foresee, advise ===== -/
set_option maxHeartbeats 4000000 in
set_option maxRecDepth 100000 in
theorem c_X4_share (l : Launch) (V : gT) {n : Nat} {ad : Nat → Nat} {el : Nat → va_E} {cnt : Nat} {M St We pl : Nat → Int32} {F T : Nat → Nat → Int32} (hn : 85 ≤ n) (hc : cnt ≤ 20) (h : X4At V ad el cnt M St We pl F T) : TT l V yX4_share wsX4_share { frames := 3, cells := 0, slots := 0, locals := 68 } n ad el [.ref (ad 0)] (QDr V n ad el (fun r => r = s_share F T cnt)) 0 0 := by
  refine TT.body (cc := cX4_share) (maxL := 2) (ret := (some .double)) (by decide) rfl (Nat.le_of_ble_eq_true rfl) ?_
  intro p e s m below meth c C hnm
  refine g_lv [0] (lv' := [(0, .ref (ad 0))]) rfl ?_
  obtain ⟨x1, x2, ⟨ta, tb, tM, tS, tW, tf, x3⟩, x4, ⟨g, x5, x6⟩, x7⟩ := id h
  obtain ⟨hM1, ⟨g2, hA3, hg4⟩, hp5⟩ := id x2
  refine g_bipush C (v := nI 30) dX4_share_0 (by decide) ?_
  refine g_aload_n C 0 rfl dX4_share_2 ?_
  refine g_getf C 0 (by omega) x1 rfl 4 (by decide) (fun w h => (List.mem_cons_of_mem _ (List.mem_append_left _ (List.mem_append_right _ h)))) (List.mem_of_getElem? (i := 1) rfl) rfl rfl dX4_share_3 ?_
  refine g_imul C (v := nI (30 * cnt)) dX4_share_6 (pk_mul _ _) ?_
  refine g_istore_n C (lv' := [(1, .int (nI (30 * cnt))), (0, .ref (ad 0))]) dX4_share_7 (by decide) rfl ?_
  refine g_iload_n C 0 rfl dX4_share_8 ?_
  refine g_if_ne C (tgt := 14) dX4_share_9 (by decide) (fun c9 => ?_) (fun c9 => ?_)
  · have hpos : 0 < cnt := by
      rcases Nat.eq_zero_or_pos cnt with e | e
      · subst e; exact absurd rfl c9
      · exact e
    refine g_aload_n C 1 rfl dX4_share_14 ?_
    refine g_iconst C (v := nI 0) dX4_share_15 (by decide) ?_
    refine g_calli C (r_V C (st := []) (c_X4_stampsWith l V (by omega) (by omega) h 0) (cwV 1 C.ts gX4_share_X4_stampsWith rfl rfl rfl (by decide +kernel) ⟨(Nat.le_of_ble_eq_true rfl), (Nat.le_of_ble_eq_true rfl)⟩) (by omega) x1 rfl rfl rfl (Nat.le_of_ble_eq_true rfl) dX4_share_16 ⟨(Nat.le_of_ble_eq_true rfl), (Nat.le_of_ble_eq_true rfl)⟩) (fun r u hu => ?_)
    subst hu
    refine g_i2d C dX4_share_19 ?_
    refine g_iload_n C 0 rfl dX4_share_20 ?_
    refine g_i2d C dX4_share_21 ?_
    refine g_ddiv C dX4_share_22 (s_share_n64 hc hpos) ?_
    exact g_dret C rfl dX4_share_23 () rfl rfl rfl (if_neg (by omega)).symm (Nat.le_of_ble_eq_true rfl) (Nat.le_of_ble_eq_true rfl)
  · have hz : cnt = 0 := by
      rcases Nat.eq_zero_or_pos cnt with e | e
      · exact e
      · exact absurd c9 (nI_ne0 (by omega) (by omega))
    refine g_dconst0 C dX4_share_12 ?_
    exact g_dret C rfl dX4_share_13 () rfl rfl rfl (if_pos hz).symm (Nat.le_of_ble_eq_true rfl) (Nat.le_of_ble_eq_true rfl)

set_option maxHeartbeats 4000000 in
set_option maxRecDepth 100000 in
theorem c_X4_digest (l : Launch) (V : gT) {n : Nat} {ad : Nat → Nat} {el : Nat → va_E} {cnt : Nat} {M St We pl : Nat → Int32} {F T : Nat → Nat → Int32} (hn : 85 ≤ n) (hc : cnt ≤ 20) (h : X4At V ad el cnt M St We pl F T) : TT l V yX4_digest wsX4_digest { frames := 5, cells := 0, slots := 0, locals := 117 } n ad el [.ref (ad 0)] (QLr V n ad el (fun r => r = s_digest cnt M St We pl F T)) 0 0 := by
  refine TT.body (cc := cX4_digest) (maxL := 5) (ret := (some .long)) (by decide) rfl (Nat.le_of_ble_eq_true rfl) ?_
  intro p e s m below meth c C hnm
  refine g_lv [0] (lv' := [(0, .ref (ad 0))]) rfl ?_
  obtain ⟨x1, x2, ⟨ta, tb, tM, tS, tW, tf, x3⟩, x4, ⟨g, x5, x6⟩, x7⟩ := id h
  obtain ⟨hM1, ⟨g2, hA3, hg4⟩, hp5⟩ := id x2
  refine g_ldc2 C (v := 1069) (C.ts _ (List.mem_of_getElem? (i := 1) rfl)) dX4_digest_0 ?_
  refine g_lstore_n C (lv' := [(1, .long 1069), (0, .ref (ad 0))]) dX4_digest_3 (by decide) rfl ?_
  refine g_iconst C (v := nI 0) dX4_digest_4 (by decide) ?_
  refine g_istore_n C (lv' := [(3, .int (nI 0)), (1, .long 1069), (0, .ref (ad 0))]) dX4_digest_5 (by decide) rfl ?_
  refine g_lv [0, 1, 2] (lv' := [(3, .int (nI 0)), (1, .long 1069), (0, .ref (ad 0))]) rfl ?_
  refine g_for 10 (fun (i : Nat) => [(3, .int (nI i)), (1, .long (s_dig (fun w => s_cnt cnt M St We pl F T (nI w)) 1069 i)), (0, .ref (ad 0))]) ?_ (fun i hi ih => ?_)
  · -- loop 6: its end
    refine g_iload_n C 0 rfl dX4_digest_6 ?_
    refine g_bipush C (v := nI 10) dX4_digest_7 (by decide) ?_
    refine g_icmp_ge C (tgt := 31) dX4_digest_9 (by decide) (fun c9 => ?_) (fun c9 => ?_)
    · -- 31
      have c9 : 10 ≤ 10 := (nI_leI (by omega) (by omega)).mp c9
      refine g_iconst C (v := nI 0) dX4_digest_31 (by decide) ?_
      refine g_istore_n C (lv' := [(3, .int (nI 0)), (1, .long (s_dig (fun w => s_cnt cnt M St We pl F T (nI w)) 1069 10)), (0, .ref (ad 0))]) dX4_digest_32 (by decide) rfl ?_
      refine g_lv [0, 1, 2] (lv' := [(3, .int (nI 0)), (1, .long (s_dig (fun w => s_cnt cnt M St We pl F T (nI w)) 1069 10)), (0, .ref (ad 0))]) rfl ?_
      refine g_for 7 (fun (i : Nat) => [(3, .int (nI i)), (1, .long (s_digP St We (s_dig (fun w => s_cnt cnt M St We pl F T (nI w)) 1069 10) i)), (0, .ref (ad 0))]) ?_ (fun i hi ih => ?_)
      · -- loop 33: its end
        refine g_iload_n C 0 rfl dX4_digest_33 ?_
        refine g_bipush C (v := nI 7) dX4_digest_34 (by decide) ?_
        refine g_icmp_ge C (tgt := 82) dX4_digest_36 (by decide) (fun c36 => ?_) (fun c36 => ?_)
        · -- 82
          have c36 : 7 ≤ 7 := (nI_leI (by omega) (by omega)).mp c36
          refine g_iconst C (v := nI 0) dX4_digest_82 (by decide) ?_
          refine g_istore_n C (lv' := [(3, .int (nI 0)), (1, .long (s_digP St We (s_dig (fun w => s_cnt cnt M St We pl F T (nI w)) 1069 10) 7)), (0, .ref (ad 0))]) dX4_digest_83 (by decide) rfl ?_
          refine g_lv [0, 1, 2] (lv' := [(3, .int (nI 0)), (1, .long (s_digP St We (s_dig (fun w => s_cnt cnt M St We pl F T (nI w)) 1069 10) 7)), (0, .ref (ad 0))]) rfl ?_
          refine g_for cnt (fun (i : Nat) => [(3, .int (nI i)), (1, .long (s_digA F T (s_digP St We (s_dig (fun w => s_cnt cnt M St We pl F T (nI w)) 1069 10) 7) i)), (0, .ref (ad 0))]) ?_ (fun i hi ih => ?_)
          · -- loop 84: its end
            refine g_iload_n C 0 rfl dX4_digest_84 ?_
            refine g_aload_n C 2 rfl dX4_digest_85 ?_
            refine g_getf C 0 (by omega) x1 rfl 4 (by decide) (fun w h => (List.mem_cons_of_mem _ (List.mem_append_left _ (List.mem_append_left _ (List.mem_append_left _ (List.mem_append_right _ h)))))) (List.mem_of_getElem? (i := 4) rfl) rfl rfl dX4_digest_86 ?_
            refine g_icmp_ge C (tgt := 109) dX4_digest_89 (by decide) (fun c89 => ?_) (fun c89 => ?_)
            · -- 109
              have c89 : cnt ≤ cnt := (nI_leI (by omega) (by omega)).mp c89
              refine g_lload_n C 1 rfl dX4_digest_109 ?_
              exact g_lret C rfl dX4_digest_110 () rfl rfl rfl rfl (Nat.le_of_ble_eq_true rfl) (Nat.le_of_ble_eq_true rfl)
            · -- 92
              have c89 : cnt < cnt := Nat.lt_of_not_le (fun z => c89 ((nI_leI (by omega) (by omega)).mpr z))
              exact absurd c89 (by omega)
          · -- loop 84: its body
            refine g_iload_n C 0 rfl dX4_digest_84 ?_
            refine g_aload_n C 2 rfl dX4_digest_85 ?_
            refine g_getf C 0 (by omega) x1 rfl 4 (by decide) (fun w h => (List.mem_cons_of_mem _ (List.mem_append_left _ (List.mem_append_left _ (List.mem_append_left _ (List.mem_append_right _ h)))))) (List.mem_of_getElem? (i := 4) rfl) rfl rfl dX4_digest_86 ?_
            refine g_icmp_ge C (tgt := 109) dX4_digest_89 (by decide) (fun c89 => ?_) (fun c89 => ?_)
            · -- 109
              have c89 : cnt ≤ i := (nI_leI (by omega) (by omega)).mp c89
              exact absurd c89 (by omega)
            · -- 92
              have c89 : i < cnt := Nat.lt_of_not_le (fun z => c89 ((nI_leI (by omega) (by omega)).mpr z))
              refine g_aload_n C 2 rfl dX4_digest_92 ?_
              refine g_getf C 0 (by omega) x1 rfl 3 (by decide) (fun w h => (List.mem_cons_of_mem _ (List.mem_append_left _ (List.mem_append_left _ (List.mem_append_left _ (List.mem_append_right _ h)))))) (List.mem_of_getElem? (i := 5) rfl) rfl rfl dX4_digest_93 ?_
              refine g_iload_n C 0 rfl dX4_digest_96 ?_
              refine g_aald C 24 (by omega) 4 rfl x5 i rfl (by omega) (by decide) (x6 i (by omega)) dX4_digest_97 ?_
              obtain ⟨hs6, ha7, hb8⟩ := id (x7 i (by omega))
              refine g_lload_n C 1 rfl dX4_digest_98 ?_
              refine g_calll C (r_V C (st := []) (c_X2_addToDigest l V (by omega) hs6 ha7 hb8 (s_digA F T (s_digP St We (s_dig (fun w => s_cnt cnt M St We pl F T (nI w)) 1069 10) 7) i)) (cwV 1 C.ts gX4_digest_X2_addToDigest rfl rfl rfl (by decide +kernel) ⟨(Nat.le_of_ble_eq_true rfl), (Nat.le_of_ble_eq_true rfl)⟩) (by omega) hs6 rfl rfl rfl (Nat.le_of_ble_eq_true rfl) dX4_digest_99 ⟨(Nat.le_of_ble_eq_true rfl), (Nat.le_of_ble_eq_true rfl)⟩) (fun r u hu => ?_)
              subst hu
              refine g_lstore_n C (lv' := [(1, .long (s_digS (F i) (T i) (s_digA F T (s_digP St We (s_dig (fun w => s_cnt cnt M St We pl F T (nI w)) 1069 10) 7) i))), (3, .int (nI i)), (0, .ref (ad 0))]) dX4_digest_102 (by decide) rfl ?_
              refine g_iinc C 1 rfl (v := nI (i + 1)) (lv' := [(3, .int (nI (i + 1))), (1, .long (s_digS (F i) (T i) (s_digA F T (s_digP St We (s_dig (fun w => s_cnt cnt M St We pl F T (nI w)) 1069 10) 7) i))), (0, .ref (ad 0))]) dX4_digest_103 (nI_add _ _) (by decide) rfl ?_
              refine g_goto C (tgt := 84) dX4_digest_106 (by decide) ?_
              refine g_lv [0, 1, 2] (lv' := [(3, .int (nI (i + 1))), (1, .long (s_digS (F i) (T i) (s_digA F T (s_digP St We (s_dig (fun w => s_cnt cnt M St We pl F T (nI w)) 1069 10) 7) i))), (0, .ref (ad 0))]) rfl ?_
              exact ih
        · -- 39
          have c36 : 7 < 7 := Nat.lt_of_not_le (fun z => c36 ((nI_leI (by omega) (by omega)).mpr z))
          exact absurd c36 (by omega)
      · -- loop 33: its body
        refine g_iload_n C 0 rfl dX4_digest_33 ?_
        refine g_bipush C (v := nI 7) dX4_digest_34 (by decide) ?_
        refine g_icmp_ge C (tgt := 82) dX4_digest_36 (by decide) (fun c36 => ?_) (fun c36 => ?_)
        · -- 82
          have c36 : 7 ≤ i := (nI_leI (by omega) (by omega)).mp c36
          exact absurd c36 (by omega)
        · -- 39
          have c36 : i < 7 := Nat.lt_of_not_le (fun z => c36 ((nI_leI (by omega) (by omega)).mpr z))
          refine g_iconst C (v := nI 0) dX4_digest_39 (by decide) ?_
          refine g_istore C (lv' := [(4, .int (nI 0)), (3, .int (nI i)), (1, .long (s_digP St We (s_dig (fun w => s_cnt cnt M St We pl F T (nI w)) 1069 10) i)), (0, .ref (ad 0))]) dX4_digest_40 (by decide) rfl ?_
          refine g_lv [0, 1, 2, 3] (lv' := [(4, .int (nI 0)), (3, .int (nI i)), (1, .long (s_digP St We (s_dig (fun w => s_cnt cnt M St We pl F T (nI w)) 1069 10) i)), (0, .ref (ad 0))]) rfl ?_
          refine g_for 4 (fun (j : Nat) => [(4, .int (nI j)), (3, .int (nI i)), (1, .long (s_dig (fun w => s_pin (St i) (We i) (nI w)) (s_digP St We (s_dig (fun w => s_cnt cnt M St We pl F T (nI w)) 1069 10) i) j)), (0, .ref (ad 0))]) ?_ (fun j hj jh => ?_)
          · -- loop 42: its end
            refine g_iload C 0 rfl dX4_digest_42 ?_
            refine g_iconst C (v := nI 4) dX4_digest_44 (by decide) ?_
            refine g_icmp_ge C (tgt := 76) dX4_digest_45 (by decide) (fun c45 => ?_) (fun c45 => ?_)
            · -- 76
              have c45 : 4 ≤ 4 := (nI_leI (by omega) (by omega)).mp c45
              refine g_iinc C 1 rfl (v := nI (i + 1)) (lv' := [(3, .int (nI (i + 1))), (4, .int (nI 4)), (1, .long (s_dig (fun w => s_pin (St i) (We i) (nI w)) (s_digP St We (s_dig (fun w => s_cnt cnt M St We pl F T (nI w)) 1069 10) i) 4)), (0, .ref (ad 0))]) dX4_digest_76 (nI_add _ _) (by decide) rfl ?_
              refine g_goto C (tgt := 33) dX4_digest_79 (by decide) ?_
              refine g_lv [0, 2, 3] (lv' := [(3, .int (nI (i + 1))), (1, .long (s_dig (fun w => s_pin (St i) (We i) (nI w)) (s_digP St We (s_dig (fun w => s_cnt cnt M St We pl F T (nI w)) 1069 10) i) 4)), (0, .ref (ad 0))]) rfl ?_
              exact ih
            · -- 48
              have c45 : 4 < 4 := Nat.lt_of_not_le (fun z => c45 ((nI_leI (by omega) (by omega)).mpr z))
              exact absurd c45 (by omega)
          · -- loop 42: its body
            refine g_iload C 0 rfl dX4_digest_42 ?_
            refine g_iconst C (v := nI 4) dX4_digest_44 (by decide) ?_
            refine g_icmp_ge C (tgt := 76) dX4_digest_45 (by decide) (fun c45 => ?_) (fun c45 => ?_)
            · -- 76
              have c45 : 4 ≤ j := (nI_leI (by omega) (by omega)).mp c45
              exact absurd c45 (by omega)
            · -- 48
              have c45 : j < 4 := Nat.lt_of_not_le (fun z => c45 ((nI_leI (by omega) (by omega)).mpr z))
              refine g_lload_n C 2 rfl dX4_digest_48 ?_
              refine g_ldc2 C (v := 31) (C.ts _ (List.mem_of_getElem? (i := 2) rfl)) dX4_digest_49 ?_
              refine g_lmul C (v := (s_dig (fun w => s_pin (St i) (We i) (nI w)) (s_digP St We (s_dig (fun w => s_cnt cnt M St We pl F T (nI w)) 1069 10) i) j) * 31) dX4_digest_52 rfl ?_
              refine g_aload_n C 3 rfl dX4_digest_53 ?_
              refine g_getf C 0 (by omega) x1 rfl 0 (by decide) (fun w h => (List.mem_cons_of_mem _ (List.mem_append_left _ (List.mem_append_left _ (List.mem_append_left _ (List.mem_append_right _ h)))))) (List.mem_of_getElem? (i := 3) rfl) rfl rfl dX4_digest_54 ?_
              refine g_getfN C 1 (by omega) hM1 rfl 0 (by decide) (fun w h => (List.mem_cons_of_mem _ (List.mem_append_left _ (List.mem_append_left _ (List.mem_append_right _ h))))) (List.mem_of_getElem? (i := 3) rfl) rfl rfl dX4_digest_57 ?_
              refine g_iload_n C 1 rfl dX4_digest_60 ?_
              refine g_aald C 2 (by omega) 3 rfl hA3 i rfl (by omega) (by decide) (hg4 i (by omega)) dX4_digest_61 ?_
              refine g_iload C 0 rfl dX4_digest_62 ?_
              refine g_calli C (r_V C (st := [.long ((s_dig (fun w => s_pin (St i) (We i) (nI w)) (s_digP St We (s_dig (fun w => s_cnt cnt M St We pl F T (nI w)) 1069 10) i) j) * 31)]) (c_X1_answer l V (nI j) (by omega) (hp5 i (by omega))) (cwV 1 C.ts gX4_digest_X1_answer rfl rfl rfl (by decide +kernel) ⟨(Nat.le_of_ble_eq_true rfl), (Nat.le_of_ble_eq_true rfl)⟩) (by omega) (hp5 i (by omega)) rfl rfl rfl (Nat.le_of_ble_eq_true rfl) dX4_digest_64 ⟨(Nat.le_of_ble_eq_true rfl), (Nat.le_of_ble_eq_true rfl)⟩) (fun r u hu => ?_)
              subst hu
              refine g_i2l C (v := (s_pin (St i) (We i) (nI j)).toInt64) dX4_digest_67 rfl ?_
              refine g_ladd C (v := ((s_dig (fun w => s_pin (St i) (We i) (nI w)) (s_digP St We (s_dig (fun w => s_cnt cnt M St We pl F T (nI w)) 1069 10) i) j) * 31) + ((s_pin (St i) (We i) (nI j)).toInt64)) dX4_digest_68 rfl ?_
              refine g_lstore_n C (lv' := [(1, .long (((s_dig (fun w => s_pin (St i) (We i) (nI w)) (s_digP St We (s_dig (fun w => s_cnt cnt M St We pl F T (nI w)) 1069 10) i) j) * 31) + ((s_pin (St i) (We i) (nI j)).toInt64))), (4, .int (nI j)), (3, .int (nI i)), (0, .ref (ad 0))]) dX4_digest_69 (by decide) rfl ?_
              refine g_iinc C 1 rfl (v := nI (j + 1)) (lv' := [(4, .int (nI (j + 1))), (1, .long (((s_dig (fun w => s_pin (St i) (We i) (nI w)) (s_digP St We (s_dig (fun w => s_cnt cnt M St We pl F T (nI w)) 1069 10) i) j) * 31) + ((s_pin (St i) (We i) (nI j)).toInt64))), (3, .int (nI i)), (0, .ref (ad 0))]) dX4_digest_70 (nI_add _ _) (by decide) rfl ?_
              refine g_goto C (tgt := 42) dX4_digest_73 (by decide) ?_
              refine g_lv [0, 2, 1, 3] (lv' := [(4, .int (nI (j + 1))), (3, .int (nI i)), (1, .long (((s_dig (fun w => s_pin (St i) (We i) (nI w)) (s_digP St We (s_dig (fun w => s_cnt cnt M St We pl F T (nI w)) 1069 10) i) j) * 31) + ((s_pin (St i) (We i) (nI j)).toInt64))), (0, .ref (ad 0))]) rfl ?_
              exact jh
    · -- 12
      have c9 : 10 < 10 := Nat.lt_of_not_le (fun z => c9 ((nI_leI (by omega) (by omega)).mpr z))
      exact absurd c9 (by omega)
  · -- loop 6: its body
    refine g_iload_n C 0 rfl dX4_digest_6 ?_
    refine g_bipush C (v := nI 10) dX4_digest_7 (by decide) ?_
    refine g_icmp_ge C (tgt := 31) dX4_digest_9 (by decide) (fun c9 => ?_) (fun c9 => ?_)
    · -- 31
      have c9 : 10 ≤ i := (nI_leI (by omega) (by omega)).mp c9
      exact absurd c9 (by omega)
    · -- 12
      have c9 : i < 10 := Nat.lt_of_not_le (fun z => c9 ((nI_leI (by omega) (by omega)).mpr z))
      refine g_lload_n C 1 rfl dX4_digest_12 ?_
      refine g_ldc2 C (v := 31) (C.ts _ (List.mem_of_getElem? (i := 2) rfl)) dX4_digest_13 ?_
      refine g_lmul C (v := (s_dig (fun w => s_cnt cnt M St We pl F T (nI w)) 1069 i) * 31) dX4_digest_16 rfl ?_
      refine g_aload_n C 2 rfl dX4_digest_17 ?_
      refine g_iload_n C 0 rfl dX4_digest_18 ?_
      refine g_calli C (r_V C (st := [.long ((s_dig (fun w => s_cnt cnt M St We pl F T (nI w)) 1069 i) * 31)]) (c_X4_countAnswer l V (by omega) (by omega) h (nI i)) (cwV 1 C.ts gX4_digest_X4_countAnswer rfl rfl rfl (by decide +kernel) ⟨(Nat.le_of_ble_eq_true rfl), (Nat.le_of_ble_eq_true rfl)⟩) (by omega) x1 rfl rfl rfl (Nat.le_of_ble_eq_true rfl) dX4_digest_19 ⟨(Nat.le_of_ble_eq_true rfl), (Nat.le_of_ble_eq_true rfl)⟩) (fun r u hu => ?_)
      subst hu
      refine g_i2l C (v := (s_cnt cnt M St We pl F T (nI i)).toInt64) dX4_digest_22 rfl ?_
      refine g_ladd C (v := ((s_dig (fun w => s_cnt cnt M St We pl F T (nI w)) 1069 i) * 31) + ((s_cnt cnt M St We pl F T (nI i)).toInt64)) dX4_digest_23 rfl ?_
      refine g_lstore_n C (lv' := [(1, .long (((s_dig (fun w => s_cnt cnt M St We pl F T (nI w)) 1069 i) * 31) + ((s_cnt cnt M St We pl F T (nI i)).toInt64))), (3, .int (nI i)), (0, .ref (ad 0))]) dX4_digest_24 (by decide) rfl ?_
      refine g_iinc C 1 rfl (v := nI (i + 1)) (lv' := [(3, .int (nI (i + 1))), (1, .long (((s_dig (fun w => s_cnt cnt M St We pl F T (nI w)) 1069 i) * 31) + ((s_cnt cnt M St We pl F T (nI i)).toInt64))), (0, .ref (ad 0))]) dX4_digest_25 (nI_add _ _) (by decide) rfl ?_
      refine g_goto C (tgt := 6) dX4_digest_28 (by decide) ?_
      refine g_lv [0, 1, 2] (lv' := [(3, .int (nI (i + 1))), (1, .long (((s_dig (fun w => s_cnt cnt M St We pl F T (nI w)) 1069 i) * 31) + ((s_cnt cnt M St We pl F T (nI i)).toInt64))), (0, .ref (ad 0))]) rfl ?_
      exact ih

set_option maxHeartbeats 4000000 in
set_option maxRecDepth 100000 in
theorem c_X4_foresee (l : Launch) (V : gT) (hlt : l.stackTraces = false) {n : Nat} {ad : Nat → Nat} {el : Nat → va_E} {cnt : Nat} {M St We pl : Nat → Int32} {F T : Nat → Nat → Int32} (hn : 85 ≤ n) (hc : cnt ≤ 20) (h : X4At V ad el cnt M St We pl F T) (x y : Int32) : TX l V yX4_foresee wsX4_foresee { frames := 7, cells := 2, slots := 12, locals := 117 } n ad el [.ref (ad 0), .int x, .int y] (QIw V n ad (fun r u => ∃ N : Nat, 1 ≤ N ∧ N ≤ 20 ∧ x = nI N ∧ (0 ≤ y ∧ y ≤ 4 - 1) ∧ r = s_fore M St We pl N y ∧ X4At V ad u cnt M St We pl F T ∧ ∀ j, 85 ≤ j → u j = el j)) (fun E => (E = x_IA ∧ ¬ (1 ≤ x ∧ x ≤ 20)) ∨ (E = x_IB ∧ (1 ≤ x ∧ x ≤ 20) ∧ ¬ (0 ≤ y ∧ y ≤ 4 - 1))) 2 12 := by
  refine TX.body (cc := cX4_foresee) (maxL := 3) (ret := (some .int)) (by decide) rfl (Nat.le_of_ble_eq_true rfl) ?_
  intro p e s m below meth c C ht
  refine g_lv [0, 1, 2] (lv' := [(0, .ref (ad 0)), (1, .int x), (2, .int y)]) rfl ?_
  obtain ⟨x1, x2, ⟨ta, tb, tM, tS, tW, tf, x3⟩, x4, ⟨g, x5, x6⟩, x7⟩ := id h
  obtain ⟨hM1, ⟨g2, hA3, hg4⟩, hp5⟩ := id x2
  refine g_iload_n C 1 rfl dX4_foresee_0 ?_
  refine g_xcallv C (r_xS C (st := []) (c_X4_checkSheetsToRun l V hlt x) (va_cwS 1 C.ts gX4_foresee_X4_checkSheetsToRun rfl rfl rfl (by decide +kernel) ⟨(Nat.le_of_ble_eq_true rfl), (Nat.le_of_ble_eq_true rfl)⟩) rfl rfl (Nat.le_of_ble_eq_true rfl) dX4_foresee_1 ⟨(Nat.le_of_ble_eq_true rfl), (Nat.le_of_ble_eq_true rfl)⟩) (fun E hE => ?_) (fun u hu => ?_)
  · -- throws
    exact g_out C ht (Or.inl hE) (Nat.le_of_ble_eq_true rfl) (Nat.le_of_ble_eq_true rfl)
  obtain ⟨N, hN1, hN, rfl⟩ := in_nat1 hu
  have hx := hu
  refine g_iload_n C 2 rfl dX4_foresee_4 ?_
  refine g_iconst C (v := nI 4) dX4_foresee_5 (by decide) ?_
  refine g_xcallv C (r_xS C (st := []) (c_X4_checkWhat l V hlt y 4) (va_cwS 2 C.ts gX4_foresee_X4_checkWhat rfl rfl rfl (by decide +kernel) ⟨(Nat.le_of_ble_eq_true rfl), (Nat.le_of_ble_eq_true rfl)⟩) rfl rfl (Nat.le_of_ble_eq_true rfl) dX4_foresee_6 ⟨(Nat.le_of_ble_eq_true rfl), (Nat.le_of_ble_eq_true rfl)⟩) (fun E hE => ?_) (fun u hu => ?_)
  · -- throws
    exact g_out C ht (Or.inr ⟨hE.1, hx, hE.2⟩) (Nat.le_of_ble_eq_true rfl) (Nat.le_of_ble_eq_true rfl)
  have hw := hu
  refine g_aload_n C 0 rfl dX4_foresee_9 ?_
  refine g_getf C 0 (by omega) x1 rfl 1 (by decide) (fun w h => (List.mem_cons_of_mem _ (List.mem_append_left _ (List.mem_append_left _ (List.mem_append_left _ (List.mem_append_left _ (List.mem_append_left _ (List.mem_append_left _ (List.mem_append_right _ h))))))))) (List.mem_of_getElem? (i := 1) rfl) rfl rfl dX4_foresee_10 ?_
  refine g_aload_n C 0 rfl dX4_foresee_13 ?_
  refine g_getf C 0 (by omega) x1 rfl 0 (by decide) (fun w h => (List.mem_cons_of_mem _ (List.mem_append_left _ (List.mem_append_left _ (List.mem_append_left _ (List.mem_append_left _ (List.mem_append_left _ (List.mem_append_left _ (List.mem_append_right _ h))))))))) (List.mem_of_getElem? (i := 2) rfl) rfl rfl dX4_foresee_14 ?_
  refine g_aload_n C 0 rfl dX4_foresee_17 ?_
  refine g_getf C 0 (by omega) x1 rfl 0 (by decide) (fun w h => (List.mem_cons_of_mem _ (List.mem_append_left _ (List.mem_append_left _ (List.mem_append_left _ (List.mem_append_left _ (List.mem_append_left _ (List.mem_append_left _ (List.mem_append_right _ h))))))))) (List.mem_of_getElem? (i := 2) rfl) rfl rfl dX4_foresee_18 ?_
  refine g_getfN C 1 (by omega) hM1 rfl 1 (by decide) (fun w h => (List.mem_cons_of_mem _ (List.mem_append_left _ (List.mem_append_left _ (List.mem_append_left _ (List.mem_append_left _ (List.mem_append_left _ (List.mem_append_right _ h)))))))) (List.mem_of_getElem? (i := 5) rfl) rfl rfl dX4_foresee_21 ?_
  refine g_aload_n C 0 rfl dX4_foresee_24 ?_
  refine g_getf C 0 (by omega) x1 rfl 2 (by decide) (fun w h => (List.mem_cons_of_mem _ (List.mem_append_left _ (List.mem_append_left _ (List.mem_append_left _ (List.mem_append_left _ (List.mem_append_left _ (List.mem_append_left _ (List.mem_append_right _ h))))))))) (List.mem_of_getElem? (i := 3) rfl) rfl rfl dX4_foresee_25 ?_
  refine g_iload_n C 1 rfl dX4_foresee_28 ?_
  have ht8 := x3.1
  refine g_callv C (r_V C (st := []) (c_X3_perforateFrom l V (k := 10) (k2 := 1) (kp := 23) (by omega) (by omega) (by omega) x3 ⟨hM1, ⟨_, hA3, fun i hi => (hg4 i hi)⟩, hp5⟩ (by omega) x4 (by omega) (M 0) N (by omega)) (cwV 4 C.ts gX4_foresee_X3_perforateFrom rfl rfl rfl (by decide +kernel) ⟨(Nat.le_of_ble_eq_true rfl), (Nat.le_of_ble_eq_true rfl)⟩) (by omega) ht8 rfl rfl rfl (Nat.le_of_ble_eq_true rfl) dX4_foresee_29 ⟨(Nat.le_of_ble_eq_true rfl), (Nat.le_of_ble_eq_true rfl)⟩) (fun u hu => ?_)
  obtain ⟨⟨f1, u1⟩, u2⟩ := hu
  have m6 := (u2 (0) (by omega)).trans x1
  have m7 := (u2 (1) (by omega)).trans hM1
  have m8 := (u2 (2) (by omega)).trans hA3
  have m9 := (u2 (23) (by omega)).trans x4
  have m10 := (u2 (24) (by omega)).trans x5
  have m11 : ∀ q, q < 7 → u (3 + q) = .inr (1, [.int (St q), .int (We q)]) := fun q hq => (u2 (3 + q) (by omega)).trans (hp5 q hq)
  have P12 : ∀ i, i < 20 → ShtAt V ad u (25 + 3 * i) (F i) (T i) := fun i hi => (x7 i hi).keep (fun j h1 h2 => u2 (j) (by omega))
  refine g_aload_n C 0 rfl dX4_foresee_32 ?_
  refine g_getf C 0 (by omega) m6 rfl 1 (by decide) (fun w h => (List.mem_cons_of_mem _ (List.mem_append_left _ (List.mem_append_left _ (List.mem_append_left _ (List.mem_append_left _ (List.mem_append_left _ (List.mem_append_left _ (List.mem_append_right _ h))))))))) (List.mem_of_getElem? (i := 1) rfl) rfl rfl dX4_foresee_33 ?_
  have ht9 := u1.1
  refine g_iload_n C 2 rfl dX4_foresee_36 ?_
  refine g_calli C (r_V C (st := []) (c_X3_answer l V (k := 10) (by omega) u1 y) (cwV 1 C.ts gX4_foresee_X3_answer rfl rfl rfl (by decide +kernel) ⟨(Nat.le_of_ble_eq_true rfl), (Nat.le_of_ble_eq_true rfl)⟩) (by omega) ht9 rfl rfl rfl (Nat.le_of_ble_eq_true rfl) dX4_foresee_37 ⟨(Nat.le_of_ble_eq_true rfl), (Nat.le_of_ble_eq_true rfl)⟩) (fun r v hv => ?_)
  subst hv
  exact g_x (g_iret C rfl dX4_foresee_40 u rfl rfl rfl ⟨N, hN1, hN, rfl, hw, rfl, ⟨m6, ⟨m7, ⟨_, m8, fun i hi => (hg4 i hi)⟩, m11⟩, ⟨_, _, _, _, _, _, u1⟩, m9, ⟨_, m10, x6⟩, P12⟩, fun j hj => u2 j (by omega)⟩ (Nat.le_of_ble_eq_true rfl) (Nat.le_of_ble_eq_true rfl))

set_option maxHeartbeats 4000000 in
set_option maxRecDepth 100000 in
theorem c_X4_advise (l : Launch) (V : gT) (hlt : l.stackTraces = false) {n : Nat} {ad : Nat → Nat} {el : Nat → va_E} {cnt : Nat} {M St We pl : Nat → Int32} {F T : Nat → Nat → Int32} (hn : 85 ≤ n) (hc : cnt ≤ 20) (h : X4At V ad el cnt M St We pl F T) (x : Int32) : TX l V yX4_advise wsX4_advise { frames := 7, cells := 1, slots := 6, locals := 117 } n ad el [.ref (ad 0), .int x] (QIw V n ad (fun r u => ∃ N : Nat, 1 ≤ N ∧ N ≤ 20 ∧ x = nI N ∧ r = s_adv M St We pl N ∧ X4At V ad u cnt M St We pl F T ∧ ∀ j, 85 ≤ j → u j = el j)) (fun E => E = x_IA ∧ ¬ (1 ≤ x ∧ x ≤ 20)) 1 6 := by
  refine TX.body (cc := cX4_advise) (maxL := 5) (ret := (some .int)) (by decide) rfl (Nat.le_of_ble_eq_true rfl) ?_
  intro p e s m below meth c C ht
  refine g_lv [0, 1] (lv' := [(0, .ref (ad 0)), (1, .int x)]) rfl ?_
  obtain ⟨x1, x2, ⟨ta, tb, tM, tS, tW, tf, x3⟩, x4, ⟨g, x5, x6⟩, x7⟩ := id h
  obtain ⟨hM1, ⟨g2, hA3, hg4⟩, hp5⟩ := id x2
  refine g_iload_n C 1 rfl dX4_advise_0 ?_
  refine g_xcallv C (r_xS C (st := []) (c_X4_checkSheetsToRun l V hlt x) (va_cwS 1 C.ts gX4_advise_X4_checkSheetsToRun rfl rfl rfl (by decide +kernel) ⟨(Nat.le_of_ble_eq_true rfl), (Nat.le_of_ble_eq_true rfl)⟩) rfl rfl (Nat.le_of_ble_eq_true rfl) dX4_advise_1 ⟨(Nat.le_of_ble_eq_true rfl), (Nat.le_of_ble_eq_true rfl)⟩) (fun E hE => ?_) (fun u hu => ?_)
  · -- throws
    exact g_out C ht hE (Nat.le_of_ble_eq_true rfl) (Nat.le_of_ble_eq_true rfl)
  obtain ⟨N, hN1, hN, rfl⟩ := in_nat1 hu
  have hx := hu
  refine g_bipush C (v := nI 10) dX4_advise_4 (by decide) ?_
  refine g_istore_n C (lv' := [(2, .int (nI 10)), (0, .ref (ad 0)), (1, .int (nI N))]) dX4_advise_6 (by decide) rfl ?_
  refine g_iconst C (v := (-1)) dX4_advise_7 (by decide) ?_
  refine g_istore_n C (lv' := [(3, .int ((-1))), (2, .int (nI 10)), (0, .ref (ad 0)), (1, .int (nI N))]) dX4_advise_8 (by decide) rfl ?_
  refine g_bipush C (v := nI 10) dX4_advise_9 (by decide) ?_
  refine g_istore C (lv' := [(4, .int (nI 10)), (3, .int ((-1))), (2, .int (nI 10)), (0, .ref (ad 0)), (1, .int (nI N))]) dX4_advise_11 (by decide) rfl ?_
  refine g_lv [0, 1, 2, 3, 4] (lv' := [(4, .int (nI 10)), (3, .int ((-1))), (2, .int (nI 10)), (0, .ref (ad 0)), (1, .int (nI N))]) rfl ?_
  refine g_forE 21 (fun (i : Nat) => [(4, .int (nI (10 + i))), (3, .int (s_best1 (fun i => s_tC (upd M 0 (nI (10 + i))) St We pl (fun _ => 0) N) i)), (2, .int (s_best (fun i => s_tC (upd M 0 (nI (10 + i))) St We pl (fun _ => 0) N) i)), (0, .ref (ad 0)), (1, .int (nI N))]) (fun i el1 => X4At V ad el1 cnt M St We pl F T ∧ ∀ j, 85 ≤ j → el1 j = el j) ⟨h, fun j _ => rfl⟩ (fun el1 h1 => ?_) (fun i el1 hi h1 ih => ?_)
  · -- loop 13: its end
    obtain ⟨x1, x2, ⟨ta, tb, tM, tS, tW, tf, x3⟩, x4, ⟨g, x5, x6⟩, x7⟩ := id h1.1
    obtain ⟨hM6, ⟨g7, hA8, hg9⟩, hp10⟩ := id x2
    refine g_iload C 0 rfl dX4_advise_13 ?_
    refine g_bipush C (v := nI 30) dX4_advise_15 (by decide) ?_
    refine g_icmp_gt C (tgt := 66) dX4_advise_17 (by decide) (fun c17 => ?_) (fun c17 => ?_)
    · -- 66
      have c17 : 30 < (10 + 21) := (nI_ltI (by omega) (by omega)).mp c17
      refine g_iload_n C 2 rfl dX4_advise_66 ?_
      exact g_x (g_iret C rfl dX4_advise_67 el1 rfl rfl rfl ⟨N, hN1, hN, rfl, rfl, h1.1, h1.2⟩ (Nat.le_of_ble_eq_true rfl) (Nat.le_of_ble_eq_true rfl))
    · -- 20
      have c17 : (10 + 21) ≤ 30 := Nat.le_of_not_lt (fun z => c17 ((nI_ltI (by omega) (by omega)).mpr z))
      exact absurd c17 (by omega)
  · -- loop 13: its body
    obtain ⟨x1, x2, ⟨ta, tb, tM, tS, tW, tf, x3⟩, x4, ⟨g, x5, x6⟩, x7⟩ := id h1.1
    obtain ⟨hM11, ⟨g12, hA13, hg14⟩, hp15⟩ := id x2
    refine g_iload C 0 rfl dX4_advise_13 ?_
    refine g_bipush C (v := nI 30) dX4_advise_15 (by decide) ?_
    refine g_icmp_gt C (tgt := 66) dX4_advise_17 (by decide) (fun c17 => ?_) (fun c17 => ?_)
    · -- 66
      have c17 : 30 < (10 + i) := (nI_ltI (by omega) (by omega)).mp c17
      exact absurd c17 (by omega)
    · -- 20
      have c17 : (10 + i) ≤ 30 := Nat.le_of_not_lt (fun z => c17 ((nI_ltI (by omega) (by omega)).mpr z))
      refine g_aload_n C 3 rfl dX4_advise_20 ?_
      refine g_getf C 0 (by omega) x1 rfl 1 (by decide) (fun w h => (List.mem_cons_of_mem _ (List.mem_append_left _ (List.mem_append_left _ (List.mem_append_left _ (List.mem_append_left _ (List.mem_append_left _ (List.mem_append_right _ h)))))))) (List.mem_of_getElem? (i := 1) rfl) rfl rfl dX4_advise_21 ?_
      refine g_aload_n C 3 rfl dX4_advise_24 ?_
      refine g_getf C 0 (by omega) x1 rfl 0 (by decide) (fun w h => (List.mem_cons_of_mem _ (List.mem_append_left _ (List.mem_append_left _ (List.mem_append_left _ (List.mem_append_left _ (List.mem_append_left _ (List.mem_append_right _ h)))))))) (List.mem_of_getElem? (i := 2) rfl) rfl rfl dX4_advise_25 ?_
      refine g_iload C 0 rfl dX4_advise_28 ?_
      refine g_aload_n C 3 rfl dX4_advise_30 ?_
      refine g_getf C 0 (by omega) x1 rfl 2 (by decide) (fun w h => (List.mem_cons_of_mem _ (List.mem_append_left _ (List.mem_append_left _ (List.mem_append_left _ (List.mem_append_left _ (List.mem_append_left _ (List.mem_append_right _ h)))))))) (List.mem_of_getElem? (i := 3) rfl) rfl rfl dX4_advise_31 ?_
      refine g_iload_n C 4 rfl dX4_advise_34 ?_
      have ht8 := x3.1
      refine g_callv C (r_V C (st := []) (c_X3_perforateFrom l V (k := 10) (k2 := 1) (kp := 23) (by omega) (by omega) (by omega) x3 ⟨hM11, ⟨_, hA13, fun i hi => (hg14 i hi)⟩, hp15⟩ (by omega) x4 (by omega) (nI (10 + i)) N (by omega)) (cwV 4 C.ts gX4_advise_X3_perforateFrom rfl rfl rfl (by decide +kernel) ⟨(Nat.le_of_ble_eq_true rfl), (Nat.le_of_ble_eq_true rfl)⟩) (by omega) ht8 rfl rfl rfl (Nat.le_of_ble_eq_true rfl) dX4_advise_35 ⟨(Nat.le_of_ble_eq_true rfl), (Nat.le_of_ble_eq_true rfl)⟩) (fun u hu => ?_)
      obtain ⟨⟨f1, u1⟩, u2⟩ := hu
      have m16 := (u2 (0) (by omega)).trans x1
      have m17 := (u2 (1) (by omega)).trans hM11
      have m18 := (u2 (2) (by omega)).trans hA13
      have m19 := (u2 (23) (by omega)).trans x4
      have m20 := (u2 (24) (by omega)).trans x5
      have m21 : ∀ q, q < 7 → u (3 + q) = .inr (1, [.int (St q), .int (We q)]) := fun q hq => (u2 (3 + q) (by omega)).trans (hp15 q hq)
      have P22 : ∀ i, i < 20 → ShtAt V ad u (25 + 3 * i) (F i) (T i) := fun i hi => (x7 i hi).keep (fun j h1 h2 => u2 (j) (by omega))
      refine g_aload_n C 3 rfl dX4_advise_38 ?_
      refine g_getf C 0 (by omega) m16 rfl 1 (by decide) (fun w h => (List.mem_cons_of_mem _ (List.mem_append_left _ (List.mem_append_left _ (List.mem_append_left _ (List.mem_append_left _ (List.mem_append_left _ (List.mem_append_right _ h)))))))) (List.mem_of_getElem? (i := 1) rfl) rfl rfl dX4_advise_39 ?_
      have ht9 := u1.1
      refine g_getfN C 10 (by omega) ht9 rfl 2 (by decide) (fun w h => (List.mem_cons_of_mem _ (List.mem_append_left _ (List.mem_append_left _ (List.mem_append_left _ (List.mem_append_left _ (List.mem_append_right _ h))))))) (List.mem_of_getElem? (i := 15) rfl) rfl rfl dX4_advise_42 ?_
      refine g_iload_n C 1 rfl dX4_advise_45 ?_
      refine g_icmp_le C (tgt := 60) dX4_advise_46 (by decide) (fun c46 => ?_) (fun c46 => ?_)
      · -- 60
        refine g_iinc C 0 rfl (v := nI (10 + i + 1)) (lv' := [(4, .int (nI (10 + i + 1))), (3, .int (s_best1 (fun i => s_tC (upd M 0 (nI (10 + i))) St We pl (fun _ => 0) N) i)), (2, .int (s_best (fun i => s_tC (upd M 0 (nI (10 + i))) St We pl (fun _ => 0) N) i)), (0, .ref (ad 0)), (1, .int (nI N))]) dX4_advise_60 (nI_add _ _) (by decide) rfl ?_
        refine g_goto C (tgt := 13) dX4_advise_63 (by decide) ?_
        refine g_lv [0, 1, 2, 3, 4] (lv' := [(4, .int (nI (10 + i + 1))), (3, .int (s_best1 (fun i => s_tC (upd M 0 (nI (10 + i))) St We pl (fun _ => 0) N) i)), (2, .int (s_best (fun i => s_tC (upd M 0 (nI (10 + i))) St We pl (fun _ => 0) N) i)), (0, .ref (ad 0)), (1, .int (nI N))]) rfl ?_
        have e8 : s_best (fun i => s_tC (upd M 0 (nI (10 + i))) St We pl (fun _ => 0) N) (i + 1) = s_best (fun i => s_tC (upd M 0 (nI (10 + i))) St We pl (fun _ => 0) N) i := if_pos c46
        have e9 : s_best1 (fun i => s_tC (upd M 0 (nI (10 + i))) St We pl (fun _ => 0) N) (i + 1) = s_best1 (fun i => s_tC (upd M 0 (nI (10 + i))) St We pl (fun _ => 0) N) i := if_pos c46
        refine g_lveq (lv' := [(4, .int (nI (10 + (i + 1)))), (3, .int (s_best1 (fun i => s_tC (upd M 0 (nI (10 + i))) St We pl (fun _ => 0) N) (i + 1))), (2, .int (s_best (fun i => s_tC (upd M 0 (nI (10 + i))) St We pl (fun _ => 0) N) (i + 1))), (0, .ref (ad 0)), (1, .int (nI N))]) (by rw [e8, e9] <;> rfl) ?_
        exact ih _ ⟨⟨m16, ⟨m17, ⟨_, m18, fun i hi => (hg14 i hi)⟩, m21⟩, ⟨_, _, _, _, _, _, u1⟩, m19, ⟨_, m20, x6⟩, P22⟩, fun j hj => (u2 j (by omega)).trans (h1.2 j hj)⟩
      · -- 49
        refine g_aload_n C 3 rfl dX4_advise_49 ?_
        refine g_getf C 0 (by omega) m16 rfl 1 (by decide) (fun w h => (List.mem_cons_of_mem _ (List.mem_append_left _ (List.mem_append_left _ (List.mem_append_left _ (List.mem_append_left _ (List.mem_append_left _ (List.mem_append_right _ h)))))))) (List.mem_of_getElem? (i := 1) rfl) rfl rfl dX4_advise_50 ?_
        refine g_getfN C 10 (by omega) ht9 rfl 2 (by decide) (fun w h => (List.mem_cons_of_mem _ (List.mem_append_left _ (List.mem_append_left _ (List.mem_append_left _ (List.mem_append_left _ (List.mem_append_right _ h))))))) (List.mem_of_getElem? (i := 15) rfl) rfl rfl dX4_advise_53 ?_
        refine g_istore_n C (lv' := [(3, .int (s_tC (upd M 0 (nI (10 + i))) St We pl (fun _ => 0) N)), (4, .int (nI (10 + i))), (2, .int (s_best (fun i => s_tC (upd M 0 (nI (10 + i))) St We pl (fun _ => 0) N) i)), (0, .ref (ad 0)), (1, .int (nI N))]) dX4_advise_56 (by decide) rfl ?_
        refine g_iload C 1 rfl dX4_advise_57 ?_
        refine g_istore_n C (lv' := [(2, .int (nI (10 + i))), (3, .int (s_tC (upd M 0 (nI (10 + i))) St We pl (fun _ => 0) N)), (4, .int (nI (10 + i))), (0, .ref (ad 0)), (1, .int (nI N))]) dX4_advise_59 (by decide) rfl ?_
        refine g_iinc C 2 rfl (v := nI (10 + i + 1)) (lv' := [(4, .int (nI (10 + i + 1))), (2, .int (nI (10 + i))), (3, .int (s_tC (upd M 0 (nI (10 + i))) St We pl (fun _ => 0) N)), (0, .ref (ad 0)), (1, .int (nI N))]) dX4_advise_60 (nI_add _ _) (by decide) rfl ?_
        refine g_goto C (tgt := 13) dX4_advise_63 (by decide) ?_
        refine g_lv [0, 2, 1, 3, 4] (lv' := [(4, .int (nI (10 + i + 1))), (3, .int (s_tC (upd M 0 (nI (10 + i))) St We pl (fun _ => 0) N)), (2, .int (nI (10 + i))), (0, .ref (ad 0)), (1, .int (nI N))]) rfl ?_
        have e8 : s_best (fun i => s_tC (upd M 0 (nI (10 + i))) St We pl (fun _ => 0) N) (i + 1) = nI (10 + i) := if_neg c46
        have e9 : s_best1 (fun i => s_tC (upd M 0 (nI (10 + i))) St We pl (fun _ => 0) N) (i + 1) = s_tC (upd M 0 (nI (10 + i))) St We pl (fun _ => 0) N := if_neg c46
        refine g_lveq (lv' := [(4, .int (nI (10 + (i + 1)))), (3, .int (s_best1 (fun i => s_tC (upd M 0 (nI (10 + i))) St We pl (fun _ => 0) N) (i + 1))), (2, .int (s_best (fun i => s_tC (upd M 0 (nI (10 + i))) St We pl (fun _ => 0) N) (i + 1))), (0, .ref (ad 0)), (1, .int (nI N))]) (by rw [e8, e9] <;> rfl) ?_
        exact ih _ ⟨⟨m16, ⟨m17, ⟨_, m18, fun i hi => (hg14 i hi)⟩, m21⟩, ⟨_, _, _, _, _, _, u1⟩, m19, ⟨_, m20, x6⟩, P22⟩, fun j hj => (u2 j (by omega)).trans (h1.2 j hj)⟩
