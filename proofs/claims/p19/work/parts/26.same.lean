/-! ===== the law's own machine: whether the class is the same ===== -/
theorem sheet_2 (f t : Nat → Int32) : s_sheet f t (nI 2) = s_worths f t := by rw [s_sheet, if_neg (by decide), if_neg (by decide), if_pos (by decide)]
theorem sheet_1 (f t : Nat → Int32) : s_sheet f t (nI 1) = s_leftWith f t 0 := by rw [s_sheet, if_neg (by decide), if_pos (by decide)]
theorem sheet_0 (f t : Nat → Int32) : s_sheet f t (nI 0) = s_left t := by rw [s_sheet, if_pos (by decide)]
theorem told_p2 (s w : Int32) : (if s_bk s w = 0 then (1 : Int32) else 0) = s_pin s w (nI 2) := by
  have e : s_pin s w (nI 2) = if w ≤ s then 1 else 0 := by rw [s_pin, if_neg (by decide), if_neg (by decide), if_pos (by decide)]
  rw [e]
  unfold s_bk
  by_cases h : w ≤ s
  · rw [if_pos h, if_pos h]; rfl
  · rw [if_neg h, if_neg h]; rfl
theorem told_p3 (s w : Int32) : (if s_bk s w = 0 then s + 1 - w else 0) = s_pin s w (nI 3) := by
  have e : s_pin s w (nI 3) = if w ≤ s then s - w + 1 else 0 := by rw [s_pin, if_neg (by decide), if_neg (by decide), if_neg (by decide)]
  rw [e]
  unfold s_bk
  by_cases h : w ≤ s
  · rw [if_pos h, if_pos h, if_pos rfl, Int32.sub_eq_add_neg, Int32.sub_eq_add_neg]
    ac_rfl
  · rw [if_neg h, if_neg h, if_neg (by decide)]
theorem share_pos {F T : Nat → Nat → Int32} {cnt : Nat} (h : 0 < cnt) : s_share F T cnt = FP.ddiv (FP.i2d (s_with F T 0 cnt)) (FP.i2d (nI (30 * cnt))) := if_neg (by omega)
theorem share_0 {F T : Nat → Nat → Int32} {cnt : Nat} (h : cnt = 0) : s_share F T cnt = FP.dconst0 := if_pos h
theorem dc0_n64 : vf_n64 FP.dconst0 := by unfold vf_n64; decide

set_option maxHeartbeats 4000000 in
set_option maxRecDepth 100000 in
theorem c_X5_isSame (l : Launch) (V : gT) {n : Nat} {ad : Nat → Nat} {el : Nat → va_E} {B cnt : Nat} {M St We pl : Nat → Int32} {F T : Nat → Nat → Int32} (hB : 97 ≤ B) (hc : cnt ≤ 20) (hn : B + 12 * cnt ≤ n) (hs : SimAt V ad el B cnt M St We pl F T) (h : X4At V ad el cnt M St We pl F T) (hF : ∀ q, q < cnt → ∀ j, j < 30 → F32 (F q j)) : TT l V yX5_isSame wsX5_isSame { frames := 8, cells := 808, slots := 4838, locals := 134 } n ad el [.ref (ad 85), .ref (ad 0)] (QIr V n ad el (fun r => r = 1)) 808 4838 := by
  refine TT.body (cc := cX5_isSame) (maxL := 13) (ret := (some .boolean)) (by decide) rfl (Nat.le_of_ble_eq_true rfl) ?_
  intro p e s m below meth c C hnm
  refine g_lv [0, 1] (lv' := [(0, .ref (ad 85)), (1, .ref (ad 0))]) rfl ?_
  obtain ⟨y1, y2, y3, y4, y5, y6, y7, y8⟩ := id hs
  obtain ⟨g9, h10, z11⟩ := id y2
  obtain ⟨g12, h13, z14⟩ := id y3
  obtain ⟨g15, h16, z17⟩ := id y4
  obtain ⟨⟨g18, h19, z20⟩, r21⟩ := id y5
  obtain ⟨g22, h23, z24⟩ := id y6
  obtain ⟨g25, h26, z27⟩ := id y7
  refine g_iconst C (v := nI 0) dX5_isSame_0 (by decide) ?_
  refine g_istore_n C (lv' := [(2, .int (nI 0)), (0, .ref (ad 85)), (1, .ref (ad 0))]) dX5_isSame_1 (by decide) rfl ?_
  refine g_iconst C (v := nI 0) dX5_isSame_2 (by decide) ?_
  refine g_istore_n C (lv' := [(3, .int (nI 0)), (2, .int (nI 0)), (0, .ref (ad 85)), (1, .ref (ad 0))]) dX5_isSame_3 (by decide) rfl ?_
  refine g_iconst C (v := nI 0) dX5_isSame_4 (by decide) ?_
  refine g_istore C (lv' := [(4, .int (nI 0)), (3, .int (nI 0)), (2, .int (nI 0)), (0, .ref (ad 85)), (1, .ref (ad 0))]) dX5_isSame_5 (by decide) rfl ?_
  refine g_lv [0, 2, 1, 3, 4] (lv' := [(4, .int (nI 0)), (2, .int (nI 0)), (3, .int (nI 0)), (0, .ref (ad 85)), (1, .ref (ad 0))]) rfl ?_
  refine g_forC cnt (fun k => 40 * k) (fun k => 240 * k) (fun (k : Nat) => [(4, .int (nI k)), (2, .int (s_sum (fun q => s_worths (F q) (T q)) k)), (3, .int (s_sum (fun q => s_leftWith (F q) (T q) 0) k)), (0, .ref (ad 85)), (1, .ref (ad 0))]) ?_ (fun k hk kh => ?_)
  · -- loop 7: its end
    refine g_iload C 0 rfl dX5_isSame_7 ?_
    refine g_aload_n C 3 rfl dX5_isSame_9 ?_
    refine g_getf C 85 (by omega) y1 rfl 10 (by decide) (fun w h => (List.mem_cons_of_mem _ (List.mem_append_left _ (List.mem_append_left _ (List.mem_append_left _ (List.mem_append_left _ (List.mem_append_left _ (List.mem_append_right _ h)))))))) (List.mem_of_getElem? (i := 1) rfl) rfl rfl dX5_isSame_10 ?_
    refine g_alen C 95 (by omega) 7 rfl h23 (v := nI cnt) rfl dX5_isSame_13 ?_
    refine g_icmp_ge C (tgt := 139) dX5_isSame_14 (by decide) (fun c14 => ?_) (fun c14 => ?_)
    · -- 139
      have c14 : cnt ≤ cnt := (nI_leI (by omega) (by omega)).mp c14
      refine g_iconst C (v := nI 0) dX5_isSame_139 (by decide) ?_
      refine g_istore C (lv' := [(4, .int (nI 0)), (2, .int (s_sum (fun q => s_worths (F q) (T q)) cnt)), (3, .int (s_sum (fun q => s_leftWith (F q) (T q) 0) cnt)), (0, .ref (ad 85)), (1, .ref (ad 0))]) dX5_isSame_140 (by decide) rfl ?_
      refine g_lv [0, 1, 2, 3, 4] (lv' := [(4, .int (nI 0)), (2, .int (s_sum (fun q => s_worths (F q) (T q)) cnt)), (3, .int (s_sum (fun q => s_leftWith (F q) (T q) 0) cnt)), (0, .ref (ad 85)), (1, .ref (ad 0))]) rfl ?_
      refine g_forC 7 (fun k => 40 * cnt + k) (fun k => 240 * cnt + 4 * k) (fun (k : Nat) => [(4, .int (nI k)), (2, .int (s_sum (fun q => s_worths (F q) (T q)) cnt)), (3, .int (s_sum (fun q => s_leftWith (F q) (T q) 0) cnt)), (0, .ref (ad 85)), (1, .ref (ad 0))]) ?_ (fun k hk kh => ?_)
      · -- loop 142: its end
        refine g_iload C 0 rfl dX5_isSame_142 ?_
        refine g_bipush C (v := nI 7) dX5_isSame_144 (by decide) ?_
        refine g_icmp_ge C (tgt := 265) dX5_isSame_146 (by decide) (fun c146 => ?_) (fun c146 => ?_)
        rotate_left
        · exact absurd c146 (by decide)
        refine g_iconst C (v := nI 0) dX5_isSame_265 (by decide) ?_
        refine g_istore C (lv' := [(4, .int (nI 0)), (2, .int (s_sum (fun q => s_worths (F q) (T q)) cnt)), (3, .int (s_sum (fun q => s_leftWith (F q) (T q) 0) cnt)), (0, .ref (ad 85)), (1, .ref (ad 0))]) dX5_isSame_266 (by decide) rfl ?_
        refine g_aload_n C 3 rfl dX5_isSame_268 ?_
        refine g_getf C 85 (by omega) y1 rfl 9 (by decide) (fun w h => (List.mem_cons_of_mem _ (List.mem_append_left _ (List.mem_append_left _ (List.mem_append_left _ (List.mem_append_left _ (List.mem_append_left _ (List.mem_append_right _ h)))))))) (List.mem_of_getElem? (i := 6) rfl) rfl rfl dX5_isSame_269 ?_
        refine g_astore C (lv' := [(5, .ref (ad 89)), (4, .int (nI 0)), (2, .int (s_sum (fun q => s_worths (F q) (T q)) cnt)), (3, .int (s_sum (fun q => s_leftWith (F q) (T q) 0) cnt)), (0, .ref (ad 85)), (1, .ref (ad 0))]) dX5_isSame_272 (by decide) rfl ?_
        refine g_aload C 0 rfl dX5_isSame_274 ?_
        refine g_alen C 89 (by omega) 6 rfl h19 (v := nI 5) rfl dX5_isSame_276 ?_
        refine g_istore C (lv' := [(6, .int (nI 5)), (5, .ref (ad 89)), (4, .int (nI 0)), (2, .int (s_sum (fun q => s_worths (F q) (T q)) cnt)), (3, .int (s_sum (fun q => s_leftWith (F q) (T q) 0) cnt)), (0, .ref (ad 85)), (1, .ref (ad 0))]) dX5_isSame_277 (by decide) rfl ?_
        refine g_iconst C (v := nI 0) dX5_isSame_279 (by decide) ?_
        refine g_istore C (lv' := [(7, .int (nI 0)), (6, .int (nI 5)), (5, .ref (ad 89)), (4, .int (nI 0)), (2, .int (s_sum (fun q => s_worths (F q) (T q)) cnt)), (3, .int (s_sum (fun q => s_leftWith (F q) (T q) 0) cnt)), (0, .ref (ad 85)), (1, .ref (ad 0))]) dX5_isSame_280 (by decide) rfl ?_
        refine g_lv [0, 3, 2, 1, 4, 5, 6, 7] (lv' := [(7, .int (nI 0)), (4, .int (nI 0)), (5, .ref (ad 89)), (6, .int (nI 5)), (2, .int (s_sum (fun q => s_worths (F q) (T q)) cnt)), (3, .int (s_sum (fun q => s_leftWith (F q) (T q) 0) cnt)), (0, .ref (ad 85)), (1, .ref (ad 0))]) rfl ?_
        refine g_for 5 (fun (i : Nat) => [(7, .int (nI i)), (4, .int (s_sum (fun j => if pl j = 0 then 0 else 1) (6 * i))), (5, .ref (ad 89)), (6, .int (nI 5)), (2, .int (s_sum (fun q => s_worths (F q) (T q)) cnt)), (3, .int (s_sum (fun q => s_leftWith (F q) (T q) 0) cnt)), (0, .ref (ad 85)), (1, .ref (ad 0))]) ?_ (fun i hi ih => ?_)
        · -- loop 282: its end
          refine g_iload C 0 rfl dX5_isSame_282 ?_
          refine g_iload C 3 rfl dX5_isSame_284 ?_
          refine g_icmp_ge C (tgt := 349) dX5_isSame_286 (by decide) (fun c286 => ?_) (fun c286 => ?_)
          rotate_left
          · exact absurd c286 (by decide)
          refine g_bipush C (v := nI 10) dX5_isSame_349 (by decide) ?_
          refine g_newa C 0 (List.mem_of_getElem? (i := 2) rfl) (ty := .int) rfl rfl (N := 10) (a0 := (10, .inl (fun _ => 0))) (fun cA => rfl) (by decide) (by decide) (by decide) (by show _ ≤ 808; omega) (by show _ ≤ 4838; omega) dX5_isSame_351 (fun ad28 el29 ha30 he31 hb32 => ?_)
          refine g_lveq (lv' := [(7, .int (nI 5)), (4, .int (s_sum (fun j => if pl j = 0 then 0 else 1) (6 * 5))), (5, .ref (ad28 89)), (6, .int (nI 5)), (2, .int (s_sum (fun q => s_worths (F q) (T q)) cnt)), (3, .int (s_sum (fun q => s_leftWith (F q) (T q) 0) cnt)), (0, .ref (ad28 85)), (1, .ref (ad28 0))]) (by rw [ha30 0 (by omega), ha30 85 (by omega), ha30 89 (by omega)]) ?_
          have m33 : el29 85 = .inr (5, [.int (M 0), .int (M 1), .int (M 2), .int (M 3), .int (M 4), .int (M 5), .ref (ad28 86), .ref (ad28 87), .ref (ad28 88), .ref (ad28 89), .ref (ad28 95), .ref (ad28 96)]) := by rw [hb32 85 (by omega), y1, ha30 86 (by omega), ha30 87 (by omega), ha30 88 (by omega), ha30 89 (by omega), ha30 95 (by omega), ha30 96 (by omega)]
          have m34 := (hb32 86 (by omega)).trans h10
          have m35 := (hb32 87 (by omega)).trans h13
          have m36 := (hb32 88 (by omega)).trans h16
          have m37 := (hb32 89 (by omega)).trans h19
          have m38 := (hb32 95 (by omega)).trans h23
          have m39 := (hb32 96 (by omega)).trans h26
          have m40 : el29 0 = .inr (4, [.ref (ad28 1), .ref (ad28 10), .ref (ad28 23), .ref (ad28 24), .int (nI cnt)]) := by rw [hb32 0 (by omega), h.1, ha30 1 (by omega), ha30 10 (by omega), ha30 23 (by omega), ha30 24 (by omega)]
          refine g_dup C dX5_isSame_353 rfl ?_
          refine g_iconst C (v := nI 0) dX5_isSame_354 (by decide) ?_
          refine g_aload_n C 6 rfl dX5_isSame_355 ?_
          refine g_getf C 85 (by omega) m33 rfl 10 (by decide) (fun w h => (List.mem_cons_of_mem _ (List.mem_append_left _ (List.mem_append_left _ (List.mem_append_left _ (List.mem_append_left _ (List.mem_append_left _ (List.mem_append_right _ h)))))))) (List.mem_of_getElem? (i := 1) rfl) rfl rfl dX5_isSame_356 ?_
          refine g_alen C 95 (by omega) 7 rfl m38 (v := nI cnt) rfl dX5_isSame_359 ?_
          refine g_iast C n (by omega) he31 0 rfl (by omega) (by decide) dX5_isSame_360 (fun el41 e42 o43 => ?_)
          have m44 := (o43 85 (by omega)).trans m33
          have m45 := (o43 86 (by omega)).trans m34
          have m46 := (o43 87 (by omega)).trans m35
          have m47 := (o43 88 (by omega)).trans m36
          have m48 := (o43 89 (by omega)).trans m37
          have m49 := (o43 95 (by omega)).trans m38
          have m50 := (o43 96 (by omega)).trans m39
          have m51 := (o43 0 (by omega)).trans m40
          refine g_dup C dX5_isSame_361 rfl ?_
          refine g_iconst C (v := nI 1) dX5_isSame_362 (by decide) ?_
          refine g_aload_n C 6 rfl dX5_isSame_363 ?_
          refine g_getf C 85 (by omega) m44 rfl 0 (by decide) (fun w h => (List.mem_cons_of_mem _ (List.mem_append_left _ (List.mem_append_left _ (List.mem_append_left _ (List.mem_append_left _ (List.mem_append_left _ (List.mem_append_right _ h)))))))) (List.mem_of_getElem? (i := 7) rfl) rfl rfl dX5_isSame_364 ?_
          refine g_iast C n (by omega) e42 1 rfl (by omega) (by decide) dX5_isSame_367 (fun el52 e53 o54 => ?_)
          have m55 := (o54 85 (by omega)).trans m44
          have m56 := (o54 86 (by omega)).trans m45
          have m57 := (o54 87 (by omega)).trans m46
          have m58 := (o54 88 (by omega)).trans m47
          have m59 := (o54 89 (by omega)).trans m48
          have m60 := (o54 95 (by omega)).trans m49
          have m61 := (o54 96 (by omega)).trans m50
          have m62 := (o54 0 (by omega)).trans m51
          refine g_dup C dX5_isSame_368 rfl ?_
          refine g_iconst C (v := nI 2) dX5_isSame_369 (by decide) ?_
          refine g_aload_n C 6 rfl dX5_isSame_370 ?_
          refine g_getf C 85 (by omega) m55 rfl 1 (by decide) (fun w h => (List.mem_cons_of_mem _ (List.mem_append_left _ (List.mem_append_left _ (List.mem_append_left _ (List.mem_append_left _ (List.mem_append_left _ (List.mem_append_right _ h)))))))) (List.mem_of_getElem? (i := 8) rfl) rfl rfl dX5_isSame_371 ?_
          refine g_iast C n (by omega) e53 2 rfl (by omega) (by decide) dX5_isSame_374 (fun el63 e64 o65 => ?_)
          have m66 := (o65 85 (by omega)).trans m55
          have m67 := (o65 86 (by omega)).trans m56
          have m68 := (o65 87 (by omega)).trans m57
          have m69 := (o65 88 (by omega)).trans m58
          have m70 := (o65 89 (by omega)).trans m59
          have m71 := (o65 95 (by omega)).trans m60
          have m72 := (o65 96 (by omega)).trans m61
          have m73 := (o65 0 (by omega)).trans m62
          refine g_dup C dX5_isSame_375 rfl ?_
          refine g_iconst C (v := nI 3) dX5_isSame_376 (by decide) ?_
          refine g_aload_n C 6 rfl dX5_isSame_377 ?_
          refine g_getf C 85 (by omega) m66 rfl 2 (by decide) (fun w h => (List.mem_cons_of_mem _ (List.mem_append_left _ (List.mem_append_left _ (List.mem_append_left _ (List.mem_append_left _ (List.mem_append_left _ (List.mem_append_right _ h)))))))) (List.mem_of_getElem? (i := 9) rfl) rfl rfl dX5_isSame_378 ?_
          refine g_iast C n (by omega) e64 3 rfl (by omega) (by decide) dX5_isSame_381 (fun el74 e75 o76 => ?_)
          have m77 := (o76 85 (by omega)).trans m66
          have m78 := (o76 86 (by omega)).trans m67
          have m79 := (o76 87 (by omega)).trans m68
          have m80 := (o76 88 (by omega)).trans m69
          have m81 := (o76 89 (by omega)).trans m70
          have m82 := (o76 95 (by omega)).trans m71
          have m83 := (o76 96 (by omega)).trans m72
          have m84 := (o76 0 (by omega)).trans m73
          refine g_dup C dX5_isSame_382 rfl ?_
          refine g_iconst C (v := nI 4) dX5_isSame_383 (by decide) ?_
          refine g_aload_n C 6 rfl dX5_isSame_384 ?_
          refine g_getf C 85 (by omega) m77 rfl 3 (by decide) (fun w h => (List.mem_cons_of_mem _ (List.mem_append_left _ (List.mem_append_left _ (List.mem_append_left _ (List.mem_append_left _ (List.mem_append_left _ (List.mem_append_right _ h)))))))) (List.mem_of_getElem? (i := 10) rfl) rfl rfl dX5_isSame_385 ?_
          refine g_iast C n (by omega) e75 4 rfl (by omega) (by decide) dX5_isSame_388 (fun el85 e86 o87 => ?_)
          have m88 := (o87 85 (by omega)).trans m77
          have m89 := (o87 86 (by omega)).trans m78
          have m90 := (o87 87 (by omega)).trans m79
          have m91 := (o87 88 (by omega)).trans m80
          have m92 := (o87 89 (by omega)).trans m81
          have m93 := (o87 95 (by omega)).trans m82
          have m94 := (o87 96 (by omega)).trans m83
          have m95 := (o87 0 (by omega)).trans m84
          refine g_dup C dX5_isSame_389 rfl ?_
          refine g_iconst C (v := nI 5) dX5_isSame_390 (by decide) ?_
          refine g_aload_n C 6 rfl dX5_isSame_391 ?_
          refine g_getf C 85 (by omega) m88 rfl 4 (by decide) (fun w h => (List.mem_cons_of_mem _ (List.mem_append_left _ (List.mem_append_left _ (List.mem_append_left _ (List.mem_append_left _ (List.mem_append_left _ (List.mem_append_right _ h)))))))) (List.mem_of_getElem? (i := 11) rfl) rfl rfl dX5_isSame_392 ?_
          refine g_iast C n (by omega) e86 5 rfl (by omega) (by decide) dX5_isSame_395 (fun el96 e97 o98 => ?_)
          have m99 := (o98 85 (by omega)).trans m88
          have m100 := (o98 86 (by omega)).trans m89
          have m101 := (o98 87 (by omega)).trans m90
          have m102 := (o98 88 (by omega)).trans m91
          have m103 := (o98 89 (by omega)).trans m92
          have m104 := (o98 95 (by omega)).trans m93
          have m105 := (o98 96 (by omega)).trans m94
          have m106 := (o98 0 (by omega)).trans m95
          refine g_dup C dX5_isSame_396 rfl ?_
          refine g_bipush C (v := nI 6) dX5_isSame_397 (by decide) ?_
          refine g_aload_n C 6 rfl dX5_isSame_399 ?_
          refine g_getf C 85 (by omega) m99 rfl 5 (by decide) (fun w h => (List.mem_cons_of_mem _ (List.mem_append_left _ (List.mem_append_left _ (List.mem_append_left _ (List.mem_append_left _ (List.mem_append_left _ (List.mem_append_right _ h)))))))) (List.mem_of_getElem? (i := 12) rfl) rfl rfl dX5_isSame_400 ?_
          refine g_iast C n (by omega) e97 6 rfl (by omega) (by decide) dX5_isSame_403 (fun el107 e108 o109 => ?_)
          have m110 := (o109 85 (by omega)).trans m99
          have m111 := (o109 86 (by omega)).trans m100
          have m112 := (o109 87 (by omega)).trans m101
          have m113 := (o109 88 (by omega)).trans m102
          have m114 := (o109 89 (by omega)).trans m103
          have m115 := (o109 95 (by omega)).trans m104
          have m116 := (o109 96 (by omega)).trans m105
          have m117 := (o109 0 (by omega)).trans m106
          refine g_dup C dX5_isSame_404 rfl ?_
          refine g_bipush C (v := nI 7) dX5_isSame_405 (by decide) ?_
          refine g_aload_n C 6 rfl dX5_isSame_407 ?_
          have hE2 : ∀ j, j < n → el107 j = el j := fun j hj => (o109 j (by omega)).trans ((o98 j (by omega)).trans ((o87 j (by omega)).trans ((o76 j (by omega)).trans ((o65 j (by omega)).trans ((o54 j (by omega)).trans ((o43 j (by omega)).trans (hb32 j (by omega))))))))
          have hs2 : SimAt V ad28 el107 B cnt M St We pl F T := (hs.keep (fun j hj => hE2 j (by omega))).adr (fun j hj => ha30 j (by omega))
          refine g_calli C (r_V C (st := [.int (nI 7), .ref (ad28 n), .ref (ad28 n)]) (c_X5_broken l V hB hc (by omega) hs2) (cwV 0 C.ts gX5_isSame_X5_broken rfl rfl rfl (by decide +kernel) ⟨(Nat.le_of_ble_eq_true rfl), (Nat.le_of_ble_eq_true rfl)⟩) (by omega) m110 rfl rfl rfl (Nat.le_of_ble_eq_true rfl) dX5_isSame_408 ⟨(by show _ ≤ 808; omega), (by show _ ≤ 4838; omega)⟩) (fun r u hu => ?_)
          subst hu
          refine g_iast C n (by omega) e108 7 rfl (by omega) (by decide) dX5_isSame_411 (fun el118 e119 o120 => ?_)
          have m121 := (o120 85 (by omega)).trans m110
          have m122 := (o120 86 (by omega)).trans m111
          have m123 := (o120 87 (by omega)).trans m112
          have m124 := (o120 88 (by omega)).trans m113
          have m125 := (o120 89 (by omega)).trans m114
          have m126 := (o120 95 (by omega)).trans m115
          have m127 := (o120 96 (by omega)).trans m116
          have m128 := (o120 0 (by omega)).trans m117
          refine g_dup C dX5_isSame_412 rfl ?_
          refine g_bipush C (v := nI 8) dX5_isSame_413 (by decide) ?_
          refine g_iload C 1 rfl dX5_isSame_415 ?_
          refine g_iast C n (by omega) e119 8 rfl (by omega) (by decide) dX5_isSame_417 (fun el129 e130 o131 => ?_)
          have m132 := (o131 85 (by omega)).trans m121
          have m133 := (o131 86 (by omega)).trans m122
          have m134 := (o131 87 (by omega)).trans m123
          have m135 := (o131 88 (by omega)).trans m124
          have m136 := (o131 89 (by omega)).trans m125
          have m137 := (o131 95 (by omega)).trans m126
          have m138 := (o131 96 (by omega)).trans m127
          have m139 := (o131 0 (by omega)).trans m128
          refine g_dup C dX5_isSame_418 rfl ?_
          refine g_bipush C (v := nI 9) dX5_isSame_419 (by decide) ?_
          refine g_iload_n C 4 rfl dX5_isSame_421 ?_
          refine g_iast C n (by omega) e130 9 rfl (by omega) (by decide) dX5_isSame_422 (fun el140 e141 o142 => ?_)
          have m143 := (o142 85 (by omega)).trans m132
          have m144 := (o142 86 (by omega)).trans m133
          have m145 := (o142 87 (by omega)).trans m134
          have m146 := (o142 88 (by omega)).trans m135
          have m147 := (o142 89 (by omega)).trans m136
          have m148 := (o142 95 (by omega)).trans m137
          have m149 := (o142 96 (by omega)).trans m138
          have m150 := (o142 0 (by omega)).trans m139
          refine g_astore C (lv' := [(5, .ref (ad28 n)), (7, .int (nI 5)), (4, .int (s_sum (fun j => if pl j = 0 then 0 else 1) (6 * 5))), (6, .int (nI 5)), (2, .int (s_sum (fun q => s_worths (F q) (T q)) cnt)), (3, .int (s_sum (fun q => s_leftWith (F q) (T q) 0) cnt)), (0, .ref (ad28 85)), (1, .ref (ad28 0))]) dX5_isSame_423 (by decide) rfl ?_
          have hE1 : ∀ j, j < n → el140 j = el j := fun j hj => (o142 j (by omega)).trans ((o131 j (by omega)).trans ((o120 j (by omega)).trans ((o109 j (by omega)).trans ((o98 j (by omega)).trans ((o87 j (by omega)).trans ((o76 j (by omega)).trans ((o65 j (by omega)).trans ((o54 j (by omega)).trans ((o43 j (by omega)).trans (hb32 j (by omega)))))))))))
          have hx1 : X4At V ad28 el140 cnt M St We pl F T := (h.keep (fun j hj => hE1 j (by omega))).adr (fun j hj => ha30 j (by omega))
          have hA1 : ∀ q, q < 10 → ((upd ((upd ((upd ((upd ((upd ((upd ((upd ((upd ((upd ((upd ((fun _ => 0)) 0 (nI cnt))) 1 (M 0))) 2 (M 1))) 3 (M 2))) 4 (M 3))) 5 (M 4))) 6 (M 5))) 7 (s_broken St We))) 8 (s_sum (fun j => if pl j = 0 then 0 else 1) (6 * 5)))) 9 (s_sum (fun q => s_worths (F q) (T q)) cnt))) q = s_cnt cnt M St We pl F T (nI q) := fun q hq => by
            rcases (show q = 0 ∨ q = 1 ∨ q = 2 ∨ q = 3 ∨ q = 4 ∨ q = 5 ∨ q = 6 ∨ q = 7 ∨ q = 8 ∨ q = 9 by omega) with rfl | rfl | rfl | rfl | rfl | rfl | rfl | rfl | rfl | rfl <;> rfl
          refine g_iconst C (v := nI 0) dX5_isSame_425 (by decide) ?_
          refine g_istore C (lv' := [(6, .int (nI 0)), (5, .ref (ad28 n)), (7, .int (nI 5)), (4, .int (s_sum (fun j => if pl j = 0 then 0 else 1) (6 * 5))), (2, .int (s_sum (fun q => s_worths (F q) (T q)) cnt)), (3, .int (s_sum (fun q => s_leftWith (F q) (T q) 0) cnt)), (0, .ref (ad28 85)), (1, .ref (ad28 0))]) dX5_isSame_426 (by decide) rfl ?_
          refine g_lv [0, 1, 5, 6, 7] (lv' := [(6, .int (nI 0)), (5, .ref (ad28 n)), (3, .int (s_sum (fun q => s_leftWith (F q) (T q) 0) cnt)), (0, .ref (ad28 85)), (1, .ref (ad28 0))]) rfl ?_
          refine g_for 10 (fun (i : Nat) => [(6, .int (nI i)), (5, .ref (ad28 n)), (3, .int (s_sum (fun q => s_leftWith (F q) (T q) 0) cnt)), (0, .ref (ad28 85)), (1, .ref (ad28 0))]) ?_ (fun i hi ih => ?_)
          · -- loop 428: its end
            refine g_iload C 0 rfl dX5_isSame_428 ?_
            refine g_bipush C (v := nI 10) dX5_isSame_430 (by decide) ?_
            refine g_icmp_ge C (tgt := 457) dX5_isSame_432 (by decide) (fun c432 => ?_) (fun c432 => ?_)
            rotate_left
            · exact absurd c432 (by decide)
            refine g_aload_n C 4 rfl dX5_isSame_457 ?_
            refine g_calld C (r_V C (st := []) (c_X4_share l V (by omega) hc hx1) (cwV 0 C.ts gX5_isSame_X4_share rfl rfl rfl (by decide +kernel) ⟨(Nat.le_of_ble_eq_true rfl), (Nat.le_of_ble_eq_true rfl)⟩) (by omega) hx1.1 rfl rfl rfl (Nat.le_of_ble_eq_true rfl) dX5_isSame_458 ⟨(by show _ ≤ 808; omega), (by show _ ≤ 4838; omega)⟩) (fun r u hu => ?_)
            subst hu
            refine g_aload_n C 3 rfl dX5_isSame_461 ?_
            refine g_getf C 85 (by omega) m143 rfl 10 (by decide) (fun w h => (List.mem_cons_of_mem _ (List.mem_append_left _ (List.mem_append_left _ (List.mem_append_left _ (List.mem_append_left _ (List.mem_append_left _ (List.mem_append_right _ h)))))))) (List.mem_of_getElem? (i := 1) rfl) rfl rfl dX5_isSame_462 ?_
            refine g_alen C 95 (by omega) 7 rfl m148 (v := nI cnt) rfl dX5_isSame_465 ?_
            refine g_if_ne C (tgt := 473) dX5_isSame_466 (by decide) (fun c9 => ?_) (fun c9 => ?_)
            · have hpos : 0 < cnt := by
                rcases Nat.eq_zero_or_pos cnt with e | e
                · subst e; exact absurd rfl c9
                · exact e
              refine g_iload_n C 2 rfl dX5_isSame_473 ?_
              refine g_i2d C dX5_isSame_474 ?_
              refine g_bipush C (v := nI 30) dX5_isSame_475 (by decide) ?_
              refine g_aload_n C 3 rfl dX5_isSame_477 ?_
              refine g_getf C 85 (by omega) m143 rfl 10 (by decide) (fun w h => (List.mem_cons_of_mem _ (List.mem_append_left _ (List.mem_append_left _ (List.mem_append_left _ (List.mem_append_left _ (List.mem_append_left _ (List.mem_append_right _ h)))))))) (List.mem_of_getElem? (i := 1) rfl) rfl rfl dX5_isSame_478 ?_
              refine g_alen C 95 (by omega) 7 rfl m148 (v := nI cnt) rfl dX5_isSame_481 ?_
              refine g_imul C (v := nI (30 * cnt)) dX5_isSame_482 (pk_mul _ _) ?_
              refine g_i2d C dX5_isSame_483 ?_
              refine g_ddiv C dX5_isSame_484 (s_share_n64 (F := F) (T := T) hc hpos) ?_
              refine g_dcmp C dX5_isSame_485 ?_
              refine g_top ((by rw [share_pos hpos]; exact dcmp_refl (s_share_n64 hc hpos)) : Op.cmpValue (FP.dcmp (s_share F T cnt) (FP.ddiv (FP.i2d (s_with F T 0 cnt)) (FP.i2d (nI (30 * cnt))))) .l = nI 0) ?_
              refine g_if_ne C (tgt := 493) dX5_isSame_486 (by decide) (fun c486 => ?_) (fun c486 => ?_)
              · exact absurd c486 (by decide)
              refine g_iconst C (v := nI 1) dX5_isSame_489 (by decide) ?_
              refine g_goto C (tgt := 494) dX5_isSame_490 (by decide) ?_
              refine g_perm (fun k => k) (n' := n) (ad' := ad) (el' := el) (fun k h => by omega) (fun i j _ _ h => h) (fun k h => (ha30 k h).symm) (fun k h => (hE1 k h).symm) ?_
              exact g_zret C rfl rfl dX5_isSame_494 () rfl rfl rfl rfl (by omega) (by omega)
            · have hz : cnt = 0 := by
                rcases Nat.eq_zero_or_pos cnt with e | e
                · exact e
                · exact absurd c9 (nI_ne0 (by omega) (by omega))
              refine g_dconst0 C dX5_isSame_469 ?_
              refine g_goto C (tgt := 485) dX5_isSame_470 (by decide) ?_
              refine g_dcmp C dX5_isSame_485 ?_
              refine g_top ((by rw [share_0 hz]; exact dcmp_refl dc0_n64) : Op.cmpValue (FP.dcmp (s_share F T cnt) (FP.dconst0)) .l = nI 0) ?_
              refine g_if_ne C (tgt := 493) dX5_isSame_486 (by decide) (fun c486 => ?_) (fun c486 => ?_)
              · exact absurd c486 (by decide)
              refine g_iconst C (v := nI 1) dX5_isSame_489 (by decide) ?_
              refine g_goto C (tgt := 494) dX5_isSame_490 (by decide) ?_
              refine g_perm (fun k => k) (n' := n) (ad' := ad) (el' := el) (fun k h => by omega) (fun i j _ _ h => h) (fun k h => (ha30 k h).symm) (fun k h => (hE1 k h).symm) ?_
              exact g_zret C rfl rfl dX5_isSame_494 () rfl rfl rfl rfl (by omega) (by omega)
          · -- loop 428: its body
            refine g_iload C 0 rfl dX5_isSame_428 ?_
            refine g_bipush C (v := nI 10) dX5_isSame_430 (by decide) ?_
            refine g_icmp_ge C (tgt := 457) dX5_isSame_432 (by decide) (fun c432 => ?_) (fun c432 => ?_)
            · -- 457
              have c432 : 10 ≤ i := (nI_leI (by omega) (by omega)).mp c432
              exact absurd c432 (by omega)
            · -- 435
              have c432 : i < 10 := Nat.lt_of_not_le (fun z => c432 ((nI_leI (by omega) (by omega)).mpr z))
              refine g_aload_n C 4 rfl dX5_isSame_435 ?_
              refine g_iload C 0 rfl dX5_isSame_436 ?_
              refine g_calli C (r_V C (st := []) (c_X4_count l V (by omega) hc hx1 i (by omega)) (cwV 1 C.ts gX5_isSame_X4_count rfl rfl rfl (by decide +kernel) ⟨(Nat.le_of_ble_eq_true rfl), (Nat.le_of_ble_eq_true rfl)⟩) (by omega) hx1.1 rfl rfl rfl (Nat.le_of_ble_eq_true rfl) dX5_isSame_438 ⟨(by show _ ≤ 808; omega), (by show _ ≤ 4838; omega)⟩) (fun r u hu => ?_)
              subst hu
              refine g_aload C 1 rfl dX5_isSame_441 ?_
              refine g_iload C 0 rfl dX5_isSame_443 ?_
              refine g_iald C n (by omega) e141 i rfl (by omega) (by decide) dX5_isSame_445 ?_
              refine g_top ((hA1 i (by omega)) : (upd ((upd ((upd ((upd ((upd ((upd ((upd ((upd ((upd ((upd ((fun _ => 0)) 0 (nI cnt))) 1 (M 0))) 2 (M 1))) 3 (M 2))) 4 (M 3))) 5 (M 4))) 6 (M 5))) 7 (s_broken St We))) 8 (s_sum (fun j => if pl j = 0 then 0 else 1) (6 * 5)))) 9 (s_sum (fun q => s_worths (F q) (T q)) cnt)) i = s_cnt cnt M St We pl F T (nI i)) ?_
              refine g_icmp_eq C (tgt := 451) dX5_isSame_446 (by decide) (fun c446 => ?_) (fun c446 => ?_)
              · -- 451
                refine g_iinc C 0 rfl (v := nI (i + 1)) (lv' := [(6, .int (nI (i + 1))), (5, .ref (ad28 n)), (3, .int (s_sum (fun q => s_leftWith (F q) (T q) 0) cnt)), (0, .ref (ad28 85)), (1, .ref (ad28 0))]) dX5_isSame_451 (nI_add _ _) (by decide) rfl ?_
                refine g_goto C (tgt := 428) dX5_isSame_454 (by decide) ?_
                refine g_lv [0, 1, 2, 3, 4] (lv' := [(6, .int (nI (i + 1))), (5, .ref (ad28 n)), (3, .int (s_sum (fun q => s_leftWith (F q) (T q) 0) cnt)), (0, .ref (ad28 85)), (1, .ref (ad28 0))]) rfl ?_
                exact ih
              · -- 449
                exact absurd rfl c446
        · -- loop 282: its body
          refine g_iload C 0 rfl dX5_isSame_282 ?_
          refine g_iload C 3 rfl dX5_isSame_284 ?_
          refine g_icmp_ge C (tgt := 349) dX5_isSame_286 (by decide) (fun c286 => ?_) (fun c286 => ?_)
          · -- 349
            have c286 : 5 ≤ i := (nI_leI (by omega) (by omega)).mp c286
            exact absurd c286 (by omega)
          · -- 289
            have c286 : i < 5 := Nat.lt_of_not_le (fun z => c286 ((nI_leI (by omega) (by omega)).mpr z))
            refine g_aload C 2 rfl dX5_isSame_289 ?_
            refine g_iload C 0 rfl dX5_isSame_291 ?_
            refine g_aaldA C 89 (by omega) 6 rfl h19 i rfl (by omega) (by decide) (z20 i (by omega)) dX5_isSame_293 ?_
            obtain ⟨g151, h152, z153⟩ := id (r21 i (by omega))
            refine g_astore C (lv' := [(8, .ref (ad (90 + i))), (7, .int (nI i)), (4, .int (s_sum (fun j => if pl j = 0 then 0 else 1) (6 * i))), (5, .ref (ad 89)), (6, .int (nI 5)), (2, .int (s_sum (fun q => s_worths (F q) (T q)) cnt)), (3, .int (s_sum (fun q => s_leftWith (F q) (T q) 0) cnt)), (0, .ref (ad 85)), (1, .ref (ad 0))]) dX5_isSame_294 (by decide) rfl ?_
            refine g_aload C 0 rfl dX5_isSame_296 ?_
            refine g_astore C (lv' := [(9, .ref (ad (90 + i))), (8, .ref (ad (90 + i))), (7, .int (nI i)), (4, .int (s_sum (fun j => if pl j = 0 then 0 else 1) (6 * i))), (5, .ref (ad 89)), (6, .int (nI 5)), (2, .int (s_sum (fun q => s_worths (F q) (T q)) cnt)), (3, .int (s_sum (fun q => s_leftWith (F q) (T q) 0) cnt)), (0, .ref (ad 85)), (1, .ref (ad 0))]) dX5_isSame_298 (by decide) rfl ?_
            refine g_aload C 0 rfl dX5_isSame_300 ?_
            refine g_alen C (90 + i) (by omega) 1 rfl h152 (v := nI 6) rfl dX5_isSame_302 ?_
            refine g_istore C (lv' := [(10, .int (nI 6)), (9, .ref (ad (90 + i))), (8, .ref (ad (90 + i))), (7, .int (nI i)), (4, .int (s_sum (fun j => if pl j = 0 then 0 else 1) (6 * i))), (5, .ref (ad 89)), (6, .int (nI 5)), (2, .int (s_sum (fun q => s_worths (F q) (T q)) cnt)), (3, .int (s_sum (fun q => s_leftWith (F q) (T q) 0) cnt)), (0, .ref (ad 85)), (1, .ref (ad 0))]) dX5_isSame_303 (by decide) rfl ?_
            refine g_iconst C (v := nI 0) dX5_isSame_305 (by decide) ?_
            refine g_istore C (lv' := [(11, .int (nI 0)), (10, .int (nI 6)), (9, .ref (ad (90 + i))), (8, .ref (ad (90 + i))), (7, .int (nI i)), (4, .int (s_sum (fun j => if pl j = 0 then 0 else 1) (6 * i))), (5, .ref (ad 89)), (6, .int (nI 5)), (2, .int (s_sum (fun q => s_worths (F q) (T q)) cnt)), (3, .int (s_sum (fun q => s_leftWith (F q) (T q) 0) cnt)), (0, .ref (ad 85)), (1, .ref (ad 0))]) dX5_isSame_306 (by decide) rfl ?_
            refine g_lv [0, 5, 4, 6, 7, 2, 1, 8, 9, 10, 11] (lv' := [(11, .int (nI 0)), (4, .int (s_sum (fun j => if pl j = 0 then 0 else 1) (6 * i))), (7, .int (nI i)), (5, .ref (ad 89)), (6, .int (nI 5)), (9, .ref (ad (90 + i))), (10, .int (nI 6)), (2, .int (s_sum (fun q => s_worths (F q) (T q)) cnt)), (3, .int (s_sum (fun q => s_leftWith (F q) (T q) 0) cnt)), (0, .ref (ad 85)), (1, .ref (ad 0))]) rfl ?_
            refine g_for 6 (fun (j : Nat) => [(11, .int (nI j)), (4, .int (s_sum (fun j => if pl j = 0 then 0 else 1) (6 * i + j))), (7, .int (nI i)), (5, .ref (ad 89)), (6, .int (nI 5)), (9, .ref (ad (90 + i))), (10, .int (nI 6)), (2, .int (s_sum (fun q => s_worths (F q) (T q)) cnt)), (3, .int (s_sum (fun q => s_leftWith (F q) (T q) 0) cnt)), (0, .ref (ad 85)), (1, .ref (ad 0))]) ?_ (fun j hj jh => ?_)
            · -- loop 308: its end
              refine g_iload C 0 rfl dX5_isSame_308 ?_
              refine g_iload C 6 rfl dX5_isSame_310 ?_
              refine g_icmp_ge C (tgt := 343) dX5_isSame_312 (by decide) (fun c312 => ?_) (fun c312 => ?_)
              rotate_left
              · exact absurd c312 (by decide)
              refine g_iinc C 2 rfl (v := nI (i + 1)) (lv' := [(7, .int (nI (i + 1))), (11, .int (nI 6)), (4, .int (s_sum (fun j => if pl j = 0 then 0 else 1) (6 * i + 6))), (5, .ref (ad 89)), (6, .int (nI 5)), (9, .ref (ad (90 + i))), (10, .int (nI 6)), (2, .int (s_sum (fun q => s_worths (F q) (T q)) cnt)), (3, .int (s_sum (fun q => s_leftWith (F q) (T q) 0) cnt)), (0, .ref (ad 85)), (1, .ref (ad 0))]) dX5_isSame_343 (nI_add _ _) (by decide) rfl ?_
              refine g_goto C (tgt := 282) dX5_isSame_346 (by decide) ?_
              refine g_lv [0, 2, 3, 4, 7, 8, 9, 10] (lv' := [(7, .int (nI (i + 1))), (4, .int (s_sum (fun j => if pl j = 0 then 0 else 1) (6 * i + 6))), (5, .ref (ad 89)), (6, .int (nI 5)), (2, .int (s_sum (fun q => s_worths (F q) (T q)) cnt)), (3, .int (s_sum (fun q => s_leftWith (F q) (T q) 0) cnt)), (0, .ref (ad 85)), (1, .ref (ad 0))]) rfl ?_
              refine g_lveq (lv' := [(7, .int (nI (i + 1))), (4, .int (s_sum (fun j => if pl j = 0 then 0 else 1) (6 * (i + 1)))), (5, .ref (ad 89)), (6, .int (nI 5)), (2, .int (s_sum (fun q => s_worths (F q) (T q)) cnt)), (3, .int (s_sum (fun q => s_leftWith (F q) (T q) 0) cnt)), (0, .ref (ad 85)), (1, .ref (ad 0))]) (rfl) ?_
              exact ih
            · -- loop 308: its body
              refine g_iload C 0 rfl dX5_isSame_308 ?_
              refine g_iload C 6 rfl dX5_isSame_310 ?_
              refine g_icmp_ge C (tgt := 343) dX5_isSame_312 (by decide) (fun c312 => ?_) (fun c312 => ?_)
              · -- 343
                have c312 : 6 ≤ j := (nI_leI (by omega) (by omega)).mp c312
                exact absurd c312 (by omega)
              · -- 315
                have c312 : j < 6 := Nat.lt_of_not_le (fun z => c312 ((nI_leI (by omega) (by omega)).mpr z))
                refine g_aload C 5 rfl dX5_isSame_315 ?_
                refine g_iload C 0 rfl dX5_isSame_317 ?_
                refine g_zald C (90 + i) (by omega) h152 j rfl (by omega) (by decide) dX5_isSame_319 ?_
                refine g_top ((z153 j (by omega)) : g151 j = pl (6 * i + j)) ?_
                refine g_istore C (lv' := [(12, .int (pl (6 * i + j))), (11, .int (nI j)), (4, .int (s_sum (fun j => if pl j = 0 then 0 else 1) (6 * i + j))), (7, .int (nI i)), (5, .ref (ad 89)), (6, .int (nI 5)), (9, .ref (ad (90 + i))), (10, .int (nI 6)), (2, .int (s_sum (fun q => s_worths (F q) (T q)) cnt)), (3, .int (s_sum (fun q => s_leftWith (F q) (T q) 0) cnt)), (0, .ref (ad 85)), (1, .ref (ad 0))]) dX5_isSame_320 (by decide) rfl ?_
                refine g_iload C 2 rfl dX5_isSame_322 ?_
                refine g_iload C 0 rfl dX5_isSame_324 ?_
                refine g_via (fun v : Int32 => v = if pl (6 * i + j) = 0 then 0 else 1) 334 (fun _ => [(12, .int (pl (6 * i + j))), (11, .int (nI j)), (4, .int (s_sum (fun j => if pl j = 0 then 0 else 1) (6 * i + j))), (7, .int (nI i)), (5, .ref (ad 89)), (6, .int (nI 5)), (9, .ref (ad (90 + i))), (10, .int (nI 6)), (2, .int (s_sum (fun q => s_worths (F q) (T q)) cnt)), (3, .int (s_sum (fun q => s_leftWith (F q) (T q) 0) cnt)), (0, .ref (ad 85)), (1, .ref (ad 0))]) (fun v => .int v :: [.int (s_sum (fun j => if pl j = 0 then 0 else 1) (6 * i + j))]) (fun v hv => ?_) (fun J => ?_)
                · -- join
                  subst hv
                  refine g_iadd C (v := (s_sum (fun j => if pl j = 0 then 0 else 1) (6 * i + j)) + (if pl (6 * i + j) = 0 then 0 else 1)) dX5_isSame_334 rfl ?_
                  refine g_istore C (lv' := [(4, .int ((s_sum (fun j => if pl j = 0 then 0 else 1) (6 * i + j)) + (if pl (6 * i + j) = 0 then 0 else 1))), (12, .int (pl (6 * i + j))), (11, .int (nI j)), (7, .int (nI i)), (5, .ref (ad 89)), (6, .int (nI 5)), (9, .ref (ad (90 + i))), (10, .int (nI 6)), (2, .int (s_sum (fun q => s_worths (F q) (T q)) cnt)), (3, .int (s_sum (fun q => s_leftWith (F q) (T q) 0) cnt)), (0, .ref (ad 85)), (1, .ref (ad 0))]) dX5_isSame_335 (by decide) rfl ?_
                  refine g_iinc C 2 rfl (v := nI (j + 1)) (lv' := [(11, .int (nI (j + 1))), (4, .int ((s_sum (fun j => if pl j = 0 then 0 else 1) (6 * i + j)) + (if pl (6 * i + j) = 0 then 0 else 1))), (12, .int (pl (6 * i + j))), (7, .int (nI i)), (5, .ref (ad 89)), (6, .int (nI 5)), (9, .ref (ad (90 + i))), (10, .int (nI 6)), (2, .int (s_sum (fun q => s_worths (F q) (T q)) cnt)), (3, .int (s_sum (fun q => s_leftWith (F q) (T q) 0) cnt)), (0, .ref (ad 85)), (1, .ref (ad 0))]) dX5_isSame_337 (nI_add _ _) (by decide) rfl ?_
                  refine g_goto C (tgt := 308) dX5_isSame_340 (by decide) ?_
                  refine g_lv [0, 1, 3, 4, 5, 6, 7, 8, 9, 10, 11] (lv' := [(11, .int (nI (j + 1))), (4, .int ((s_sum (fun j => if pl j = 0 then 0 else 1) (6 * i + j)) + (if pl (6 * i + j) = 0 then 0 else 1))), (7, .int (nI i)), (5, .ref (ad 89)), (6, .int (nI 5)), (9, .ref (ad (90 + i))), (10, .int (nI 6)), (2, .int (s_sum (fun q => s_worths (F q) (T q)) cnt)), (3, .int (s_sum (fun q => s_leftWith (F q) (T q) 0) cnt)), (0, .ref (ad 85)), (1, .ref (ad 0))]) rfl ?_
                  have e9 : s_sum (fun j => if pl j = 0 then 0 else 1) (6 * i + (j + 1)) = (s_sum (fun j => if pl j = 0 then 0 else 1) (6 * i + j)) + (if pl (6 * i + j) = 0 then 0 else 1) := rfl
                  refine g_lveq (lv' := [(11, .int (nI (j + 1))), (4, .int (s_sum (fun j => if pl j = 0 then 0 else 1) (6 * i + (j + 1)))), (7, .int (nI i)), (5, .ref (ad 89)), (6, .int (nI 5)), (9, .ref (ad (90 + i))), (10, .int (nI 6)), (2, .int (s_sum (fun q => s_worths (F q) (T q)) cnt)), (3, .int (s_sum (fun q => s_leftWith (F q) (T q) 0) cnt)), (0, .ref (ad 85)), (1, .ref (ad 0))]) (by rw [e9]) ?_
                  exact jh
                · -- ways
                  refine g_if_eq C (tgt := 333) dX5_isSame_326 (by decide) (fun c326 => ?_) (fun c326 => ?_)
                  · -- 333
                    refine g_iconst C (v := nI 0) dX5_isSame_333 (by decide) ?_
                    refine g_lv [0, 1, 2, 3, 4, 5, 6, 7, 8, 9, 10, 11] (lv' := [(12, .int (pl (6 * i + j))), (11, .int (nI j)), (4, .int (s_sum (fun j => if pl j = 0 then 0 else 1) (6 * i + j))), (7, .int (nI i)), (5, .ref (ad 89)), (6, .int (nI 5)), (9, .ref (ad (90 + i))), (10, .int (nI 6)), (2, .int (s_sum (fun q => s_worths (F q) (T q)) cnt)), (3, .int (s_sum (fun q => s_leftWith (F q) (T q) 0) cnt)), (0, .ref (ad 85)), (1, .ref (ad 0))]) rfl ?_
                    exact J _ ((if_pos c326).symm)
                  · -- 329
                    refine g_iconst C (v := nI 1) dX5_isSame_329 (by decide) ?_
                    refine g_goto C (tgt := 334) dX5_isSame_330 (by decide) ?_
                    refine g_lv [0, 1, 2, 3, 4, 5, 6, 7, 8, 9, 10, 11] (lv' := [(12, .int (pl (6 * i + j))), (11, .int (nI j)), (4, .int (s_sum (fun j => if pl j = 0 then 0 else 1) (6 * i + j))), (7, .int (nI i)), (5, .ref (ad 89)), (6, .int (nI 5)), (9, .ref (ad (90 + i))), (10, .int (nI 6)), (2, .int (s_sum (fun q => s_worths (F q) (T q)) cnt)), (3, .int (s_sum (fun q => s_leftWith (F q) (T q) 0) cnt)), (0, .ref (ad 85)), (1, .ref (ad 0))]) rfl ?_
                    exact J _ ((if_neg c326).symm)
      · -- loop 142: its body
        refine g_iload C 0 rfl dX5_isSame_142 ?_
        refine g_bipush C (v := nI 7) dX5_isSame_144 (by decide) ?_
        refine g_icmp_ge C (tgt := 265) dX5_isSame_146 (by decide) (fun c146 => ?_) (fun c146 => ?_)
        · -- 265
          have c146 : 7 ≤ k := (nI_leI (by omega) (by omega)).mp c146
          exact absurd c146 (by omega)
        · -- 149
          have c146 : k < 7 := Nat.lt_of_not_le (fun z => c146 ((nI_leI (by omega) (by omega)).mpr z))
          refine g_iconst C (v := nI 4) dX5_isSame_149 (by decide) ?_
          refine g_newa C 0 (List.mem_of_getElem? (i := 2) rfl) (ty := .int) rfl rfl (N := 4) (a0 := (4, .inl (fun _ => 0))) (fun cA => rfl) (by decide) (by decide) (by decide) (by show _ ≤ 808; omega) (by show _ ≤ 4838; omega) dX5_isSame_150 (fun ad154 el155 ha156 he157 hb158 => ?_)
          refine g_lveq (lv' := [(4, .int (nI k)), (2, .int (s_sum (fun q => s_worths (F q) (T q)) cnt)), (3, .int (s_sum (fun q => s_leftWith (F q) (T q) 0) cnt)), (0, .ref (ad154 85)), (1, .ref (ad154 0))]) (by rw [ha156 0 (by omega), ha156 85 (by omega)]) ?_
          have m159 : el155 85 = .inr (5, [.int (M 0), .int (M 1), .int (M 2), .int (M 3), .int (M 4), .int (M 5), .ref (ad154 86), .ref (ad154 87), .ref (ad154 88), .ref (ad154 89), .ref (ad154 95), .ref (ad154 96)]) := by rw [hb158 85 (by omega), y1, ha156 86 (by omega), ha156 87 (by omega), ha156 88 (by omega), ha156 89 (by omega), ha156 95 (by omega), ha156 96 (by omega)]
          have m160 := (hb158 86 (by omega)).trans h10
          have m161 := (hb158 87 (by omega)).trans h13
          have m162 := (hb158 88 (by omega)).trans h16
          have m163 := (hb158 89 (by omega)).trans h19
          have m164 := (hb158 95 (by omega)).trans h23
          have m165 := (hb158 96 (by omega)).trans h26
          have m166 : el155 0 = .inr (4, [.ref (ad154 1), .ref (ad154 10), .ref (ad154 23), .ref (ad154 24), .int (nI cnt)]) := by rw [hb158 0 (by omega), h.1, ha156 1 (by omega), ha156 10 (by omega), ha156 23 (by omega), ha156 24 (by omega)]
          refine g_dup C dX5_isSame_152 rfl ?_
          refine g_iconst C (v := nI 0) dX5_isSame_153 (by decide) ?_
          refine g_aload_n C 3 rfl dX5_isSame_154 ?_
          refine g_getf C 85 (by omega) m159 rfl 6 (by decide) (fun w h => (List.mem_cons_of_mem _ (List.mem_append_left _ (List.mem_append_left _ (List.mem_append_left _ (List.mem_append_left _ (List.mem_append_left _ (List.mem_append_right _ h)))))))) (List.mem_of_getElem? (i := 3) rfl) rfl rfl dX5_isSame_155 ?_
          refine g_iload C 0 rfl dX5_isSame_158 ?_
          refine g_iald C 86 (by omega) m160 k rfl (by omega) (by decide) dX5_isSame_160 ?_
          refine g_top ((z11 k (by omega)) : g9 k = St k) ?_
          refine g_iast C n (by omega) he157 0 rfl (by omega) (by decide) dX5_isSame_161 (fun el167 e168 o169 => ?_)
          have m170 := (o169 85 (by omega)).trans m159
          have m171 := (o169 86 (by omega)).trans m160
          have m172 := (o169 87 (by omega)).trans m161
          have m173 := (o169 88 (by omega)).trans m162
          have m174 := (o169 89 (by omega)).trans m163
          have m175 := (o169 95 (by omega)).trans m164
          have m176 := (o169 96 (by omega)).trans m165
          have m177 := (o169 0 (by omega)).trans m166
          refine g_dup C dX5_isSame_162 rfl ?_
          refine g_iconst C (v := nI 1) dX5_isSame_163 (by decide) ?_
          refine g_aload_n C 3 rfl dX5_isSame_164 ?_
          refine g_getf C 85 (by omega) m170 rfl 7 (by decide) (fun w h => (List.mem_cons_of_mem _ (List.mem_append_left _ (List.mem_append_left _ (List.mem_append_left _ (List.mem_append_left _ (List.mem_append_left _ (List.mem_append_right _ h)))))))) (List.mem_of_getElem? (i := 4) rfl) rfl rfl dX5_isSame_165 ?_
          refine g_iload C 0 rfl dX5_isSame_168 ?_
          refine g_iald C 87 (by omega) m172 k rfl (by omega) (by decide) dX5_isSame_170 ?_
          refine g_top ((z14 k (by omega)) : g12 k = We k) ?_
          refine g_iast C n (by omega) e168 1 rfl (by omega) (by decide) dX5_isSame_171 (fun el178 e179 o180 => ?_)
          have m181 := (o180 85 (by omega)).trans m170
          have m182 := (o180 86 (by omega)).trans m171
          have m183 := (o180 87 (by omega)).trans m172
          have m184 := (o180 88 (by omega)).trans m173
          have m185 := (o180 89 (by omega)).trans m174
          have m186 := (o180 95 (by omega)).trans m175
          have m187 := (o180 96 (by omega)).trans m176
          have m188 := (o180 0 (by omega)).trans m177
          refine g_dup C dX5_isSame_172 rfl ?_
          refine g_iconst C (v := nI 2) dX5_isSame_173 (by decide) ?_
          refine g_aload_n C 3 rfl dX5_isSame_174 ?_
          refine g_getf C 85 (by omega) m181 rfl 8 (by decide) (fun w h => (List.mem_cons_of_mem _ (List.mem_append_left _ (List.mem_append_left _ (List.mem_append_left _ (List.mem_append_left _ (List.mem_append_left _ (List.mem_append_right _ h)))))))) (List.mem_of_getElem? (i := 5) rfl) rfl rfl dX5_isSame_175 ?_
          refine g_iload C 0 rfl dX5_isSame_178 ?_
          refine g_zald C 88 (by omega) m184 k rfl (by omega) (by decide) dX5_isSame_180 ?_
          refine g_top ((z17 k (by omega)) : g15 k = s_bk (St k) (We k)) ?_
          refine g_via (fun v : Int32 => v = if s_bk (St k) (We k) = 0 then 1 else 0) 189 (fun _ => [(4, .int (nI k)), (2, .int (s_sum (fun q => s_worths (F q) (T q)) cnt)), (3, .int (s_sum (fun q => s_leftWith (F q) (T q) 0) cnt)), (0, .ref (ad154 85)), (1, .ref (ad154 0))]) (fun v => .int v :: [.int (nI 2), .ref (ad154 n), .ref (ad154 n)]) (fun v hv => ?_) (fun J => ?_)
          · -- join
            subst hv
            refine g_iast C n (by omega) e179 2 rfl (by omega) (by decide) dX5_isSame_189 (fun el189 e190 o191 => ?_)
            have m192 := (o191 85 (by omega)).trans m181
            have m193 := (o191 86 (by omega)).trans m182
            have m194 := (o191 87 (by omega)).trans m183
            have m195 := (o191 88 (by omega)).trans m184
            have m196 := (o191 89 (by omega)).trans m185
            have m197 := (o191 95 (by omega)).trans m186
            have m198 := (o191 96 (by omega)).trans m187
            have m199 := (o191 0 (by omega)).trans m188
            refine g_dup C dX5_isSame_190 rfl ?_
            refine g_iconst C (v := nI 3) dX5_isSame_191 (by decide) ?_
            refine g_aload_n C 3 rfl dX5_isSame_192 ?_
            refine g_getf C 85 (by omega) m192 rfl 8 (by decide) (fun w h => (List.mem_cons_of_mem _ (List.mem_append_left _ (List.mem_append_left _ (List.mem_append_left _ (List.mem_append_left _ (List.mem_append_left _ (List.mem_append_right _ h)))))))) (List.mem_of_getElem? (i := 5) rfl) rfl rfl dX5_isSame_193 ?_
            refine g_iload C 0 rfl dX5_isSame_196 ?_
            refine g_zald C 88 (by omega) m195 k rfl (by omega) (by decide) dX5_isSame_198 ?_
            refine g_top ((z17 k (by omega)) : g15 k = s_bk (St k) (We k)) ?_
            refine g_via (fun v : Int32 => v = if s_bk (St k) (We k) = 0 then St k + 1 - We k else 0) 223 (fun _ => [(4, .int (nI k)), (2, .int (s_sum (fun q => s_worths (F q) (T q)) cnt)), (3, .int (s_sum (fun q => s_leftWith (F q) (T q) 0) cnt)), (0, .ref (ad154 85)), (1, .ref (ad154 0))]) (fun v => .int v :: [.int (nI 3), .ref (ad154 n), .ref (ad154 n)]) (fun v hv => ?_) (fun J => ?_)
            · -- join
              subst hv
              refine g_iast C n (by omega) e190 3 rfl (by omega) (by decide) dX5_isSame_223 (fun el200 e201 o202 => ?_)
              have m203 := (o202 85 (by omega)).trans m192
              have m204 := (o202 86 (by omega)).trans m193
              have m205 := (o202 87 (by omega)).trans m194
              have m206 := (o202 88 (by omega)).trans m195
              have m207 := (o202 89 (by omega)).trans m196
              have m208 := (o202 95 (by omega)).trans m197
              have m209 := (o202 96 (by omega)).trans m198
              have m210 := (o202 0 (by omega)).trans m199
              refine g_astore C (lv' := [(5, .ref (ad154 n)), (4, .int (nI k)), (2, .int (s_sum (fun q => s_worths (F q) (T q)) cnt)), (3, .int (s_sum (fun q => s_leftWith (F q) (T q) 0) cnt)), (0, .ref (ad154 85)), (1, .ref (ad154 0))]) dX5_isSame_224 (by decide) rfl ?_
              have hE1 : ∀ j, j < n → el200 j = el j := fun j hj => (o202 j (by omega)).trans ((o191 j (by omega)).trans ((o180 j (by omega)).trans ((o169 j (by omega)).trans (hb158 j (by omega)))))
              have hx1 : X4At V ad154 el200 cnt M St We pl F T := (h.keep (fun j hj => hE1 j (by omega))).adr (fun j hj => ha156 j (by omega))
              have hA1 : ∀ q, q < 4 → ((upd ((upd ((upd ((upd ((fun _ => 0)) 0 (St k))) 1 (We k))) 2 (if s_bk (St k) (We k) = 0 then 1 else 0))) 3 (if s_bk (St k) (We k) = 0 then St k + 1 - We k else 0))) q = s_pin (St k) (We k) (nI q) := fun q hq => by
                rcases (show q = 0 ∨ q = 1 ∨ q = 2 ∨ q = 3 by omega) with rfl | rfl | rfl | rfl
                · show St k = _
                  rw [s_pin, if_pos (by decide)]
                · show We k = _
                  rw [s_pin, if_neg (by decide), if_pos (by decide)]
                · exact told_p2 (St k) (We k)
                · exact told_p3 (St k) (We k)
              refine g_iconst C (v := nI 0) dX5_isSame_226 (by decide) ?_
              refine g_istore C (lv' := [(6, .int (nI 0)), (5, .ref (ad154 n)), (4, .int (nI k)), (2, .int (s_sum (fun q => s_worths (F q) (T q)) cnt)), (3, .int (s_sum (fun q => s_leftWith (F q) (T q) 0) cnt)), (0, .ref (ad154 85)), (1, .ref (ad154 0))]) dX5_isSame_227 (by decide) rfl ?_
              refine g_lv [0, 2, 1, 3, 4, 5, 6] (lv' := [(6, .int (nI 0)), (4, .int (nI k)), (5, .ref (ad154 n)), (2, .int (s_sum (fun q => s_worths (F q) (T q)) cnt)), (3, .int (s_sum (fun q => s_leftWith (F q) (T q) 0) cnt)), (0, .ref (ad154 85)), (1, .ref (ad154 0))]) rfl ?_
              refine g_for 4 (fun (i : Nat) => [(6, .int (nI i)), (4, .int (nI k)), (5, .ref (ad154 n)), (2, .int (s_sum (fun q => s_worths (F q) (T q)) cnt)), (3, .int (s_sum (fun q => s_leftWith (F q) (T q) 0) cnt)), (0, .ref (ad154 85)), (1, .ref (ad154 0))]) ?_ (fun i hi ih => ?_)
              · -- loop 229: its end
                refine g_iload C 0 rfl dX5_isSame_229 ?_
                refine g_iconst C (v := nI 4) dX5_isSame_231 (by decide) ?_
                refine g_icmp_ge C (tgt := 259) dX5_isSame_232 (by decide) (fun c232 => ?_) (fun c232 => ?_)
                rotate_left
                · exact absurd c232 (by decide)
                refine g_iinc C 1 rfl (v := nI (k + 1)) (lv' := [(4, .int (nI (k + 1))), (6, .int (nI 4)), (5, .ref (ad154 n)), (2, .int (s_sum (fun q => s_worths (F q) (T q)) cnt)), (3, .int (s_sum (fun q => s_leftWith (F q) (T q) 0) cnt)), (0, .ref (ad154 85)), (1, .ref (ad154 0))]) dX5_isSame_259 (nI_add _ _) (by decide) rfl ?_
                refine g_goto C (tgt := 142) dX5_isSame_262 (by decide) ?_
                refine g_lv [0, 3, 4, 5, 6] (lv' := [(4, .int (nI (k + 1))), (2, .int (s_sum (fun q => s_worths (F q) (T q)) cnt)), (3, .int (s_sum (fun q => s_leftWith (F q) (T q) 0) cnt)), (0, .ref (ad154 85)), (1, .ref (ad154 0))]) rfl ?_
                have hend : ∀ k, k < n → el200 k = el k := hE1
                refine g_lveq (lv' := [(4, .int (nI (k + 1))), (2, .int (s_sum (fun q => s_worths (F q) (T q)) cnt)), (3, .int (s_sum (fun q => s_leftWith (F q) (T q) 0) cnt)), (0, .ref (ad 85)), (1, .ref (ad 0))]) (by rw [ha156 85 (by omega), ha156 0 (by omega)] <;> rfl) ?_
                refine g_perm (fun k => k) (n' := n) (ad' := ad) (el' := el) (fun k h => by omega) (fun i j _ _ h => h) (fun k h => (ha156 k h).symm) (fun k h => (hend k h).symm) ?_
                refine g_widen (k := 40 * cnt + (k + 1)) (j := 240 * cnt + 4 * (k + 1)) (by omega) (by omega) ?_
                exact kh
              · -- loop 229: its body
                refine g_iload C 0 rfl dX5_isSame_229 ?_
                refine g_iconst C (v := nI 4) dX5_isSame_231 (by decide) ?_
                refine g_icmp_ge C (tgt := 259) dX5_isSame_232 (by decide) (fun c232 => ?_) (fun c232 => ?_)
                · -- 259
                  have c232 : 4 ≤ i := (nI_leI (by omega) (by omega)).mp c232
                  exact absurd c232 (by omega)
                · -- 235
                  have c232 : i < 4 := Nat.lt_of_not_le (fun z => c232 ((nI_leI (by omega) (by omega)).mpr z))
                  refine g_aload_n C 6 rfl dX5_isSame_235 ?_
                  refine g_iload C 1 rfl dX5_isSame_236 ?_
                  refine g_iload C 0 rfl dX5_isSame_238 ?_
                  refine g_calli C (r_V C (st := []) (c_X4_pin l V (by omega) hc hx1 k (by omega) i (by omega)) (cwV 2 C.ts gX5_isSame_X4_pin rfl rfl rfl (by decide +kernel) ⟨(Nat.le_of_ble_eq_true rfl), (Nat.le_of_ble_eq_true rfl)⟩) (by omega) hx1.1 rfl rfl rfl (Nat.le_of_ble_eq_true rfl) dX5_isSame_240 ⟨(by show _ ≤ 808; omega), (by show _ ≤ 4838; omega)⟩) (fun r u hu => ?_)
                  subst hu
                  refine g_aload C 2 rfl dX5_isSame_243 ?_
                  refine g_iload C 0 rfl dX5_isSame_245 ?_
                  refine g_iald C n (by omega) e201 i rfl (by omega) (by decide) dX5_isSame_247 ?_
                  refine g_top ((hA1 i (by omega)) : (upd ((upd ((upd ((upd ((fun _ => 0)) 0 (St k))) 1 (We k))) 2 (if s_bk (St k) (We k) = 0 then 1 else 0))) 3 (if s_bk (St k) (We k) = 0 then St k + 1 - We k else 0)) i = s_pin (St k) (We k) (nI i)) ?_
                  refine g_icmp_eq C (tgt := 253) dX5_isSame_248 (by decide) (fun c248 => ?_) (fun c248 => ?_)
                  · -- 253
                    refine g_iinc C 0 rfl (v := nI (i + 1)) (lv' := [(6, .int (nI (i + 1))), (4, .int (nI k)), (5, .ref (ad154 n)), (2, .int (s_sum (fun q => s_worths (F q) (T q)) cnt)), (3, .int (s_sum (fun q => s_leftWith (F q) (T q) 0) cnt)), (0, .ref (ad154 85)), (1, .ref (ad154 0))]) dX5_isSame_253 (nI_add _ _) (by decide) rfl ?_
                    refine g_goto C (tgt := 229) dX5_isSame_256 (by decide) ?_
                    refine g_lv [0, 1, 2, 3, 4, 5, 6] (lv' := [(6, .int (nI (i + 1))), (4, .int (nI k)), (5, .ref (ad154 n)), (2, .int (s_sum (fun q => s_worths (F q) (T q)) cnt)), (3, .int (s_sum (fun q => s_leftWith (F q) (T q) 0) cnt)), (0, .ref (ad154 85)), (1, .ref (ad154 0))]) rfl ?_
                    exact ih
                  · -- 251
                    exact absurd rfl c248
            · -- ways
              refine g_if_eq C (tgt := 206) dX5_isSame_199 (by decide) (fun c199 => ?_) (fun c199 => ?_)
              · -- 206
                refine g_aload_n C 3 rfl dX5_isSame_206 ?_
                refine g_getf C 85 (by omega) m192 rfl 6 (by decide) (fun w h => (List.mem_cons_of_mem _ (List.mem_append_left _ (List.mem_append_left _ (List.mem_append_left _ (List.mem_append_left _ (List.mem_append_left _ (List.mem_append_right _ h)))))))) (List.mem_of_getElem? (i := 3) rfl) rfl rfl dX5_isSame_207 ?_
                refine g_iload C 0 rfl dX5_isSame_210 ?_
                refine g_iald C 86 (by omega) m193 k rfl (by omega) (by decide) dX5_isSame_212 ?_
                refine g_top ((z11 k (by omega)) : g9 k = St k) ?_
                refine g_iconst C (v := nI 1) dX5_isSame_213 (by decide) ?_
                refine g_iadd C (v := (St k) + 1) dX5_isSame_214 rfl ?_
                refine g_aload_n C 3 rfl dX5_isSame_215 ?_
                refine g_getf C 85 (by omega) m192 rfl 7 (by decide) (fun w h => (List.mem_cons_of_mem _ (List.mem_append_left _ (List.mem_append_left _ (List.mem_append_left _ (List.mem_append_left _ (List.mem_append_left _ (List.mem_append_right _ h)))))))) (List.mem_of_getElem? (i := 4) rfl) rfl rfl dX5_isSame_216 ?_
                refine g_iload C 0 rfl dX5_isSame_219 ?_
                refine g_iald C 87 (by omega) m194 k rfl (by omega) (by decide) dX5_isSame_221 ?_
                refine g_top ((z14 k (by omega)) : g12 k = We k) ?_
                refine g_isub C (v := ((St k) + 1) - (We k)) dX5_isSame_222 rfl ?_
                refine g_lv [0, 1, 2, 3, 4] (lv' := [(4, .int (nI k)), (2, .int (s_sum (fun q => s_worths (F q) (T q)) cnt)), (3, .int (s_sum (fun q => s_leftWith (F q) (T q) 0) cnt)), (0, .ref (ad154 85)), (1, .ref (ad154 0))]) rfl ?_
                exact J _ ((if_pos c199).symm)
              · -- 202
                refine g_iconst C (v := nI 0) dX5_isSame_202 (by decide) ?_
                refine g_goto C (tgt := 223) dX5_isSame_203 (by decide) ?_
                refine g_lv [0, 1, 2, 3, 4] (lv' := [(4, .int (nI k)), (2, .int (s_sum (fun q => s_worths (F q) (T q)) cnt)), (3, .int (s_sum (fun q => s_leftWith (F q) (T q) 0) cnt)), (0, .ref (ad154 85)), (1, .ref (ad154 0))]) rfl ?_
                exact J _ ((if_neg c199).symm)
          · -- ways
            refine g_if_eq C (tgt := 188) dX5_isSame_181 (by decide) (fun c181 => ?_) (fun c181 => ?_)
            · -- 188
              refine g_iconst C (v := nI 1) dX5_isSame_188 (by decide) ?_
              refine g_lv [0, 1, 2, 3, 4] (lv' := [(4, .int (nI k)), (2, .int (s_sum (fun q => s_worths (F q) (T q)) cnt)), (3, .int (s_sum (fun q => s_leftWith (F q) (T q) 0) cnt)), (0, .ref (ad154 85)), (1, .ref (ad154 0))]) rfl ?_
              exact J _ ((if_pos c181).symm)
            · -- 184
              refine g_iconst C (v := nI 0) dX5_isSame_184 (by decide) ?_
              refine g_goto C (tgt := 189) dX5_isSame_185 (by decide) ?_
              refine g_lv [0, 1, 2, 3, 4] (lv' := [(4, .int (nI k)), (2, .int (s_sum (fun q => s_worths (F q) (T q)) cnt)), (3, .int (s_sum (fun q => s_leftWith (F q) (T q) 0) cnt)), (0, .ref (ad154 85)), (1, .ref (ad154 0))]) rfl ?_
              exact J _ ((if_neg c181).symm)
    · -- 17
      have c14 : cnt < cnt := Nat.lt_of_not_le (fun z => c14 ((nI_leI (by omega) (by omega)).mpr z))
      exact absurd c14 (by omega)
  · -- loop 7: its body
    refine g_iload C 0 rfl dX5_isSame_7 ?_
    refine g_aload_n C 3 rfl dX5_isSame_9 ?_
    refine g_getf C 85 (by omega) y1 rfl 10 (by decide) (fun w h => (List.mem_cons_of_mem _ (List.mem_append_left _ (List.mem_append_left _ (List.mem_append_left _ (List.mem_append_left _ (List.mem_append_left _ (List.mem_append_right _ h)))))))) (List.mem_of_getElem? (i := 1) rfl) rfl rfl dX5_isSame_10 ?_
    refine g_alen C 95 (by omega) 7 rfl h23 (v := nI cnt) rfl dX5_isSame_13 ?_
    refine g_icmp_ge C (tgt := 139) dX5_isSame_14 (by decide) (fun c14 => ?_) (fun c14 => ?_)
    · -- 139
      have c14 : cnt ≤ k := (nI_leI (by omega) (by omega)).mp c14
      exact absurd c14 (by omega)
    · -- 17
      have c14 : k < cnt := Nat.lt_of_not_le (fun z => c14 ((nI_leI (by omega) (by omega)).mpr z))
      refine g_iconst C (v := nI 0) dX5_isSame_17 (by decide) ?_
      refine g_istore C (lv' := [(5, .int (nI 0)), (4, .int (nI k)), (2, .int (s_sum (fun q => s_worths (F q) (T q)) k)), (3, .int (s_sum (fun q => s_leftWith (F q) (T q) 0) k)), (0, .ref (ad 85)), (1, .ref (ad 0))]) dX5_isSame_18 (by decide) rfl ?_
      refine g_lv [0, 1, 2, 3, 4, 5] (lv' := [(5, .int (nI 0)), (4, .int (nI k)), (2, .int (s_sum (fun q => s_worths (F q) (T q)) k)), (3, .int (s_sum (fun q => s_leftWith (F q) (T q) 0) k)), (0, .ref (ad 85)), (1, .ref (ad 0))]) rfl ?_
      refine g_forC 6 (fun i => 40 * k + 5 * i) (fun i => 240 * k + 30 * i) (fun (i : Nat) => [(5, .int (nI i)), (4, .int (nI k)), (2, .int (s_sum (fun q => s_worths (F q) (T q)) k)), (3, .int (s_sum (fun q => s_leftWith (F q) (T q) 0) k)), (0, .ref (ad 85)), (1, .ref (ad 0))]) ?_ (fun i hi ih => ?_)
      · -- loop 20: its end
        refine g_iload C 0 rfl dX5_isSame_20 ?_
        refine g_bipush C (v := nI 6) dX5_isSame_22 (by decide) ?_
        refine g_icmp_ge C (tgt := 54) dX5_isSame_24 (by decide) (fun c24 => ?_) (fun c24 => ?_)
        rotate_left
        · exact absurd c24 (by decide)
        refine g_iconst C (v := nI 0) dX5_isSame_54 (by decide) ?_
        refine g_istore C (lv' := [(5, .int (nI 0)), (4, .int (nI k)), (2, .int (s_sum (fun q => s_worths (F q) (T q)) k)), (3, .int (s_sum (fun q => s_leftWith (F q) (T q) 0) k)), (0, .ref (ad 85)), (1, .ref (ad 0))]) dX5_isSame_55 (by decide) rfl ?_
        refine g_lv [0, 1, 2, 3, 4, 5] (lv' := [(5, .int (nI 0)), (4, .int (nI k)), (2, .int (s_sum (fun q => s_worths (F q) (T q)) k)), (3, .int (s_sum (fun q => s_leftWith (F q) (T q) 0) k)), (0, .ref (ad 85)), (1, .ref (ad 0))]) rfl ?_
        refine g_for 5 (fun (i : Nat) => [(5, .int (nI i)), (4, .int (nI k)), (2, .int (s_sum (fun q => s_worths (F q) (T q)) k)), (3, .int (s_sum (fun q => s_leftWith (F q) (T q) 0) k)), (0, .ref (ad 85)), (1, .ref (ad 0))]) ?_ (fun i hi ih => ?_)
        · -- loop 57: its end
          refine g_iload C 0 rfl dX5_isSame_57 ?_
          refine g_iconst C (v := nI 5) dX5_isSame_59 (by decide) ?_
          refine g_icmp_ge C (tgt := 113) dX5_isSame_60 (by decide) (fun c60 => ?_) (fun c60 => ?_)
          rotate_left
          · exact absurd c60 (by decide)
          refine g_iload_n C 2 rfl dX5_isSame_113 ?_
          refine g_aload_n C 4 rfl dX5_isSame_114 ?_
          refine g_iload C 1 rfl dX5_isSame_115 ?_
          refine g_iconst C (v := nI 2) dX5_isSame_117 (by decide) ?_
          refine g_calli C (r_V C (st := [.int (s_sum (fun q => s_worths (F q) (T q)) k)]) (c_X5_told l V hB hc hn hs k (by omega) 2 (by omega) (hF _ (by omega))) (cwV 2 C.ts gX5_isSame_X5_told rfl rfl rfl (by decide +kernel) ⟨(Nat.le_of_ble_eq_true rfl), (Nat.le_of_ble_eq_true rfl)⟩) (by omega) y1 rfl rfl rfl (Nat.le_of_ble_eq_true rfl) dX5_isSame_118 ⟨(by show _ ≤ 808; omega), (by show _ ≤ 4838; omega)⟩) (fun r u hu => ?_)
          subst hu
          refine g_top (sheet_2 (F k) (T k)) ?_
          refine g_iadd C (v := (s_sum (fun q => s_worths (F q) (T q)) k) + (s_worths (F k) (T k))) dX5_isSame_121 rfl ?_
          refine g_istore_n C (lv' := [(2, .int ((s_sum (fun q => s_worths (F q) (T q)) k) + (s_worths (F k) (T k)))), (5, .int (nI 5)), (4, .int (nI k)), (3, .int (s_sum (fun q => s_leftWith (F q) (T q) 0) k)), (0, .ref (ad 85)), (1, .ref (ad 0))]) dX5_isSame_122 (by decide) rfl ?_
          refine g_iload_n C 3 rfl dX5_isSame_123 ?_
          refine g_aload_n C 4 rfl dX5_isSame_124 ?_
          refine g_iload C 2 rfl dX5_isSame_125 ?_
          refine g_iconst C (v := nI 1) dX5_isSame_127 (by decide) ?_
          refine g_calli C (r_V C (st := [.int (s_sum (fun q => s_leftWith (F q) (T q) 0) k)]) (c_X5_told l V hB hc hn hs k (by omega) 1 (by omega) (hF _ (by omega))) (cwV 2 C.ts gX5_isSame_X5_told rfl rfl rfl (by decide +kernel) ⟨(Nat.le_of_ble_eq_true rfl), (Nat.le_of_ble_eq_true rfl)⟩) (by omega) y1 rfl rfl rfl (Nat.le_of_ble_eq_true rfl) dX5_isSame_128 ⟨(by show _ ≤ 808; omega), (by show _ ≤ 4838; omega)⟩) (fun r u hu => ?_)
          subst hu
          refine g_top (sheet_1 (F k) (T k)) ?_
          refine g_iadd C (v := (s_sum (fun q => s_leftWith (F q) (T q) 0) k) + (s_leftWith (F k) (T k) 0)) dX5_isSame_131 rfl ?_
          refine g_istore_n C (lv' := [(3, .int ((s_sum (fun q => s_leftWith (F q) (T q) 0) k) + (s_leftWith (F k) (T k) 0))), (2, .int ((s_sum (fun q => s_worths (F q) (T q)) k) + (s_worths (F k) (T k)))), (5, .int (nI 5)), (4, .int (nI k)), (0, .ref (ad 85)), (1, .ref (ad 0))]) dX5_isSame_132 (by decide) rfl ?_
          refine g_iinc C 3 rfl (v := nI (k + 1)) (lv' := [(4, .int (nI (k + 1))), (3, .int ((s_sum (fun q => s_leftWith (F q) (T q) 0) k) + (s_leftWith (F k) (T k) 0))), (2, .int ((s_sum (fun q => s_worths (F q) (T q)) k) + (s_worths (F k) (T k)))), (5, .int (nI 5)), (0, .ref (ad 85)), (1, .ref (ad 0))]) dX5_isSame_133 (nI_add _ _) (by decide) rfl ?_
          refine g_goto C (tgt := 7) dX5_isSame_136 (by decide) ?_
          refine g_lv [0, 2, 1, 4, 5] (lv' := [(4, .int (nI (k + 1))), (2, .int ((s_sum (fun q => s_worths (F q) (T q)) k) + (s_worths (F k) (T k)))), (3, .int ((s_sum (fun q => s_leftWith (F q) (T q) 0) k) + (s_leftWith (F k) (T k) 0))), (0, .ref (ad 85)), (1, .ref (ad 0))]) rfl ?_
          refine g_lveq (lv' := [(4, .int (nI (k + 1))), (2, .int (s_sum (fun q => s_worths (F q) (T q)) (k + 1))), (3, .int (s_sum (fun q => s_leftWith (F q) (T q) 0) (k + 1))), (0, .ref (ad 85)), (1, .ref (ad 0))]) (rfl) ?_
          refine g_widen (k := 40 * (k + 1)) (j := 240 * (k + 1)) (by omega) (by omega) ?_
          exact kh
        · -- loop 57: its body
          refine g_iload C 0 rfl dX5_isSame_57 ?_
          refine g_iconst C (v := nI 5) dX5_isSame_59 (by decide) ?_
          refine g_icmp_ge C (tgt := 113) dX5_isSame_60 (by decide) (fun c60 => ?_) (fun c60 => ?_)
          · -- 113
            have c60 : 5 ≤ i := (nI_leI (by omega) (by omega)).mp c60
            exact absurd c60 (by omega)
          · -- 63
            have c60 : i < 5 := Nat.lt_of_not_le (fun z => c60 ((nI_leI (by omega) (by omega)).mpr z))
            refine g_iconst C (v := nI 0) dX5_isSame_63 (by decide) ?_
            refine g_istore C (lv' := [(6, .int (nI 0)), (5, .int (nI i)), (4, .int (nI k)), (2, .int (s_sum (fun q => s_worths (F q) (T q)) k)), (3, .int (s_sum (fun q => s_leftWith (F q) (T q) 0) k)), (0, .ref (ad 85)), (1, .ref (ad 0))]) dX5_isSame_64 (by decide) rfl ?_
            refine g_lv [0, 1, 2, 3, 4, 5, 6] (lv' := [(6, .int (nI 0)), (5, .int (nI i)), (4, .int (nI k)), (2, .int (s_sum (fun q => s_worths (F q) (T q)) k)), (3, .int (s_sum (fun q => s_leftWith (F q) (T q) 0) k)), (0, .ref (ad 85)), (1, .ref (ad 0))]) rfl ?_
            refine g_for 6 (fun (j : Nat) => [(6, .int (nI j)), (5, .int (nI i)), (4, .int (nI k)), (2, .int (s_sum (fun q => s_worths (F q) (T q)) k)), (3, .int (s_sum (fun q => s_leftWith (F q) (T q) 0) k)), (0, .ref (ad 85)), (1, .ref (ad 0))]) ?_ (fun j hj jh => ?_)
            · -- loop 66: its end
              refine g_iload C 0 rfl dX5_isSame_66 ?_
              refine g_bipush C (v := nI 6) dX5_isSame_68 (by decide) ?_
              refine g_icmp_ge C (tgt := 107) dX5_isSame_70 (by decide) (fun c70 => ?_) (fun c70 => ?_)
              rotate_left
              · exact absurd c70 (by decide)
              refine g_iinc C 1 rfl (v := nI (i + 1)) (lv' := [(5, .int (nI (i + 1))), (6, .int (nI 6)), (4, .int (nI k)), (2, .int (s_sum (fun q => s_worths (F q) (T q)) k)), (3, .int (s_sum (fun q => s_leftWith (F q) (T q) 0) k)), (0, .ref (ad 85)), (1, .ref (ad 0))]) dX5_isSame_107 (nI_add _ _) (by decide) rfl ?_
              refine g_goto C (tgt := 57) dX5_isSame_110 (by decide) ?_
              refine g_lv [0, 2, 3, 4, 5, 6] (lv' := [(5, .int (nI (i + 1))), (4, .int (nI k)), (2, .int (s_sum (fun q => s_worths (F q) (T q)) k)), (3, .int (s_sum (fun q => s_leftWith (F q) (T q) 0) k)), (0, .ref (ad 85)), (1, .ref (ad 0))]) rfl ?_
              exact ih
            · -- loop 66: its body
              refine g_iload C 0 rfl dX5_isSame_66 ?_
              refine g_bipush C (v := nI 6) dX5_isSame_68 (by decide) ?_
              refine g_icmp_ge C (tgt := 107) dX5_isSame_70 (by decide) (fun c70 => ?_) (fun c70 => ?_)
              · -- 107
                have c70 : 6 ≤ j := (nI_leI (by omega) (by omega)).mp c70
                exact absurd c70 (by omega)
              · -- 73
                have c70 : j < 6 := Nat.lt_of_not_le (fun z => c70 ((nI_leI (by omega) (by omega)).mpr z))
                refine g_aload_n C 6 rfl dX5_isSame_73 ?_
                refine g_iload C 2 rfl dX5_isSame_74 ?_
                refine g_iload C 1 rfl dX5_isSame_76 ?_
                refine g_iload C 0 rfl dX5_isSame_78 ?_
                refine g_calli C (r_V C (st := []) (c_X4_faults l V (by omega) hc h k (by omega) i (by omega) j (by omega)) (cwV 3 C.ts gX5_isSame_X4_faults rfl rfl rfl (by decide +kernel) ⟨(Nat.le_of_ble_eq_true rfl), (Nat.le_of_ble_eq_true rfl)⟩) (by omega) h.1 rfl rfl rfl (Nat.le_of_ble_eq_true rfl) dX5_isSame_80 ⟨(by show _ ≤ 808; omega), (by show _ ≤ 4838; omega)⟩) (fun r u hu => ?_)
                subst hu
                refine g_aload_n C 5 rfl dX5_isSame_83 ?_
                refine g_getf C 85 (by omega) y1 rfl 10 (by decide) (fun w h => (List.mem_cons_of_mem _ (List.mem_append_left _ (List.mem_append_left _ (List.mem_append_left _ (List.mem_append_left _ (List.mem_append_left _ (List.mem_append_right _ h)))))))) (List.mem_of_getElem? (i := 1) rfl) rfl rfl dX5_isSame_84 ?_
                refine g_iload C 2 rfl dX5_isSame_87 ?_
                refine g_aaldA C 95 (by omega) 7 rfl h23 k rfl (by omega) (by omega) (z24 k (by omega)) dX5_isSame_89 ?_
                obtain ⟨⟨g211, h212, z213⟩, r214⟩ := id (y8 k (by omega)).1
                refine g_iload C 1 rfl dX5_isSame_90 ?_
                refine g_aaldA C (B + 12 * k) (by omega) 5 rfl h212 i rfl (by omega) (by decide) (z213 i (by omega)) dX5_isSame_92 ?_
                obtain ⟨g215, h216, z217⟩ := id (r214 i (by omega))
                refine g_iload C 0 rfl dX5_isSame_93 ?_
                refine g_iald C (B + 12 * k + 1 + i) (by omega) h216 j rfl (by omega) (by decide) dX5_isSame_95 ?_
                refine g_top ((z217 j (by omega)) : g215 j = F k (6 * i + j)) ?_
                refine g_icmp_eq C (tgt := 101) dX5_isSame_96 (by decide) (fun c96 => ?_) (fun c96 => ?_)
                · -- 101
                  refine g_iinc C 0 rfl (v := nI (j + 1)) (lv' := [(6, .int (nI (j + 1))), (5, .int (nI i)), (4, .int (nI k)), (2, .int (s_sum (fun q => s_worths (F q) (T q)) k)), (3, .int (s_sum (fun q => s_leftWith (F q) (T q) 0) k)), (0, .ref (ad 85)), (1, .ref (ad 0))]) dX5_isSame_101 (nI_add _ _) (by decide) rfl ?_
                  refine g_goto C (tgt := 66) dX5_isSame_104 (by decide) ?_
                  refine g_lv [0, 1, 2, 3, 4, 5, 6] (lv' := [(6, .int (nI (j + 1))), (5, .int (nI i)), (4, .int (nI k)), (2, .int (s_sum (fun q => s_worths (F q) (T q)) k)), (3, .int (s_sum (fun q => s_leftWith (F q) (T q) 0) k)), (0, .ref (ad 85)), (1, .ref (ad 0))]) rfl ?_
                  exact jh
                · -- 99
                  exact absurd rfl c96
      · -- loop 20: its body
        refine g_iload C 0 rfl dX5_isSame_20 ?_
        refine g_bipush C (v := nI 6) dX5_isSame_22 (by decide) ?_
        refine g_icmp_ge C (tgt := 54) dX5_isSame_24 (by decide) (fun c24 => ?_) (fun c24 => ?_)
        · -- 54
          have c24 : 6 ≤ i := (nI_leI (by omega) (by omega)).mp c24
          exact absurd c24 (by omega)
        · -- 27
          have c24 : i < 6 := Nat.lt_of_not_le (fun z => c24 ((nI_leI (by omega) (by omega)).mpr z))
          refine g_aload_n C 5 rfl dX5_isSame_27 ?_
          refine g_iload C 1 rfl dX5_isSame_28 ?_
          refine g_iload C 0 rfl dX5_isSame_30 ?_
          refine g_calli C (r_V C (st := []) (c_X4_sheet l V (by omega) hc h k (by omega) i (by omega)) (cwV 2 C.ts gX5_isSame_X4_sheet rfl rfl rfl (by decide +kernel) ⟨(Nat.le_of_ble_eq_true rfl), (Nat.le_of_ble_eq_true rfl)⟩) (by omega) h.1 rfl rfl rfl (Nat.le_of_ble_eq_true rfl) dX5_isSame_32 ⟨(by show _ ≤ 808; omega), (by show _ ≤ 4838; omega)⟩) (fun r u hu => ?_)
          subst hu
          refine g_aload_n C 4 rfl dX5_isSame_35 ?_
          refine g_iload C 1 rfl dX5_isSame_36 ?_
          refine g_iload C 0 rfl dX5_isSame_38 ?_
          refine g_calli C (r_V C (st := [.int (s_sheet (F k) (T k) (nI i))]) (c_X5_told l V hB hc hn hs k (by omega) i (by omega) (hF _ (by omega))) (cwV 2 C.ts gX5_isSame_X5_told rfl rfl rfl (by decide +kernel) ⟨(Nat.le_of_ble_eq_true rfl), (Nat.le_of_ble_eq_true rfl)⟩) (by omega) y1 rfl rfl rfl (Nat.le_of_ble_eq_true rfl) dX5_isSame_40 ⟨(by show _ ≤ 808; omega), (by show _ ≤ 4838; omega)⟩) (fun r u hu => ?_)
          subst hu
          refine g_icmp_eq C (tgt := 48) dX5_isSame_43 (by decide) (fun c43 => ?_) (fun c43 => ?_)
          · -- 48
            refine g_iinc C 0 rfl (v := nI (i + 1)) (lv' := [(5, .int (nI (i + 1))), (4, .int (nI k)), (2, .int (s_sum (fun q => s_worths (F q) (T q)) k)), (3, .int (s_sum (fun q => s_leftWith (F q) (T q) 0) k)), (0, .ref (ad 85)), (1, .ref (ad 0))]) dX5_isSame_48 (nI_add _ _) (by decide) rfl ?_
            refine g_goto C (tgt := 20) dX5_isSame_51 (by decide) ?_
            refine g_lv [0, 1, 2, 3, 4, 5] (lv' := [(5, .int (nI (i + 1))), (4, .int (nI k)), (2, .int (s_sum (fun q => s_worths (F q) (T q)) k)), (3, .int (s_sum (fun q => s_leftWith (F q) (T q) 0) k)), (0, .ref (ad 85)), (1, .ref (ad 0))]) rfl ?_
            refine g_widen (k := 40 * k + 5 * (i + 1)) (j := 240 * k + 30 * (i + 1)) (by omega) (by omega) ?_
            exact ih
          · -- 46
            exact absurd rfl c43
