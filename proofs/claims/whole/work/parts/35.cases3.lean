/-! ===== the law's cases, on ===== -/
set_option maxHeartbeats 4000000 in
set_option maxRecDepth 100000 in
theorem law_case_6 {p : Program} {l : Launch} {e : Env} {s : State} {m : MethodId} {b L : Nat} {xs : Nat → Int32} {below : List Frame} {meth : Method} {c : Code} {V : gT} {Q : State → Prop} {ad : Nat → Nat} {el : Nat → va_E} {cells slots : Nat} (hlt : l.stackTraces = false) (C : CX V (AL s) RL cL_law 9 (some .boolean) wsL_law p s m #[Value.ref b] meth c) (hX : va_X b L xs s s.heap) (hbl : b < s.heap.size) (hL : L ≤ 2048) (j : Nat) (hj : 4 * j + 4 ≤ L) (hcc : cells + 6 ≤ 601024) (hss : slots + 40 ≤ 7293034) (hJ : Inv V ad el) (K : ∀ el2, Inv V ad el2 → GW p l e room_1 s m #[Value.ref b] below meth c V (AL s) 9 Q 93 ad el2 (cells + 6) (slots + 40) 1039 [(4, .int (nI (4 * j))), (3, .ref (ad 92)), (2, .ref (ad 85)), (1, .ref (ad 0)), (0, .ref b)] []) : GW p l e room_1 s m #[Value.ref b] below meth c V (AL s) 9 Q 93 ad el cells slots 452 [(4, .int (nI (4 * j))), (3, .ref (ad 92)), (2, .ref (ad 85)), (1, .ref (ad 0)), (0, .ref b)] [] := by
  obtain ⟨cnt, M, St, We, pl, F, T, hc, h4, ⟨thr, sh, h5⟩, hstep, hF, hT, hP, g0, ho⟩ := hJ
  refine g_aload_n C 3 rfl dL_law_452 ?_
  refine g_aload_n C 4 rfl dL_law_453 ?_
  refine g_iload C 0 rfl dL_law_454 ?_
  refine g_iconst C (v := nI 1) dL_law_456 (by decide) ?_
  refine g_iadd C (v := nI ((4 * j) + 1)) dL_law_457 (nI_add _ _) ?_
  refine g_sld C hX hbl hL ((4 * j) + 1) rfl (by omega) dL_law_458 ?_
  refine g_aload_n C 4 rfl dL_law_459 ?_
  refine g_iload C 0 rfl dL_law_460 ?_
  refine g_iconst C (v := nI 2) dL_law_462 (by decide) ?_
  refine g_iadd C (v := nI ((4 * j) + 2)) dL_law_463 (nI_add _ _) ?_
  refine g_sld C hX hbl hL ((4 * j) + 2) rfl (by omega) dL_law_464 ?_
  refine g_aload_n C 4 rfl dL_law_465 ?_
  refine g_iload C 0 rfl dL_law_466 ?_
  refine g_iconst C (v := nI 3) dL_law_468 (by decide) ?_
  refine g_iadd C (v := nI ((4 * j) + 3)) dL_law_469 (nI_add _ _) ?_
  refine g_sld C hX hbl hL ((4 * j) + 3) rfl (by omega) dL_law_470 ?_
  refine g_aload_n C 1 rfl dL_law_471 ?_
  refine g_xcalli C (r_xSH C (st := []) (c_L_faults l V hlt (by omega) hc h4 g0 ho (xs (4 * j + 1)) (xs (4 * j + 2)) (xs (4 * j + 3))) (vx_cwSW 5 C.ts gL_law_L_faults rfl rfl rfl (by decide +kernel) ⟨(Nat.le_of_ble_eq_true rfl), (Nat.le_of_ble_eq_true rfl)⟩) rfl rfl (Nat.le_of_ble_eq_true rfl) dL_law_472 ⟨by show _ ≤ 601024; omega, by show _ ≤ 7293034; omega⟩) (fun E hE => hE.elim) (fun k u hu => ?_)
  rcases hu with ⟨rfl, r8, u8, hp, e8, ho8, hO⟩ | ⟨rfl, hno, hsame⟩
  · -- way 0
    obtain ⟨i, r, cl, hi, hr0, hcl, hxi, hyr, hzc, hr⟩ := hp
    subst e8
    have hx4u := h4.keep (fun j hj => ho8 j (by omega))
    have hx5u := h5.keep (fun j h1 h2 => (ho8 j (by omega)).trans rfl)
    obtain ⟨g1, ho1, ho2⟩ := hO
    refine g_istore C (lv' := [(5, .int 0), (4, .int (nI (4 * j))), (3, .ref (ad 92)), (2, .ref (ad 85)), (1, .ref (ad 0)), (0, .ref b)]) dL_law_475 (by decide) rfl ?_
    refine g_aload_n C 3 rfl dL_law_477 ?_
    refine g_aload_n C 5 rfl dL_law_478 ?_
    refine g_iload C 1 rfl dL_law_479 ?_
    refine g_iconst C (v := nI 1) dL_law_481 (by decide) ?_
    refine g_iadd C (v := nI ((4 * j) + 1)) dL_law_482 (nI_add _ _) ?_
    refine g_sld C hX hbl hL ((4 * j) + 1) rfl (by omega) dL_law_483 ?_
    refine g_aload_n C 5 rfl dL_law_484 ?_
    refine g_iload C 1 rfl dL_law_485 ?_
    refine g_iconst C (v := nI 2) dL_law_487 (by decide) ?_
    refine g_iadd C (v := nI ((4 * j) + 2)) dL_law_488 (nI_add _ _) ?_
    refine g_sld C hX hbl hL ((4 * j) + 2) rfl (by omega) dL_law_489 ?_
    refine g_aload_n C 5 rfl dL_law_490 ?_
    refine g_iload C 1 rfl dL_law_491 ?_
    refine g_iconst C (v := nI 3) dL_law_493 (by decide) ?_
    refine g_iadd C (v := nI ((4 * j) + 3)) dL_law_494 (nI_add _ _) ?_
    refine g_sld C hX hbl hL ((4 * j) + 3) rfl (by omega) dL_law_495 ?_
    refine g_calli C (r_V C (st := []) (c_X5_faults l V (by omega) hc hx5u hF (xs (4 * j + 1)) (xs (4 * j + 2)) (xs (4 * j + 3))) (cwV 3 C.ts gL_law_X5_faults rfl rfl rfl (by decide +kernel) ⟨(Nat.le_of_ble_eq_true rfl), (Nat.le_of_ble_eq_true rfl)⟩) (by omega) hx5u.1 rfl rfl rfl (Nat.le_of_ble_eq_true rfl) dL_law_496 ⟨by show _ ≤ 601024; omega, by show _ ≤ 7293034; omega⟩) (fun v u2 hv => ?_)
    obtain ⟨hd, hfr2⟩ := hv
    have hx4v := hx4u.keep (fun j hj => hfr2 j (by omega))
    have hov := (hfr2 92 (by omega)).trans ho1
    rcases hd with ⟨i5, r5, cl5, hi5, hr5, hcl5, hxi5, hyr5, hzc5, hv5, hx5v⟩ | ⟨hno5, hx5v⟩
    · -- answer 0
      have e_i := nI_inj (by omega) (by omega) hxi hxi5
      subst e_i
      have e_r := nI_inj (by omega) (by omega) hyr hyr5
      subst e_r
      have e_c := nI_inj (by omega) (by omega) hzc hzc5
      subst e_c
      have hval : r8 = v := hr.trans hv5.symm
      refine g_istore C (lv' := [(6, .int v), (5, .int 0), (4, .int (nI (4 * j))), (3, .ref (ad 92)), (2, .ref (ad 85)), (1, .ref (ad 0)), (0, .ref b)]) dL_law_499 (by decide) rfl ?_
      refine g_aload_n C 4 rfl dL_law_501 ?_
      refine g_calli C (r_V C (st := []) (c_X5_thrown l V (by omega) hc hx5v) (cwV 0 C.ts gL_law_X5_thrown rfl rfl rfl (by decide +kernel) ⟨(Nat.le_of_ble_eq_true rfl), (Nat.le_of_ble_eq_true rfl)⟩) (by omega) hx5v.1 rfl rfl rfl (Nat.le_of_ble_eq_true rfl) dL_law_502 ⟨by show _ ≤ 601024; omega, by show _ ≤ 7293034; omega⟩) (fun t u3 ht => ?_)
      subst ht
      refine g_iload C 1 rfl dL_law_505 ?_
      refine g_icmp_eq C (tgt := 512) dL_law_507 (by decide) (fun c507 => ?_) (fun c507 => ?_)
      · -- 512
        refine g_iload C 1 rfl dL_law_512 ?_
        refine g_if_ne C (tgt := 529) dL_law_514 (by decide) (fun c514 => ?_) (fun c514 => ?_)
        · -- 529
          exact absurd rfl c514
        · -- 517
          refine g_aload_n C 3 rfl dL_law_517 ?_
          refine g_iconst C (v := nI 0) dL_law_518 (by decide) ?_
          refine g_lald C 92 (by omega) hov 0 rfl (by omega) (by decide) dL_law_519 ?_
          refine g_topl (ho2 : g1 0 = r8.toInt64) ?_
          refine g_iload C 0 rfl dL_law_520 ?_
          refine g_i2l C (v := v.toInt64) dL_law_522 rfl ?_
          refine g_lcmp C dL_law_523 ?_
          refine g_top ((by rw [hval]; exact lg_cmp_same _) : lg_cmp r8.toInt64 v.toInt64 = 0) ?_
          refine g_if_eq C (tgt := 529) dL_law_524 (by decide) (fun c524 => ?_) (fun c524 => ?_)
          · -- 529
            refine g_goto C (tgt := 1039) dL_law_529 (by decide) ?_
            refine g_lv [2, 3, 4, 5, 6] (lv' := [(4, .int (nI (4 * j))), (3, .ref (ad 92)), (2, .ref (ad 85)), (1, .ref (ad 0)), (0, .ref b)]) rfl ?_
            refine g_widen (k := cells + 6) (j := slots + 40) (by omega) (by omega) ?_
            exact K _ ⟨cnt, M, St, We, pl, F, T, hc, hx4v, ⟨_, _, hx5v⟩, hstep, hF, hT, hP, ⟨_, hov⟩⟩
          · -- 527
            exact absurd rfl c524
      · -- 510
        exact absurd rfl c507
    · -- answer 1
      exact absurd ⟨by rw [hxi]; exact sheet_in hc hi, ⟨in_of (N := 4) (by decide) hyr (by omega), in_of (N := 5) (by decide) hzc (by omega)⟩⟩ hno5
  · -- way 1
    have hx4u := h4.keep (fun j _ => hsame j)
    have hx5u := h5.keep (fun j _ _ => hsame j)
    have ho1 := (hsame 92).trans ho
    refine g_istore C (lv' := [(5, .int 1), (4, .int (nI (4 * j))), (3, .ref (ad 92)), (2, .ref (ad 85)), (1, .ref (ad 0)), (0, .ref b)]) dL_law_475 (by decide) rfl ?_
    refine g_aload_n C 3 rfl dL_law_477 ?_
    refine g_aload_n C 5 rfl dL_law_478 ?_
    refine g_iload C 1 rfl dL_law_479 ?_
    refine g_iconst C (v := nI 1) dL_law_481 (by decide) ?_
    refine g_iadd C (v := nI ((4 * j) + 1)) dL_law_482 (nI_add _ _) ?_
    refine g_sld C hX hbl hL ((4 * j) + 1) rfl (by omega) dL_law_483 ?_
    refine g_aload_n C 5 rfl dL_law_484 ?_
    refine g_iload C 1 rfl dL_law_485 ?_
    refine g_iconst C (v := nI 2) dL_law_487 (by decide) ?_
    refine g_iadd C (v := nI ((4 * j) + 2)) dL_law_488 (nI_add _ _) ?_
    refine g_sld C hX hbl hL ((4 * j) + 2) rfl (by omega) dL_law_489 ?_
    refine g_aload_n C 5 rfl dL_law_490 ?_
    refine g_iload C 1 rfl dL_law_491 ?_
    refine g_iconst C (v := nI 3) dL_law_493 (by decide) ?_
    refine g_iadd C (v := nI ((4 * j) + 3)) dL_law_494 (nI_add _ _) ?_
    refine g_sld C hX hbl hL ((4 * j) + 3) rfl (by omega) dL_law_495 ?_
    refine g_calli C (r_V C (st := []) (c_X5_faults l V (by omega) hc hx5u hF (xs (4 * j + 1)) (xs (4 * j + 2)) (xs (4 * j + 3))) (cwV 3 C.ts gL_law_X5_faults rfl rfl rfl (by decide +kernel) ⟨(Nat.le_of_ble_eq_true rfl), (Nat.le_of_ble_eq_true rfl)⟩) (by omega) hx5u.1 rfl rfl rfl (Nat.le_of_ble_eq_true rfl) dL_law_496 ⟨by show _ ≤ 601024; omega, by show _ ≤ 7293034; omega⟩) (fun v u2 hv => ?_)
    obtain ⟨hd, hfr2⟩ := hv
    have hx4v := hx4u.keep (fun j hj => hfr2 j (by omega))
    have hov := (hfr2 92 (by omega)).trans ho1
    rcases hd with ⟨i5, r5, cl5, hi5, hr5, hcl5, hxi5, hyr5, hzc5, hv5, hx5v⟩ | ⟨hno5, hx5v⟩
    · -- answer 0
      exact absurd ⟨by rw [hxi5]; exact sheet_in hc hi5, ⟨in_of (N := 4) (by decide) hyr5 (by omega), in_of (N := 5) (by decide) hzc5 (by omega)⟩⟩ hno
    · -- answer 1
      refine g_istore C (lv' := [(6, .int v), (5, .int 1), (4, .int (nI (4 * j))), (3, .ref (ad 92)), (2, .ref (ad 85)), (1, .ref (ad 0)), (0, .ref b)]) dL_law_499 (by decide) rfl ?_
      refine g_aload_n C 4 rfl dL_law_501 ?_
      refine g_calli C (r_V C (st := []) (c_X5_thrown l V (by omega) hc hx5v) (cwV 0 C.ts gL_law_X5_thrown rfl rfl rfl (by decide +kernel) ⟨(Nat.le_of_ble_eq_true rfl), (Nat.le_of_ble_eq_true rfl)⟩) (by omega) hx5v.1 rfl rfl rfl (Nat.le_of_ble_eq_true rfl) dL_law_502 ⟨by show _ ≤ 601024; omega, by show _ ≤ 7293034; omega⟩) (fun t u3 ht => ?_)
      subst ht
      refine g_iload C 1 rfl dL_law_505 ?_
      refine g_icmp_eq C (tgt := 512) dL_law_507 (by decide) (fun c507 => ?_) (fun c507 => ?_)
      · -- 512
        refine g_iload C 1 rfl dL_law_512 ?_
        refine g_if_ne C (tgt := 529) dL_law_514 (by decide) (fun c514 => ?_) (fun c514 => ?_)
        · -- 529
          refine g_goto C (tgt := 1039) dL_law_529 (by decide) ?_
          refine g_lv [2, 3, 4, 5, 6] (lv' := [(4, .int (nI (4 * j))), (3, .ref (ad 92)), (2, .ref (ad 85)), (1, .ref (ad 0)), (0, .ref b)]) rfl ?_
          refine g_widen (k := cells + 6) (j := slots + 40) (by omega) (by omega) ?_
          exact K _ ⟨cnt, M, St, We, pl, F, T, hc, hx4v, ⟨_, _, hx5v⟩, hstep, hF, hT, hP, ⟨_, hov⟩⟩
        · -- 517
          exact absurd c514 (by decide)
      · -- 510
        exact absurd rfl c507

set_option maxHeartbeats 4000000 in
set_option maxRecDepth 100000 in
theorem law_case_7 {p : Program} {l : Launch} {e : Env} {s : State} {m : MethodId} {b L : Nat} {xs : Nat → Int32} {below : List Frame} {meth : Method} {c : Code} {V : gT} {Q : State → Prop} {ad : Nat → Nat} {el : Nat → va_E} {cells slots : Nat} (hlt : l.stackTraces = false) (C : CX V (AL s) RL cL_law 9 (some .boolean) wsL_law p s m #[Value.ref b] meth c) (hX : va_X b L xs s s.heap) (hbl : b < s.heap.size) (hL : L ≤ 2048) (j : Nat) (hj : 4 * j + 4 ≤ L) (hcc : cells + 6 ≤ 601024) (hss : slots + 40 ≤ 7293034) (hJ : Inv V ad el) (K : ∀ el2, Inv V ad el2 → GW p l e room_1 s m #[Value.ref b] below meth c V (AL s) 9 Q 93 ad el2 (cells + 6) (slots + 40) 1039 [(4, .int (nI (4 * j))), (3, .ref (ad 92)), (2, .ref (ad 85)), (1, .ref (ad 0)), (0, .ref b)] []) : GW p l e room_1 s m #[Value.ref b] below meth c V (AL s) 9 Q 93 ad el cells slots 532 [(4, .int (nI (4 * j))), (3, .ref (ad 92)), (2, .ref (ad 85)), (1, .ref (ad 0)), (0, .ref b)] [] := by
  obtain ⟨cnt, M, St, We, pl, F, T, hc, h4, ⟨thr, sh, h5⟩, hstep, hF, hT, hP, g0, ho⟩ := hJ
  refine g_aload_n C 3 rfl dL_law_532 ?_
  refine g_aload_n C 4 rfl dL_law_533 ?_
  refine g_iload C 0 rfl dL_law_534 ?_
  refine g_iconst C (v := nI 1) dL_law_536 (by decide) ?_
  refine g_iadd C (v := nI ((4 * j) + 1)) dL_law_537 (nI_add _ _) ?_
  refine g_sld C hX hbl hL ((4 * j) + 1) rfl (by omega) dL_law_538 ?_
  refine g_aload_n C 4 rfl dL_law_539 ?_
  refine g_iload C 0 rfl dL_law_540 ?_
  refine g_iconst C (v := nI 2) dL_law_542 (by decide) ?_
  refine g_iadd C (v := nI ((4 * j) + 2)) dL_law_543 (nI_add _ _) ?_
  refine g_sld C hX hbl hL ((4 * j) + 2) rfl (by omega) dL_law_544 ?_
  refine g_aload_n C 4 rfl dL_law_545 ?_
  refine g_iload C 0 rfl dL_law_546 ?_
  refine g_iconst C (v := nI 3) dL_law_548 (by decide) ?_
  refine g_iadd C (v := nI ((4 * j) + 3)) dL_law_549 (nI_add _ _) ?_
  refine g_sld C hX hbl hL ((4 * j) + 3) rfl (by omega) dL_law_550 ?_
  refine g_aload_n C 1 rfl dL_law_551 ?_
  refine g_xcalli C (r_xSH C (st := []) (c_L_tear l V hlt (by omega) hc h4 g0 ho (xs (4 * j + 1)) (xs (4 * j + 2)) (xs (4 * j + 3))) (vx_cwSW 5 C.ts gL_law_L_tear rfl rfl rfl (by decide +kernel) ⟨(Nat.le_of_ble_eq_true rfl), (Nat.le_of_ble_eq_true rfl)⟩) rfl rfl (Nat.le_of_ble_eq_true rfl) dL_law_552 ⟨by show _ ≤ 601024; omega, by show _ ≤ 7293034; omega⟩) (fun E hE => hE.elim) (fun k u hu => ?_)
  rcases hu with ⟨rfl, r8, u8, hp, ho8, hO⟩ | ⟨rfl, hno, hsame⟩ | ⟨rfl, hno, hsame⟩
  · -- way 0
    obtain ⟨i, r, cl, hi, hr0, hcl, hxi, hyr, hzc, hT0, hr, hx4, hfr⟩ := hp
    have hx4u := hx4.keep (fun j hj => ho8 j (by omega))
    have hx5u := h5.keep (fun j h1 h2 => (ho8 j (by omega)).trans (hfr j (by omega)))
    obtain ⟨g1, ho1, ho2⟩ := hO
    refine g_istore C (lv' := [(5, .int 0), (4, .int (nI (4 * j))), (3, .ref (ad 92)), (2, .ref (ad 85)), (1, .ref (ad 0)), (0, .ref b)]) dL_law_555 (by decide) rfl ?_
    refine g_aload_n C 3 rfl dL_law_557 ?_
    refine g_aload_n C 5 rfl dL_law_558 ?_
    refine g_iload C 1 rfl dL_law_559 ?_
    refine g_iconst C (v := nI 1) dL_law_561 (by decide) ?_
    refine g_iadd C (v := nI ((4 * j) + 1)) dL_law_562 (nI_add _ _) ?_
    refine g_sld C hX hbl hL ((4 * j) + 1) rfl (by omega) dL_law_563 ?_
    refine g_aload_n C 5 rfl dL_law_564 ?_
    refine g_iload C 1 rfl dL_law_565 ?_
    refine g_iconst C (v := nI 2) dL_law_567 (by decide) ?_
    refine g_iadd C (v := nI ((4 * j) + 2)) dL_law_568 (nI_add _ _) ?_
    refine g_sld C hX hbl hL ((4 * j) + 2) rfl (by omega) dL_law_569 ?_
    refine g_aload_n C 5 rfl dL_law_570 ?_
    refine g_iload C 1 rfl dL_law_571 ?_
    refine g_iconst C (v := nI 3) dL_law_573 (by decide) ?_
    refine g_iadd C (v := nI ((4 * j) + 3)) dL_law_574 (nI_add _ _) ?_
    refine g_sld C hX hbl hL ((4 * j) + 3) rfl (by omega) dL_law_575 ?_
    refine g_calli C (r_V C (st := []) (c_X5_tear l V (by omega) hc hx5u hF (xs (4 * j + 1)) (xs (4 * j + 2)) (xs (4 * j + 3))) (cwV 3 C.ts gL_law_X5_tear rfl rfl rfl (by decide +kernel) ⟨(Nat.le_of_ble_eq_true rfl), (Nat.le_of_ble_eq_true rfl)⟩) (by omega) hx5u.1 rfl rfl rfl (Nat.le_of_ble_eq_true rfl) dL_law_576 ⟨by show _ ≤ 601024; omega, by show _ ≤ 7293034; omega⟩) (fun v u2 hv => ?_)
    obtain ⟨hd, hfr2⟩ := hv
    have hx4v := hx4u.keep (fun j hj => hfr2 j (by omega))
    have hov := (hfr2 92 (by omega)).trans ho1
    rcases hd with ⟨i5, r5, cl5, hi5, hr5, hcl5, hxi5, hyr5, hzc5, hT5, hv5, hx5v⟩ | ⟨hno1, hx5v⟩ | ⟨⟨i5, r5, cl5, hi5, hr5, hcl5, hxi5, hyr5, hzc5, hT5⟩, hx5v⟩
    · -- answer 0
      have e_i := nI_inj (by omega) (by omega) hxi hxi5
      subst e_i
      have e_r := nI_inj (by omega) (by omega) hyr hyr5
      subst e_r
      have e_c := nI_inj (by omega) (by omega) hzc hzc5
      subst e_c
      have hval : r8 = v := hr.trans hv5.symm
      refine g_istore C (lv' := [(6, .int v), (5, .int 0), (4, .int (nI (4 * j))), (3, .ref (ad 92)), (2, .ref (ad 85)), (1, .ref (ad 0)), (0, .ref b)]) dL_law_579 (by decide) rfl ?_
      refine g_aload_n C 4 rfl dL_law_581 ?_
      refine g_calli C (r_V C (st := []) (c_X5_thrown l V (by omega) hc hx5v) (cwV 0 C.ts gL_law_X5_thrown rfl rfl rfl (by decide +kernel) ⟨(Nat.le_of_ble_eq_true rfl), (Nat.le_of_ble_eq_true rfl)⟩) (by omega) hx5v.1 rfl rfl rfl (Nat.le_of_ble_eq_true rfl) dL_law_582 ⟨by show _ ≤ 601024; omega, by show _ ≤ 7293034; omega⟩) (fun t u3 ht => ?_)
      subst ht
      refine g_iload C 1 rfl dL_law_585 ?_
      refine g_icmp_eq C (tgt := 592) dL_law_587 (by decide) (fun c587 => ?_) (fun c587 => ?_)
      · -- 592
        refine g_iload C 1 rfl dL_law_592 ?_
        refine g_if_ne C (tgt := 609) dL_law_594 (by decide) (fun c594 => ?_) (fun c594 => ?_)
        · -- 609
          exact absurd rfl c594
        · -- 597
          refine g_aload_n C 3 rfl dL_law_597 ?_
          refine g_iconst C (v := nI 0) dL_law_598 (by decide) ?_
          refine g_lald C 92 (by omega) hov 0 rfl (by omega) (by decide) dL_law_599 ?_
          refine g_topl (ho2 : g1 0 = r8.toInt64) ?_
          refine g_iload C 0 rfl dL_law_600 ?_
          refine g_i2l C (v := v.toInt64) dL_law_602 rfl ?_
          refine g_lcmp C dL_law_603 ?_
          refine g_top ((by rw [hval]; exact lg_cmp_same _) : lg_cmp r8.toInt64 v.toInt64 = 0) ?_
          refine g_if_eq C (tgt := 609) dL_law_604 (by decide) (fun c604 => ?_) (fun c604 => ?_)
          · -- 609
            refine g_goto C (tgt := 1039) dL_law_609 (by decide) ?_
            refine g_lv [2, 3, 4, 5, 6] (lv' := [(4, .int (nI (4 * j))), (3, .ref (ad 92)), (2, .ref (ad 85)), (1, .ref (ad 0)), (0, .ref b)]) rfl ?_
            refine g_widen (k := cells + 6) (j := slots + 40) (by omega) (by omega) ?_
            exact K _ ⟨cnt, M, St, We, pl, F, _, hc, hx4v, ⟨_, _, hx5v⟩, hstep, hF, (T_tear hT hi _), hP, ⟨_, hov⟩⟩
          · -- 607
            exact absurd rfl c604
      · -- 590
        exact absurd rfl c587
    · -- answer 1
      exact absurd ⟨by rw [hxi]; exact sheet_in hc hi, ⟨in_of (N := 4) (by decide) hyr (by omega), in_of (N := 5) (by decide) hzc (by omega)⟩⟩ hno1
    · -- answer 2
      have e_i := nI_inj (by omega) (by omega) hxi hxi5
      subst e_i
      have e_r := nI_inj (by omega) (by omega) hyr hyr5
      subst e_r
      have e_c := nI_inj (by omega) (by omega) hzc hzc5
      subst e_c
      exact absurd hT0 hT5
  · -- way 1
    have hx4u := h4.keep (fun j _ => hsame j)
    have hx5u := h5.keep (fun j _ _ => hsame j)
    have ho1 := (hsame 92).trans ho
    refine g_istore C (lv' := [(5, .int 1), (4, .int (nI (4 * j))), (3, .ref (ad 92)), (2, .ref (ad 85)), (1, .ref (ad 0)), (0, .ref b)]) dL_law_555 (by decide) rfl ?_
    refine g_aload_n C 3 rfl dL_law_557 ?_
    refine g_aload_n C 5 rfl dL_law_558 ?_
    refine g_iload C 1 rfl dL_law_559 ?_
    refine g_iconst C (v := nI 1) dL_law_561 (by decide) ?_
    refine g_iadd C (v := nI ((4 * j) + 1)) dL_law_562 (nI_add _ _) ?_
    refine g_sld C hX hbl hL ((4 * j) + 1) rfl (by omega) dL_law_563 ?_
    refine g_aload_n C 5 rfl dL_law_564 ?_
    refine g_iload C 1 rfl dL_law_565 ?_
    refine g_iconst C (v := nI 2) dL_law_567 (by decide) ?_
    refine g_iadd C (v := nI ((4 * j) + 2)) dL_law_568 (nI_add _ _) ?_
    refine g_sld C hX hbl hL ((4 * j) + 2) rfl (by omega) dL_law_569 ?_
    refine g_aload_n C 5 rfl dL_law_570 ?_
    refine g_iload C 1 rfl dL_law_571 ?_
    refine g_iconst C (v := nI 3) dL_law_573 (by decide) ?_
    refine g_iadd C (v := nI ((4 * j) + 3)) dL_law_574 (nI_add _ _) ?_
    refine g_sld C hX hbl hL ((4 * j) + 3) rfl (by omega) dL_law_575 ?_
    refine g_calli C (r_V C (st := []) (c_X5_tear l V (by omega) hc hx5u hF (xs (4 * j + 1)) (xs (4 * j + 2)) (xs (4 * j + 3))) (cwV 3 C.ts gL_law_X5_tear rfl rfl rfl (by decide +kernel) ⟨(Nat.le_of_ble_eq_true rfl), (Nat.le_of_ble_eq_true rfl)⟩) (by omega) hx5u.1 rfl rfl rfl (Nat.le_of_ble_eq_true rfl) dL_law_576 ⟨by show _ ≤ 601024; omega, by show _ ≤ 7293034; omega⟩) (fun v u2 hv => ?_)
    obtain ⟨hd, hfr2⟩ := hv
    have hx4v := hx4u.keep (fun j hj => hfr2 j (by omega))
    have hov := (hfr2 92 (by omega)).trans ho1
    rcases hd with ⟨i5, r5, cl5, hi5, hr5, hcl5, hxi5, hyr5, hzc5, hT5, hv5, hx5v⟩ | ⟨hno1, hx5v⟩ | ⟨⟨i5, r5, cl5, hi5, hr5, hcl5, hxi5, hyr5, hzc5, hT5⟩, hx5v⟩
    · -- answer 0
      exact absurd ⟨by rw [hxi5]; exact sheet_in hc hi5, ⟨in_of (N := 4) (by decide) hyr5 (by omega), in_of (N := 5) (by decide) hzc5 (by omega)⟩⟩ hno
    · -- answer 1
      refine g_istore C (lv' := [(6, .int v), (5, .int 1), (4, .int (nI (4 * j))), (3, .ref (ad 92)), (2, .ref (ad 85)), (1, .ref (ad 0)), (0, .ref b)]) dL_law_579 (by decide) rfl ?_
      refine g_aload_n C 4 rfl dL_law_581 ?_
      refine g_calli C (r_V C (st := []) (c_X5_thrown l V (by omega) hc hx5v) (cwV 0 C.ts gL_law_X5_thrown rfl rfl rfl (by decide +kernel) ⟨(Nat.le_of_ble_eq_true rfl), (Nat.le_of_ble_eq_true rfl)⟩) (by omega) hx5v.1 rfl rfl rfl (Nat.le_of_ble_eq_true rfl) dL_law_582 ⟨by show _ ≤ 601024; omega, by show _ ≤ 7293034; omega⟩) (fun t u3 ht => ?_)
      subst ht
      refine g_iload C 1 rfl dL_law_585 ?_
      refine g_icmp_eq C (tgt := 592) dL_law_587 (by decide) (fun c587 => ?_) (fun c587 => ?_)
      · -- 592
        refine g_iload C 1 rfl dL_law_592 ?_
        refine g_if_ne C (tgt := 609) dL_law_594 (by decide) (fun c594 => ?_) (fun c594 => ?_)
        · -- 609
          refine g_goto C (tgt := 1039) dL_law_609 (by decide) ?_
          refine g_lv [2, 3, 4, 5, 6] (lv' := [(4, .int (nI (4 * j))), (3, .ref (ad 92)), (2, .ref (ad 85)), (1, .ref (ad 0)), (0, .ref b)]) rfl ?_
          refine g_widen (k := cells + 6) (j := slots + 40) (by omega) (by omega) ?_
          exact K _ ⟨cnt, M, St, We, pl, F, T, hc, hx4v, ⟨_, _, hx5v⟩, hstep, hF, hT, hP, ⟨_, hov⟩⟩
        · -- 597
          exact absurd c594 (by decide)
      · -- 590
        exact absurd rfl c587
    · -- answer 2
      exact absurd ⟨by rw [hxi5]; exact sheet_in hc hi5, ⟨in_of (N := 4) (by decide) hyr5 (by omega), in_of (N := 5) (by decide) hzc5 (by omega)⟩⟩ hno
  · -- way 2
    have hx4u := h4.keep (fun j _ => hsame j)
    have hx5u := h5.keep (fun j _ _ => hsame j)
    have ho1 := (hsame 92).trans ho
    refine g_istore C (lv' := [(5, .int 2), (4, .int (nI (4 * j))), (3, .ref (ad 92)), (2, .ref (ad 85)), (1, .ref (ad 0)), (0, .ref b)]) dL_law_555 (by decide) rfl ?_
    refine g_aload_n C 3 rfl dL_law_557 ?_
    refine g_aload_n C 5 rfl dL_law_558 ?_
    refine g_iload C 1 rfl dL_law_559 ?_
    refine g_iconst C (v := nI 1) dL_law_561 (by decide) ?_
    refine g_iadd C (v := nI ((4 * j) + 1)) dL_law_562 (nI_add _ _) ?_
    refine g_sld C hX hbl hL ((4 * j) + 1) rfl (by omega) dL_law_563 ?_
    refine g_aload_n C 5 rfl dL_law_564 ?_
    refine g_iload C 1 rfl dL_law_565 ?_
    refine g_iconst C (v := nI 2) dL_law_567 (by decide) ?_
    refine g_iadd C (v := nI ((4 * j) + 2)) dL_law_568 (nI_add _ _) ?_
    refine g_sld C hX hbl hL ((4 * j) + 2) rfl (by omega) dL_law_569 ?_
    refine g_aload_n C 5 rfl dL_law_570 ?_
    refine g_iload C 1 rfl dL_law_571 ?_
    refine g_iconst C (v := nI 3) dL_law_573 (by decide) ?_
    refine g_iadd C (v := nI ((4 * j) + 3)) dL_law_574 (nI_add _ _) ?_
    refine g_sld C hX hbl hL ((4 * j) + 3) rfl (by omega) dL_law_575 ?_
    refine g_calli C (r_V C (st := []) (c_X5_tear l V (by omega) hc hx5u hF (xs (4 * j + 1)) (xs (4 * j + 2)) (xs (4 * j + 3))) (cwV 3 C.ts gL_law_X5_tear rfl rfl rfl (by decide +kernel) ⟨(Nat.le_of_ble_eq_true rfl), (Nat.le_of_ble_eq_true rfl)⟩) (by omega) hx5u.1 rfl rfl rfl (Nat.le_of_ble_eq_true rfl) dL_law_576 ⟨by show _ ≤ 601024; omega, by show _ ≤ 7293034; omega⟩) (fun v u2 hv => ?_)
    obtain ⟨hd, hfr2⟩ := hv
    have hx4v := hx4u.keep (fun j hj => hfr2 j (by omega))
    have hov := (hfr2 92 (by omega)).trans ho1
    rcases hd with ⟨i5, r5, cl5, hi5, hr5, hcl5, hxi5, hyr5, hzc5, hT5, hv5, hx5v⟩ | ⟨hno1, hx5v⟩ | ⟨⟨i5, r5, cl5, hi5, hr5, hcl5, hxi5, hyr5, hzc5, hT5⟩, hx5v⟩
    · -- answer 0
      obtain ⟨i, r, cl, hi, hr0, hcl, hxi, hyr, hzc, hT0⟩ := hno
      have e_i := nI_inj (by omega) (by omega) hxi hxi5
      subst e_i
      have e_r := nI_inj (by omega) (by omega) hyr hyr5
      subst e_r
      have e_c := nI_inj (by omega) (by omega) hzc hzc5
      subst e_c
      exact absurd hT5 hT0
    · -- answer 1
      obtain ⟨i, r, cl, hi, hr0, hcl, hxi, hyr, hzc, hT0⟩ := hno
      exact absurd ⟨by rw [hxi]; exact sheet_in hc hi, ⟨in_of (N := 4) (by decide) hyr (by omega), in_of (N := 5) (by decide) hzc (by omega)⟩⟩ hno1
    · -- answer 2
      refine g_istore C (lv' := [(6, .int v), (5, .int 2), (4, .int (nI (4 * j))), (3, .ref (ad 92)), (2, .ref (ad 85)), (1, .ref (ad 0)), (0, .ref b)]) dL_law_579 (by decide) rfl ?_
      refine g_aload_n C 4 rfl dL_law_581 ?_
      refine g_calli C (r_V C (st := []) (c_X5_thrown l V (by omega) hc hx5v) (cwV 0 C.ts gL_law_X5_thrown rfl rfl rfl (by decide +kernel) ⟨(Nat.le_of_ble_eq_true rfl), (Nat.le_of_ble_eq_true rfl)⟩) (by omega) hx5v.1 rfl rfl rfl (Nat.le_of_ble_eq_true rfl) dL_law_582 ⟨by show _ ≤ 601024; omega, by show _ ≤ 7293034; omega⟩) (fun t u3 ht => ?_)
      subst ht
      refine g_iload C 1 rfl dL_law_585 ?_
      refine g_icmp_eq C (tgt := 592) dL_law_587 (by decide) (fun c587 => ?_) (fun c587 => ?_)
      · -- 592
        refine g_iload C 1 rfl dL_law_592 ?_
        refine g_if_ne C (tgt := 609) dL_law_594 (by decide) (fun c594 => ?_) (fun c594 => ?_)
        · -- 609
          refine g_goto C (tgt := 1039) dL_law_609 (by decide) ?_
          refine g_lv [2, 3, 4, 5, 6] (lv' := [(4, .int (nI (4 * j))), (3, .ref (ad 92)), (2, .ref (ad 85)), (1, .ref (ad 0)), (0, .ref b)]) rfl ?_
          refine g_widen (k := cells + 6) (j := slots + 40) (by omega) (by omega) ?_
          exact K _ ⟨cnt, M, St, We, pl, F, T, hc, hx4v, ⟨_, _, hx5v⟩, hstep, hF, hT, hP, ⟨_, hov⟩⟩
        · -- 597
          exact absurd c594 (by decide)
      · -- 590
        exact absurd rfl c587
