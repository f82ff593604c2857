/-! ===== the law's cases, on ===== -/
set_option maxHeartbeats 4000000 in
set_option maxRecDepth 100000 in
theorem law_case_8 {p : Program} {l : Launch} {e : Env} {s : State} {m : MethodId} {b L : Nat} {xs : Nat → Int32} {below : List Frame} {meth : Method} {c : Code} {V : gT} {Q : State → Prop} {ad : Nat → Nat} {el : Nat → va_E} {cells slots : Nat} (hlt : l.stackTraces = false) (C : CX V (AL s) RL cL_law 9 (some .boolean) wsL_law p s m #[Value.ref b] meth c) (hX : va_X b L xs s s.heap) (hbl : b < s.heap.size) (hL : L ≤ 2048) (j : Nat) (hj : 4 * j + 4 ≤ L) (hcc : cells + 6 ≤ 601024) (hss : slots + 40 ≤ 7293034) (hJ : Inv V ad el) (K : ∀ el2, Inv V ad el2 → GW p l e room_1 s m #[Value.ref b] below meth c V (AL s) 9 Q 93 ad el2 (cells + 6) (slots + 40) 1039 [(4, .int (nI (4 * j))), (3, .ref (ad 92)), (2, .ref (ad 85)), (1, .ref (ad 0)), (0, .ref b)] []) : GW p l e room_1 s m #[Value.ref b] below meth c V (AL s) 9 Q 93 ad el cells slots 612 [(4, .int (nI (4 * j))), (3, .ref (ad 92)), (2, .ref (ad 85)), (1, .ref (ad 0)), (0, .ref b)] [] := by
  obtain ⟨cnt, M, St, We, pl, F, T, hc, h4, ⟨thr, sh, h5⟩, hstep, hF, hT, hP, g0, ho⟩ := hJ
  refine g_aload_n C 3 rfl dL_law_612 ?_
  refine g_aload_n C 4 rfl dL_law_613 ?_
  refine g_iload C 0 rfl dL_law_614 ?_
  refine g_iconst C (v := nI 1) dL_law_616 (by decide) ?_
  refine g_iadd C (v := nI ((4 * j) + 1)) dL_law_617 (nI_add _ _) ?_
  refine g_sld C hX hbl hL ((4 * j) + 1) rfl (by omega) dL_law_618 ?_
  refine g_aload_n C 4 rfl dL_law_619 ?_
  refine g_iload C 0 rfl dL_law_620 ?_
  refine g_iconst C (v := nI 2) dL_law_622 (by decide) ?_
  refine g_iadd C (v := nI ((4 * j) + 2)) dL_law_623 (nI_add _ _) ?_
  refine g_sld C hX hbl hL ((4 * j) + 2) rfl (by omega) dL_law_624 ?_
  refine g_aload_n C 1 rfl dL_law_625 ?_
  refine g_xcalli C (r_xSH C (st := []) (c_L_sheet l V hlt (by omega) hc h4 g0 ho (xs (4 * j + 1)) (xs (4 * j + 2))) (vx_cwSW 4 C.ts gL_law_L_sheet rfl rfl rfl (by decide +kernel) ⟨(Nat.le_of_ble_eq_true rfl), (Nat.le_of_ble_eq_true rfl)⟩) rfl rfl (Nat.le_of_ble_eq_true rfl) dL_law_626 ⟨by show _ ≤ 601024; omega, by show _ ≤ 7293034; omega⟩) (fun E hE => hE.elim) (fun k u hu => ?_)
  rcases hu with ⟨rfl, r8, u8, hp, e8, ho8, hO⟩ | ⟨rfl, hno, hsame⟩
  · -- way 0
    obtain ⟨i, hi, hxi, hy, hr⟩ := hp
    subst e8
    have hx4u := h4.keep (fun j hj => ho8 j (by omega))
    have hx5u := h5.keep (fun j h1 h2 => (ho8 j (by omega)).trans rfl)
    obtain ⟨g1, ho1, ho2⟩ := hO
    refine g_istore C (lv' := [(5, .int 0), (4, .int (nI (4 * j))), (3, .ref (ad 92)), (2, .ref (ad 85)), (1, .ref (ad 0)), (0, .ref b)]) dL_law_629 (by decide) rfl ?_
    refine g_aload_n C 3 rfl dL_law_631 ?_
    refine g_aload_n C 5 rfl dL_law_632 ?_
    refine g_iload C 1 rfl dL_law_633 ?_
    refine g_iconst C (v := nI 1) dL_law_635 (by decide) ?_
    refine g_iadd C (v := nI ((4 * j) + 1)) dL_law_636 (nI_add _ _) ?_
    refine g_sld C hX hbl hL ((4 * j) + 1) rfl (by omega) dL_law_637 ?_
    refine g_aload_n C 5 rfl dL_law_638 ?_
    refine g_iload C 1 rfl dL_law_639 ?_
    refine g_iconst C (v := nI 2) dL_law_641 (by decide) ?_
    refine g_iadd C (v := nI ((4 * j) + 2)) dL_law_642 (nI_add _ _) ?_
    refine g_sld C hX hbl hL ((4 * j) + 2) rfl (by omega) dL_law_643 ?_
    refine g_calli C (r_V C (st := []) (c_X5_sheet l V (by omega) hc hx5u hF (xs (4 * j + 1)) (xs (4 * j + 2))) (cwV 2 C.ts gL_law_X5_sheet rfl rfl rfl (by decide +kernel) ⟨(Nat.le_of_ble_eq_true rfl), (Nat.le_of_ble_eq_true rfl)⟩) (by omega) hx5u.1 rfl rfl rfl (Nat.le_of_ble_eq_true rfl) dL_law_644 ⟨by show _ ≤ 601024; omega, by show _ ≤ 7293034; omega⟩) (fun v u2 hv => ?_)
    obtain ⟨hd, hfr2⟩ := hv
    have hx4v := hx4u.keep (fun j hj => hfr2 j (by omega))
    have hov := (hfr2 92 (by omega)).trans ho1
    rcases hd with ⟨i5, hi5, hxi5, hy5, hv5, hx5v⟩ | ⟨hno5, hx5v⟩
    · -- answer 0
      have e_i := nI_inj (by omega) (by omega) hxi hxi5
      subst e_i
      have hval : r8 = v := hr.trans hv5.symm
      refine g_istore C (lv' := [(6, .int v), (5, .int 0), (4, .int (nI (4 * j))), (3, .ref (ad 92)), (2, .ref (ad 85)), (1, .ref (ad 0)), (0, .ref b)]) dL_law_647 (by decide) rfl ?_
      refine g_aload_n C 4 rfl dL_law_649 ?_
      refine g_calli C (r_V C (st := []) (c_X5_thrown l V (by omega) hc hx5v) (cwV 0 C.ts gL_law_X5_thrown rfl rfl rfl (by decide +kernel) ⟨(Nat.le_of_ble_eq_true rfl), (Nat.le_of_ble_eq_true rfl)⟩) (by omega) hx5v.1 rfl rfl rfl (Nat.le_of_ble_eq_true rfl) dL_law_650 ⟨by show _ ≤ 601024; omega, by show _ ≤ 7293034; omega⟩) (fun t u3 ht => ?_)
      subst ht
      refine g_iload C 1 rfl dL_law_653 ?_
      refine g_icmp_eq C (tgt := 660) dL_law_655 (by decide) (fun c655 => ?_) (fun c655 => ?_)
      · -- 660
        refine g_iload C 1 rfl dL_law_660 ?_
        refine g_if_ne C (tgt := 677) dL_law_662 (by decide) (fun c662 => ?_) (fun c662 => ?_)
        · -- 677
          exact absurd rfl c662
        · -- 665
          refine g_aload_n C 3 rfl dL_law_665 ?_
          refine g_iconst C (v := nI 0) dL_law_666 (by decide) ?_
          refine g_lald C 92 (by omega) hov 0 rfl (by omega) (by decide) dL_law_667 ?_
          refine g_topl (ho2 : g1 0 = r8.toInt64) ?_
          refine g_iload C 0 rfl dL_law_668 ?_
          refine g_i2l C (v := v.toInt64) dL_law_670 rfl ?_
          refine g_lcmp C dL_law_671 ?_
          refine g_top ((by rw [hval]; exact lg_cmp_same _) : lg_cmp r8.toInt64 v.toInt64 = 0) ?_
          refine g_if_eq C (tgt := 677) dL_law_672 (by decide) (fun c672 => ?_) (fun c672 => ?_)
          · -- 677
            refine g_goto C (tgt := 1039) dL_law_677 (by decide) ?_
            refine g_lv [2, 3, 4, 5, 6] (lv' := [(4, .int (nI (4 * j))), (3, .ref (ad 92)), (2, .ref (ad 85)), (1, .ref (ad 0)), (0, .ref b)]) rfl ?_
            refine g_widen (k := cells + 6) (j := slots + 40) (by omega) (by omega) ?_
            exact K _ ⟨cnt, M, St, We, pl, F, T, hc, hx4v, ⟨_, _, hx5v⟩, hstep, hF, hT, hP, ⟨_, hov⟩⟩
          · -- 675
            exact absurd rfl c672
      · -- 658
        exact absurd rfl c655
    · -- answer 1
      exact absurd ⟨by rw [hxi]; exact sheet_in hc hi, hy⟩ hno5
  · -- way 1
    have hx4u := h4.keep (fun j _ => hsame j)
    have hx5u := h5.keep (fun j _ _ => hsame j)
    have ho1 := (hsame 92).trans ho
    refine g_istore C (lv' := [(5, .int 1), (4, .int (nI (4 * j))), (3, .ref (ad 92)), (2, .ref (ad 85)), (1, .ref (ad 0)), (0, .ref b)]) dL_law_629 (by decide) rfl ?_
    refine g_aload_n C 3 rfl dL_law_631 ?_
    refine g_aload_n C 5 rfl dL_law_632 ?_
    refine g_iload C 1 rfl dL_law_633 ?_
    refine g_iconst C (v := nI 1) dL_law_635 (by decide) ?_
    refine g_iadd C (v := nI ((4 * j) + 1)) dL_law_636 (nI_add _ _) ?_
    refine g_sld C hX hbl hL ((4 * j) + 1) rfl (by omega) dL_law_637 ?_
    refine g_aload_n C 5 rfl dL_law_638 ?_
    refine g_iload C 1 rfl dL_law_639 ?_
    refine g_iconst C (v := nI 2) dL_law_641 (by decide) ?_
    refine g_iadd C (v := nI ((4 * j) + 2)) dL_law_642 (nI_add _ _) ?_
    refine g_sld C hX hbl hL ((4 * j) + 2) rfl (by omega) dL_law_643 ?_
    refine g_calli C (r_V C (st := []) (c_X5_sheet l V (by omega) hc hx5u hF (xs (4 * j + 1)) (xs (4 * j + 2))) (cwV 2 C.ts gL_law_X5_sheet rfl rfl rfl (by decide +kernel) ⟨(Nat.le_of_ble_eq_true rfl), (Nat.le_of_ble_eq_true rfl)⟩) (by omega) hx5u.1 rfl rfl rfl (Nat.le_of_ble_eq_true rfl) dL_law_644 ⟨by show _ ≤ 601024; omega, by show _ ≤ 7293034; omega⟩) (fun v u2 hv => ?_)
    obtain ⟨hd, hfr2⟩ := hv
    have hx4v := hx4u.keep (fun j hj => hfr2 j (by omega))
    have hov := (hfr2 92 (by omega)).trans ho1
    rcases hd with ⟨i5, hi5, hxi5, hy5, hv5, hx5v⟩ | ⟨hno5, hx5v⟩
    · -- answer 0
      exact absurd ⟨by rw [hxi5]; exact sheet_in hc hi5, hy5⟩ hno
    · -- answer 1
      refine g_istore C (lv' := [(6, .int v), (5, .int 1), (4, .int (nI (4 * j))), (3, .ref (ad 92)), (2, .ref (ad 85)), (1, .ref (ad 0)), (0, .ref b)]) dL_law_647 (by decide) rfl ?_
      refine g_aload_n C 4 rfl dL_law_649 ?_
      refine g_calli C (r_V C (st := []) (c_X5_thrown l V (by omega) hc hx5v) (cwV 0 C.ts gL_law_X5_thrown rfl rfl rfl (by decide +kernel) ⟨(Nat.le_of_ble_eq_true rfl), (Nat.le_of_ble_eq_true rfl)⟩) (by omega) hx5v.1 rfl rfl rfl (Nat.le_of_ble_eq_true rfl) dL_law_650 ⟨by show _ ≤ 601024; omega, by show _ ≤ 7293034; omega⟩) (fun t u3 ht => ?_)
      subst ht
      refine g_iload C 1 rfl dL_law_653 ?_
      refine g_icmp_eq C (tgt := 660) dL_law_655 (by decide) (fun c655 => ?_) (fun c655 => ?_)
      · -- 660
        refine g_iload C 1 rfl dL_law_660 ?_
        refine g_if_ne C (tgt := 677) dL_law_662 (by decide) (fun c662 => ?_) (fun c662 => ?_)
        · -- 677
          refine g_goto C (tgt := 1039) dL_law_677 (by decide) ?_
          refine g_lv [2, 3, 4, 5, 6] (lv' := [(4, .int (nI (4 * j))), (3, .ref (ad 92)), (2, .ref (ad 85)), (1, .ref (ad 0)), (0, .ref b)]) rfl ?_
          refine g_widen (k := cells + 6) (j := slots + 40) (by omega) (by omega) ?_
          exact K _ ⟨cnt, M, St, We, pl, F, T, hc, hx4v, ⟨_, _, hx5v⟩, hstep, hF, hT, hP, ⟨_, hov⟩⟩
        · -- 665
          exact absurd c662 (by decide)
      · -- 658
        exact absurd rfl c655

set_option maxHeartbeats 4000000 in
set_option maxRecDepth 100000 in
theorem law_case_9 {p : Program} {l : Launch} {e : Env} {s : State} {m : MethodId} {b L : Nat} {xs : Nat → Int32} {below : List Frame} {meth : Method} {c : Code} {V : gT} {Q : State → Prop} {ad : Nat → Nat} {el : Nat → va_E} {cells slots : Nat} (hlt : l.stackTraces = false) (C : CX V (AL s) RL cL_law 9 (some .boolean) wsL_law p s m #[Value.ref b] meth c) (hX : va_X b L xs s s.heap) (hbl : b < s.heap.size) (hL : L ≤ 2048) (j : Nat) (hj : 4 * j + 4 ≤ L) (hcc : cells + 6 ≤ 601024) (hss : slots + 40 ≤ 7293034) (hJ : Inv V ad el) (K : ∀ el2, Inv V ad el2 → GW p l e room_1 s m #[Value.ref b] below meth c V (AL s) 9 Q 93 ad el2 (cells + 6) (slots + 40) 1039 [(4, .int (nI (4 * j))), (3, .ref (ad 92)), (2, .ref (ad 85)), (1, .ref (ad 0)), (0, .ref b)] []) : GW p l e room_1 s m #[Value.ref b] below meth c V (AL s) 9 Q 93 ad el cells slots 680 [(4, .int (nI (4 * j))), (3, .ref (ad 92)), (2, .ref (ad 85)), (1, .ref (ad 0)), (0, .ref b)] [] := by
  obtain ⟨cnt, M, St, We, pl, F, T, hc, h4, ⟨thr, sh, h5⟩, hstep, hF, hT, hP, g0, ho⟩ := hJ
  refine g_aload_n C 3 rfl dL_law_680 ?_
  refine g_aload_n C 4 rfl dL_law_681 ?_
  refine g_iload C 0 rfl dL_law_682 ?_
  refine g_iconst C (v := nI 1) dL_law_684 (by decide) ?_
  refine g_iadd C (v := nI ((4 * j) + 1)) dL_law_685 (nI_add _ _) ?_
  refine g_sld C hX hbl hL ((4 * j) + 1) rfl (by omega) dL_law_686 ?_
  refine g_aload_n C 4 rfl dL_law_687 ?_
  refine g_iload C 0 rfl dL_law_688 ?_
  refine g_iconst C (v := nI 2) dL_law_690 (by decide) ?_
  refine g_iadd C (v := nI ((4 * j) + 2)) dL_law_691 (nI_add _ _) ?_
  refine g_sld C hX hbl hL ((4 * j) + 2) rfl (by omega) dL_law_692 ?_
  refine g_aload_n C 1 rfl dL_law_693 ?_
  refine g_xcalli C (r_xSH C (st := []) (c_L_pin l V hlt (by omega) hc h4 g0 ho (xs (4 * j + 1)) (xs (4 * j + 2))) (vx_cwSW 4 C.ts gL_law_L_pin rfl rfl rfl (by decide +kernel) ⟨(Nat.le_of_ble_eq_true rfl), (Nat.le_of_ble_eq_true rfl)⟩) rfl rfl (Nat.le_of_ble_eq_true rfl) dL_law_694 ⟨by show _ ≤ 601024; omega, by show _ ≤ 7293034; omega⟩) (fun E hE => hE.elim) (fun k u hu => ?_)
  rcases hu with ⟨rfl, r8, u8, hp, e8, ho8, hO⟩ | ⟨rfl, hno, hsame⟩
  · -- way 0
    obtain ⟨i, hi, hxi, hy, hr⟩ := hp
    subst e8
    have hx4u := h4.keep (fun j hj => ho8 j (by omega))
    have hx5u := h5.keep (fun j h1 h2 => (ho8 j (by omega)).trans rfl)
    obtain ⟨g1, ho1, ho2⟩ := hO
    refine g_istore C (lv' := [(5, .int 0), (4, .int (nI (4 * j))), (3, .ref (ad 92)), (2, .ref (ad 85)), (1, .ref (ad 0)), (0, .ref b)]) dL_law_697 (by decide) rfl ?_
    refine g_aload_n C 3 rfl dL_law_699 ?_
    refine g_aload_n C 5 rfl dL_law_700 ?_
    refine g_iload C 1 rfl dL_law_701 ?_
    refine g_iconst C (v := nI 1) dL_law_703 (by decide) ?_
    refine g_iadd C (v := nI ((4 * j) + 1)) dL_law_704 (nI_add _ _) ?_
    refine g_sld C hX hbl hL ((4 * j) + 1) rfl (by omega) dL_law_705 ?_
    refine g_aload_n C 5 rfl dL_law_706 ?_
    refine g_iload C 1 rfl dL_law_707 ?_
    refine g_iconst C (v := nI 2) dL_law_709 (by decide) ?_
    refine g_iadd C (v := nI ((4 * j) + 2)) dL_law_710 (nI_add _ _) ?_
    refine g_sld C hX hbl hL ((4 * j) + 2) rfl (by omega) dL_law_711 ?_
    refine g_calli C (r_V C (st := []) (c_X5_pin l V (by omega) hc hx5u hP (xs (4 * j + 1)) (xs (4 * j + 2))) (cwV 2 C.ts gL_law_X5_pin rfl rfl rfl (by decide +kernel) ⟨(Nat.le_of_ble_eq_true rfl), (Nat.le_of_ble_eq_true rfl)⟩) (by omega) hx5u.1 rfl rfl rfl (Nat.le_of_ble_eq_true rfl) dL_law_712 ⟨by show _ ≤ 601024; omega, by show _ ≤ 7293034; omega⟩) (fun v u2 hv => ?_)
    obtain ⟨hd, hfr2⟩ := hv
    have hx4v := hx4u.keep (fun j hj => hfr2 j (by omega))
    have hov := (hfr2 92 (by omega)).trans ho1
    rcases hd with ⟨i5, hi5, hxi5, hy5, hv5, hx5v⟩ | ⟨hno5, hx5v⟩
    · -- answer 0
      have e_i := nI_inj (by omega) (by omega) hxi hxi5
      subst e_i
      have hval : r8 = v := hr.trans hv5.symm
      refine g_istore C (lv' := [(6, .int v), (5, .int 0), (4, .int (nI (4 * j))), (3, .ref (ad 92)), (2, .ref (ad 85)), (1, .ref (ad 0)), (0, .ref b)]) dL_law_715 (by decide) rfl ?_
      refine g_aload_n C 4 rfl dL_law_717 ?_
      refine g_calli C (r_V C (st := []) (c_X5_thrown l V (by omega) hc hx5v) (cwV 0 C.ts gL_law_X5_thrown rfl rfl rfl (by decide +kernel) ⟨(Nat.le_of_ble_eq_true rfl), (Nat.le_of_ble_eq_true rfl)⟩) (by omega) hx5v.1 rfl rfl rfl (Nat.le_of_ble_eq_true rfl) dL_law_718 ⟨by show _ ≤ 601024; omega, by show _ ≤ 7293034; omega⟩) (fun t u3 ht => ?_)
      subst ht
      refine g_iload C 1 rfl dL_law_721 ?_
      refine g_icmp_eq C (tgt := 728) dL_law_723 (by decide) (fun c723 => ?_) (fun c723 => ?_)
      · -- 728
        refine g_iload C 1 rfl dL_law_728 ?_
        refine g_if_ne C (tgt := 745) dL_law_730 (by decide) (fun c730 => ?_) (fun c730 => ?_)
        · -- 745
          exact absurd rfl c730
        · -- 733
          refine g_aload_n C 3 rfl dL_law_733 ?_
          refine g_iconst C (v := nI 0) dL_law_734 (by decide) ?_
          refine g_lald C 92 (by omega) hov 0 rfl (by omega) (by decide) dL_law_735 ?_
          refine g_topl (ho2 : g1 0 = r8.toInt64) ?_
          refine g_iload C 0 rfl dL_law_736 ?_
          refine g_i2l C (v := v.toInt64) dL_law_738 rfl ?_
          refine g_lcmp C dL_law_739 ?_
          refine g_top ((by rw [hval]; exact lg_cmp_same _) : lg_cmp r8.toInt64 v.toInt64 = 0) ?_
          refine g_if_eq C (tgt := 745) dL_law_740 (by decide) (fun c740 => ?_) (fun c740 => ?_)
          · -- 745
            refine g_goto C (tgt := 1039) dL_law_745 (by decide) ?_
            refine g_lv [2, 3, 4, 5, 6] (lv' := [(4, .int (nI (4 * j))), (3, .ref (ad 92)), (2, .ref (ad 85)), (1, .ref (ad 0)), (0, .ref b)]) rfl ?_
            refine g_widen (k := cells + 6) (j := slots + 40) (by omega) (by omega) ?_
            exact K _ ⟨cnt, M, St, We, pl, F, T, hc, hx4v, ⟨_, _, hx5v⟩, hstep, hF, hT, hP, ⟨_, hov⟩⟩
          · -- 743
            exact absurd rfl c740
      · -- 726
        exact absurd rfl c723
    · -- answer 1
      exact absurd ⟨in_of (N := 6) (by decide) hxi (by omega), hy⟩ hno5
  · -- way 1
    have hx4u := h4.keep (fun j _ => hsame j)
    have hx5u := h5.keep (fun j _ _ => hsame j)
    have ho1 := (hsame 92).trans ho
    refine g_istore C (lv' := [(5, .int 1), (4, .int (nI (4 * j))), (3, .ref (ad 92)), (2, .ref (ad 85)), (1, .ref (ad 0)), (0, .ref b)]) dL_law_697 (by decide) rfl ?_
    refine g_aload_n C 3 rfl dL_law_699 ?_
    refine g_aload_n C 5 rfl dL_law_700 ?_
    refine g_iload C 1 rfl dL_law_701 ?_
    refine g_iconst C (v := nI 1) dL_law_703 (by decide) ?_
    refine g_iadd C (v := nI ((4 * j) + 1)) dL_law_704 (nI_add _ _) ?_
    refine g_sld C hX hbl hL ((4 * j) + 1) rfl (by omega) dL_law_705 ?_
    refine g_aload_n C 5 rfl dL_law_706 ?_
    refine g_iload C 1 rfl dL_law_707 ?_
    refine g_iconst C (v := nI 2) dL_law_709 (by decide) ?_
    refine g_iadd C (v := nI ((4 * j) + 2)) dL_law_710 (nI_add _ _) ?_
    refine g_sld C hX hbl hL ((4 * j) + 2) rfl (by omega) dL_law_711 ?_
    refine g_calli C (r_V C (st := []) (c_X5_pin l V (by omega) hc hx5u hP (xs (4 * j + 1)) (xs (4 * j + 2))) (cwV 2 C.ts gL_law_X5_pin rfl rfl rfl (by decide +kernel) ⟨(Nat.le_of_ble_eq_true rfl), (Nat.le_of_ble_eq_true rfl)⟩) (by omega) hx5u.1 rfl rfl rfl (Nat.le_of_ble_eq_true rfl) dL_law_712 ⟨by show _ ≤ 601024; omega, by show _ ≤ 7293034; omega⟩) (fun v u2 hv => ?_)
    obtain ⟨hd, hfr2⟩ := hv
    have hx4v := hx4u.keep (fun j hj => hfr2 j (by omega))
    have hov := (hfr2 92 (by omega)).trans ho1
    rcases hd with ⟨i5, hi5, hxi5, hy5, hv5, hx5v⟩ | ⟨hno5, hx5v⟩
    · -- answer 0
      exact absurd ⟨in_of (N := 6) (by decide) hxi5 (by omega), hy5⟩ hno
    · -- answer 1
      refine g_istore C (lv' := [(6, .int v), (5, .int 1), (4, .int (nI (4 * j))), (3, .ref (ad 92)), (2, .ref (ad 85)), (1, .ref (ad 0)), (0, .ref b)]) dL_law_715 (by decide) rfl ?_
      refine g_aload_n C 4 rfl dL_law_717 ?_
      refine g_calli C (r_V C (st := []) (c_X5_thrown l V (by omega) hc hx5v) (cwV 0 C.ts gL_law_X5_thrown rfl rfl rfl (by decide +kernel) ⟨(Nat.le_of_ble_eq_true rfl), (Nat.le_of_ble_eq_true rfl)⟩) (by omega) hx5v.1 rfl rfl rfl (Nat.le_of_ble_eq_true rfl) dL_law_718 ⟨by show _ ≤ 601024; omega, by show _ ≤ 7293034; omega⟩) (fun t u3 ht => ?_)
      subst ht
      refine g_iload C 1 rfl dL_law_721 ?_
      refine g_icmp_eq C (tgt := 728) dL_law_723 (by decide) (fun c723 => ?_) (fun c723 => ?_)
      · -- 728
        refine g_iload C 1 rfl dL_law_728 ?_
        refine g_if_ne C (tgt := 745) dL_law_730 (by decide) (fun c730 => ?_) (fun c730 => ?_)
        · -- 745
          refine g_goto C (tgt := 1039) dL_law_745 (by decide) ?_
          refine g_lv [2, 3, 4, 5, 6] (lv' := [(4, .int (nI (4 * j))), (3, .ref (ad 92)), (2, .ref (ad 85)), (1, .ref (ad 0)), (0, .ref b)]) rfl ?_
          refine g_widen (k := cells + 6) (j := slots + 40) (by omega) (by omega) ?_
          exact K _ ⟨cnt, M, St, We, pl, F, T, hc, hx4v, ⟨_, _, hx5v⟩, hstep, hF, hT, hP, ⟨_, hov⟩⟩
        · -- 733
          exact absurd c730 (by decide)
      · -- 726
        exact absurd rfl c723

set_option maxHeartbeats 4000000 in
set_option maxRecDepth 100000 in
theorem law_case_10 {p : Program} {l : Launch} {e : Env} {s : State} {m : MethodId} {b L : Nat} {xs : Nat → Int32} {below : List Frame} {meth : Method} {c : Code} {V : gT} {Q : State → Prop} {ad : Nat → Nat} {el : Nat → va_E} {cells slots : Nat} (hlt : l.stackTraces = false) (C : CX V (AL s) RL cL_law 9 (some .boolean) wsL_law p s m #[Value.ref b] meth c) (hX : va_X b L xs s s.heap) (hbl : b < s.heap.size) (hL : L ≤ 2048) (j : Nat) (hj : 4 * j + 4 ≤ L) (hcc : cells + 6 ≤ 601024) (hss : slots + 40 ≤ 7293034) (hJ : Inv V ad el) (K : ∀ el2, Inv V ad el2 → GW p l e room_1 s m #[Value.ref b] below meth c V (AL s) 9 Q 93 ad el2 (cells + 6) (slots + 40) 1039 [(4, .int (nI (4 * j))), (3, .ref (ad 92)), (2, .ref (ad 85)), (1, .ref (ad 0)), (0, .ref b)] []) : GW p l e room_1 s m #[Value.ref b] below meth c V (AL s) 9 Q 93 ad el cells slots 748 [(4, .int (nI (4 * j))), (3, .ref (ad 92)), (2, .ref (ad 85)), (1, .ref (ad 0)), (0, .ref b)] [] := by
  obtain ⟨cnt, M, St, We, pl, F, T, hc, h4, ⟨thr, sh, h5⟩, hstep, hF, hT, hP, g0, ho⟩ := hJ
  refine g_aload_n C 3 rfl dL_law_748 ?_
  refine g_aload_n C 4 rfl dL_law_749 ?_
  refine g_iload C 0 rfl dL_law_750 ?_
  refine g_iconst C (v := nI 1) dL_law_752 (by decide) ?_
  refine g_iadd C (v := nI ((4 * j) + 1)) dL_law_753 (nI_add _ _) ?_
  refine g_sld C hX hbl hL ((4 * j) + 1) rfl (by omega) dL_law_754 ?_
  refine g_aload_n C 1 rfl dL_law_755 ?_
  refine g_xcalli C (r_xSH C (st := []) (c_L_count l V hlt (by omega) hc h4 g0 ho (xs (4 * j + 1))) (vx_cwSW 3 C.ts gL_law_L_count rfl rfl rfl (by decide +kernel) ⟨(Nat.le_of_ble_eq_true rfl), (Nat.le_of_ble_eq_true rfl)⟩) rfl rfl (Nat.le_of_ble_eq_true rfl) dL_law_756 ⟨by show _ ≤ 601024; omega, by show _ ≤ 7293034; omega⟩) (fun E hE => hE.elim) (fun k u hu => ?_)
  rcases hu with ⟨rfl, r8, u8, hp, e8, ho8, hO⟩ | ⟨rfl, hno, hsame⟩
  · -- way 0
    obtain ⟨hok, hr⟩ := hp
    subst e8
    have hx4u := h4.keep (fun j hj => ho8 j (by omega))
    have hx5u := h5.keep (fun j h1 h2 => (ho8 j (by omega)).trans rfl)
    obtain ⟨g1, ho1, ho2⟩ := hO
    refine g_istore C (lv' := [(5, .int 0), (4, .int (nI (4 * j))), (3, .ref (ad 92)), (2, .ref (ad 85)), (1, .ref (ad 0)), (0, .ref b)]) dL_law_759 (by decide) rfl ?_
    refine g_aload_n C 3 rfl dL_law_761 ?_
    refine g_aload_n C 5 rfl dL_law_762 ?_
    refine g_iload C 1 rfl dL_law_763 ?_
    refine g_iconst C (v := nI 1) dL_law_765 (by decide) ?_
    refine g_iadd C (v := nI ((4 * j) + 1)) dL_law_766 (nI_add _ _) ?_
    refine g_sld C hX hbl hL ((4 * j) + 1) rfl (by omega) dL_law_767 ?_
    refine g_calli C (r_V C (st := []) (c_X5_count l V (by omega) hc hx5u hF (xs (4 * j + 1))) (cwV 1 C.ts gL_law_X5_count rfl rfl rfl (by decide +kernel) ⟨(Nat.le_of_ble_eq_true rfl), (Nat.le_of_ble_eq_true rfl)⟩) (by omega) hx5u.1 rfl rfl rfl (Nat.le_of_ble_eq_true rfl) dL_law_768 ⟨by show _ ≤ 601024; omega, by show _ ≤ 7293034; omega⟩) (fun v u2 hv => ?_)
    obtain ⟨hd, hfr2⟩ := hv
    have hx4v := hx4u.keep (fun j hj => hfr2 j (by omega))
    have hov := (hfr2 92 (by omega)).trans ho1
    rcases hd with ⟨hok5, hv5, hx5v⟩ | ⟨hno5, hx5v⟩
    · -- answer 0
      have hval : r8 = v := hr.trans hv5.symm
      refine g_istore C (lv' := [(6, .int v), (5, .int 0), (4, .int (nI (4 * j))), (3, .ref (ad 92)), (2, .ref (ad 85)), (1, .ref (ad 0)), (0, .ref b)]) dL_law_771 (by decide) rfl ?_
      refine g_aload_n C 4 rfl dL_law_773 ?_
      refine g_calli C (r_V C (st := []) (c_X5_thrown l V (by omega) hc hx5v) (cwV 0 C.ts gL_law_X5_thrown rfl rfl rfl (by decide +kernel) ⟨(Nat.le_of_ble_eq_true rfl), (Nat.le_of_ble_eq_true rfl)⟩) (by omega) hx5v.1 rfl rfl rfl (Nat.le_of_ble_eq_true rfl) dL_law_774 ⟨by show _ ≤ 601024; omega, by show _ ≤ 7293034; omega⟩) (fun t u3 ht => ?_)
      subst ht
      refine g_iload C 1 rfl dL_law_777 ?_
      refine g_icmp_eq C (tgt := 784) dL_law_779 (by decide) (fun c779 => ?_) (fun c779 => ?_)
      · -- 784
        refine g_iload C 1 rfl dL_law_784 ?_
        refine g_if_ne C (tgt := 801) dL_law_786 (by decide) (fun c786 => ?_) (fun c786 => ?_)
        · -- 801
          exact absurd rfl c786
        · -- 789
          refine g_aload_n C 3 rfl dL_law_789 ?_
          refine g_iconst C (v := nI 0) dL_law_790 (by decide) ?_
          refine g_lald C 92 (by omega) hov 0 rfl (by omega) (by decide) dL_law_791 ?_
          refine g_topl (ho2 : g1 0 = r8.toInt64) ?_
          refine g_iload C 0 rfl dL_law_792 ?_
          refine g_i2l C (v := v.toInt64) dL_law_794 rfl ?_
          refine g_lcmp C dL_law_795 ?_
          refine g_top ((by rw [hval]; exact lg_cmp_same _) : lg_cmp r8.toInt64 v.toInt64 = 0) ?_
          refine g_if_eq C (tgt := 801) dL_law_796 (by decide) (fun c796 => ?_) (fun c796 => ?_)
          · -- 801
            refine g_goto C (tgt := 1039) dL_law_801 (by decide) ?_
            refine g_lv [2, 3, 4, 5, 6] (lv' := [(4, .int (nI (4 * j))), (3, .ref (ad 92)), (2, .ref (ad 85)), (1, .ref (ad 0)), (0, .ref b)]) rfl ?_
            refine g_widen (k := cells + 6) (j := slots + 40) (by omega) (by omega) ?_
            exact K _ ⟨cnt, M, St, We, pl, F, T, hc, hx4v, ⟨_, _, hx5v⟩, hstep, hF, hT, hP, ⟨_, hov⟩⟩
          · -- 799
            exact absurd rfl c796
      · -- 782
        exact absurd rfl c779
    · -- answer 1
      exact absurd hok hno5
  · -- way 1
    have hx4u := h4.keep (fun j _ => hsame j)
    have hx5u := h5.keep (fun j _ _ => hsame j)
    have ho1 := (hsame 92).trans ho
    refine g_istore C (lv' := [(5, .int 1), (4, .int (nI (4 * j))), (3, .ref (ad 92)), (2, .ref (ad 85)), (1, .ref (ad 0)), (0, .ref b)]) dL_law_759 (by decide) rfl ?_
    refine g_aload_n C 3 rfl dL_law_761 ?_
    refine g_aload_n C 5 rfl dL_law_762 ?_
    refine g_iload C 1 rfl dL_law_763 ?_
    refine g_iconst C (v := nI 1) dL_law_765 (by decide) ?_
    refine g_iadd C (v := nI ((4 * j) + 1)) dL_law_766 (nI_add _ _) ?_
    refine g_sld C hX hbl hL ((4 * j) + 1) rfl (by omega) dL_law_767 ?_
    refine g_calli C (r_V C (st := []) (c_X5_count l V (by omega) hc hx5u hF (xs (4 * j + 1))) (cwV 1 C.ts gL_law_X5_count rfl rfl rfl (by decide +kernel) ⟨(Nat.le_of_ble_eq_true rfl), (Nat.le_of_ble_eq_true rfl)⟩) (by omega) hx5u.1 rfl rfl rfl (Nat.le_of_ble_eq_true rfl) dL_law_768 ⟨by show _ ≤ 601024; omega, by show _ ≤ 7293034; omega⟩) (fun v u2 hv => ?_)
    obtain ⟨hd, hfr2⟩ := hv
    have hx4v := hx4u.keep (fun j hj => hfr2 j (by omega))
    have hov := (hfr2 92 (by omega)).trans ho1
    rcases hd with ⟨hok5, hv5, hx5v⟩ | ⟨hno5, hx5v⟩
    · -- answer 0
      exact absurd hok5 hno
    · -- answer 1
      refine g_istore C (lv' := [(6, .int v), (5, .int 1), (4, .int (nI (4 * j))), (3, .ref (ad 92)), (2, .ref (ad 85)), (1, .ref (ad 0)), (0, .ref b)]) dL_law_771 (by decide) rfl ?_
      refine g_aload_n C 4 rfl dL_law_773 ?_
      refine g_calli C (r_V C (st := []) (c_X5_thrown l V (by omega) hc hx5v) (cwV 0 C.ts gL_law_X5_thrown rfl rfl rfl (by decide +kernel) ⟨(Nat.le_of_ble_eq_true rfl), (Nat.le_of_ble_eq_true rfl)⟩) (by omega) hx5v.1 rfl rfl rfl (Nat.le_of_ble_eq_true rfl) dL_law_774 ⟨by show _ ≤ 601024; omega, by show _ ≤ 7293034; omega⟩) (fun t u3 ht => ?_)
      subst ht
      refine g_iload C 1 rfl dL_law_777 ?_
      refine g_icmp_eq C (tgt := 784) dL_law_779 (by decide) (fun c779 => ?_) (fun c779 => ?_)
      · -- 784
        refine g_iload C 1 rfl dL_law_784 ?_
        refine g_if_ne C (tgt := 801) dL_law_786 (by decide) (fun c786 => ?_) (fun c786 => ?_)
        · -- 801
          refine g_goto C (tgt := 1039) dL_law_801 (by decide) ?_
          refine g_lv [2, 3, 4, 5, 6] (lv' := [(4, .int (nI (4 * j))), (3, .ref (ad 92)), (2, .ref (ad 85)), (1, .ref (ad 0)), (0, .ref b)]) rfl ?_
          refine g_widen (k := cells + 6) (j := slots + 40) (by omega) (by omega) ?_
          exact K _ ⟨cnt, M, St, We, pl, F, T, hc, hx4v, ⟨_, _, hx5v⟩, hstep, hF, hT, hP, ⟨_, hov⟩⟩
        · -- 789
          exact absurd c786 (by decide)
      · -- 782
        exact absurd rfl c779
