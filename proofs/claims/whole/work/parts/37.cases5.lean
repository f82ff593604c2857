/-! ===== the law's cases, on ===== -/
set_option maxHeartbeats 4000000 in
set_option maxRecDepth 100000 in
theorem law_case_11 {p : Program} {l : Launch} {e : Env} {s : State} {m : MethodId} {b L : Nat} {xs : Nat → Int32} {below : List Frame} {meth : Method} {c : Code} {V : gT} {Q : State → Prop} {ad : Nat → Nat} {el : Nat → va_E} {cells slots : Nat} (hlt : l.stackTraces = false) (C : CX V (AL s) RL cL_law 9 (some .boolean) wsL_law p s m #[Value.ref b] meth c) (hX : va_X b L xs s s.heap) (hbl : b < s.heap.size) (hL : L ≤ 2048) (j : Nat) (hj : 4 * j + 4 ≤ L) (hcc : cells + 6 ≤ 601024) (hss : slots + 40 ≤ 7293034) (hJ : Inv V ad el) (K : ∀ el2, Inv V ad el2 → GW p l e room_1 s m #[Value.ref b] below meth c V (AL s) 9 Q 93 ad el2 (cells + 6) (slots + 40) 1039 [(4, .int (nI (4 * j))), (3, .ref (ad 92)), (2, .ref (ad 85)), (1, .ref (ad 0)), (0, .ref b)] []) : GW p l e room_1 s m #[Value.ref b] below meth c V (AL s) 9 Q 93 ad el cells slots 804 [(4, .int (nI (4 * j))), (3, .ref (ad 92)), (2, .ref (ad 85)), (1, .ref (ad 0)), (0, .ref b)] [] := by
  obtain ⟨cnt, M, St, We, pl, F, T, hc, h4, ⟨thr, sh, h5⟩, hstep, hF, hT, hP, g0, ho⟩ := hJ
  refine g_aload_n C 3 rfl dL_law_804 ?_
  refine g_aload_n C 4 rfl dL_law_805 ?_
  refine g_iload C 0 rfl dL_law_806 ?_
  refine g_iconst C (v := nI 1) dL_law_808 (by decide) ?_
  refine g_iadd C (v := nI ((4 * j) + 1)) dL_law_809 (nI_add _ _) ?_
  refine g_sld C hX hbl hL ((4 * j) + 1) rfl (by omega) dL_law_810 ?_
  refine g_aload_n C 4 rfl dL_law_811 ?_
  refine g_iload C 0 rfl dL_law_812 ?_
  refine g_iconst C (v := nI 2) dL_law_814 (by decide) ?_
  refine g_iadd C (v := nI ((4 * j) + 2)) dL_law_815 (nI_add _ _) ?_
  refine g_sld C hX hbl hL ((4 * j) + 2) rfl (by omega) dL_law_816 ?_
  refine g_aload_n C 1 rfl dL_law_817 ?_
  refine g_xcalli C (r_xSH C (st := []) (c_L_foresee l V hlt (by omega) hc h4 g0 ho (xs (4 * j + 1)) (xs (4 * j + 2))) (vx_cwSW 4 C.ts gL_law_L_foresee rfl rfl rfl (by decide +kernel) ⟨(Nat.le_of_ble_eq_true rfl), (Nat.le_of_ble_eq_true rfl)⟩) rfl rfl (Nat.le_of_ble_eq_true rfl) dL_law_818 ⟨by show _ ≤ 601024; omega, by show _ ≤ 7293034; omega⟩) (fun E hE => hE.elim) (fun k u hu => ?_)
  rcases hu with ⟨rfl, r8, u8, hp, ho8, hO⟩ | ⟨rfl, hno, hsame⟩ | ⟨rfl, hno, hsame⟩
  · -- way 0
    obtain ⟨N, hN1, hN, hxN, hy, hr, hx4, hfr⟩ := hp
    have hx4u := hx4.keep (fun j hj => ho8 j (by omega))
    have hx5u := h5.keep (fun j h1 h2 => (ho8 j (by omega)).trans (hfr j (by omega)))
    obtain ⟨g1, ho1, ho2⟩ := hO
    refine g_istore C (lv' := [(5, .int 0), (4, .int (nI (4 * j))), (3, .ref (ad 92)), (2, .ref (ad 85)), (1, .ref (ad 0)), (0, .ref b)]) dL_law_821 (by decide) rfl ?_
    refine g_aload_n C 3 rfl dL_law_823 ?_
    refine g_aload_n C 5 rfl dL_law_824 ?_
    refine g_iload C 1 rfl dL_law_825 ?_
    refine g_iconst C (v := nI 1) dL_law_827 (by decide) ?_
    refine g_iadd C (v := nI ((4 * j) + 1)) dL_law_828 (nI_add _ _) ?_
    refine g_sld C hX hbl hL ((4 * j) + 1) rfl (by omega) dL_law_829 ?_
    refine g_aload_n C 5 rfl dL_law_830 ?_
    refine g_iload C 1 rfl dL_law_831 ?_
    refine g_iconst C (v := nI 2) dL_law_833 (by decide) ?_
    refine g_iadd C (v := nI ((4 * j) + 2)) dL_law_834 (nI_add _ _) ?_
    refine g_sld C hX hbl hL ((4 * j) + 2) rfl (by omega) dL_law_835 ?_
    refine g_calli C (r_V C (st := []) (c_X5_foresee l V (by omega) hc hx5u hstep (xs (4 * j + 1)) (xs (4 * j + 2))) (cwV 2 C.ts gL_law_X5_foresee rfl rfl rfl (by decide +kernel) ⟨(Nat.le_of_ble_eq_true rfl), (Nat.le_of_ble_eq_true rfl)⟩) (by omega) hx5u.1 rfl rfl rfl (Nat.le_of_ble_eq_true rfl) dL_law_836 ⟨by show _ ≤ 601024; omega, by show _ ≤ 7293034; omega⟩) (fun v u2 hv => ?_)
    obtain ⟨hd, hfr2⟩ := hv
    have hx4v := hx4u.keep (fun j hj => hfr2 j (by omega))
    have hov := (hfr2 92 (by omega)).trans ho1
    rcases hd with ⟨N5, hN15, hN5, hxN5, hy5, hv5, sh5, hx5v⟩ | ⟨hno1, hx5v⟩ | ⟨hno2, hx5v⟩
    · -- answer 0
      have e_N := nI_inj (by omega) (by omega) hxN hxN5
      subst e_N
      have hval : r8 = v := hr.trans hv5.symm
      refine g_istore C (lv' := [(6, .int v), (5, .int 0), (4, .int (nI (4 * j))), (3, .ref (ad 92)), (2, .ref (ad 85)), (1, .ref (ad 0)), (0, .ref b)]) dL_law_839 (by decide) rfl ?_
      refine g_aload_n C 4 rfl dL_law_841 ?_
      refine g_calli C (r_V C (st := []) (c_X5_thrown l V (by omega) hc hx5v) (cwV 0 C.ts gL_law_X5_thrown rfl rfl rfl (by decide +kernel) ⟨(Nat.le_of_ble_eq_true rfl), (Nat.le_of_ble_eq_true rfl)⟩) (by omega) hx5v.1 rfl rfl rfl (Nat.le_of_ble_eq_true rfl) dL_law_842 ⟨by show _ ≤ 601024; omega, by show _ ≤ 7293034; omega⟩) (fun t u3 ht => ?_)
      subst ht
      refine g_iload C 1 rfl dL_law_845 ?_
      refine g_icmp_eq C (tgt := 852) dL_law_847 (by decide) (fun c847 => ?_) (fun c847 => ?_)
      · -- 852
        refine g_iload C 1 rfl dL_law_852 ?_
        refine g_if_ne C (tgt := 869) dL_law_854 (by decide) (fun c854 => ?_) (fun c854 => ?_)
        · -- 869
          exact absurd rfl c854
        · -- 857
          refine g_aload_n C 3 rfl dL_law_857 ?_
          refine g_iconst C (v := nI 0) dL_law_858 (by decide) ?_
          refine g_lald C 92 (by omega) hov 0 rfl (by omega) (by decide) dL_law_859 ?_
          refine g_topl (ho2 : g1 0 = r8.toInt64) ?_
          refine g_iload C 0 rfl dL_law_860 ?_
          refine g_i2l C (v := v.toInt64) dL_law_862 rfl ?_
          refine g_lcmp C dL_law_863 ?_
          refine g_top ((by rw [hval]; exact lg_cmp_same _) : lg_cmp r8.toInt64 v.toInt64 = 0) ?_
          refine g_if_eq C (tgt := 869) dL_law_864 (by decide) (fun c864 => ?_) (fun c864 => ?_)
          · -- 869
            refine g_goto C (tgt := 1039) dL_law_869 (by decide) ?_
            refine g_lv [2, 3, 4, 5, 6] (lv' := [(4, .int (nI (4 * j))), (3, .ref (ad 92)), (2, .ref (ad 85)), (1, .ref (ad 0)), (0, .ref b)]) rfl ?_
            refine g_widen (k := cells + 6) (j := slots + 40) (by omega) (by omega) ?_
            exact K _ ⟨cnt, M, St, We, pl, F, T, hc, hx4v, ⟨_, _, hx5v⟩, hstep, hF, hT, hP, ⟨_, hov⟩⟩
          · -- 867
            exact absurd rfl c864
      · -- 850
        exact absurd rfl c847
    · -- answer 1
      exact absurd (in1_of hxN hN1 hN) hno1
    · -- answer 2
      exact absurd hy hno2.2
  · -- way 1
    have hx4u := h4.keep (fun j _ => hsame j)
    have hx5u := h5.keep (fun j _ _ => hsame j)
    have ho1 := (hsame 92).trans ho
    refine g_istore C (lv' := [(5, .int 1), (4, .int (nI (4 * j))), (3, .ref (ad 92)), (2, .ref (ad 85)), (1, .ref (ad 0)), (0, .ref b)]) dL_law_821 (by decide) rfl ?_
    refine g_aload_n C 3 rfl dL_law_823 ?_
    refine g_aload_n C 5 rfl dL_law_824 ?_
    refine g_iload C 1 rfl dL_law_825 ?_
    refine g_iconst C (v := nI 1) dL_law_827 (by decide) ?_
    refine g_iadd C (v := nI ((4 * j) + 1)) dL_law_828 (nI_add _ _) ?_
    refine g_sld C hX hbl hL ((4 * j) + 1) rfl (by omega) dL_law_829 ?_
    refine g_aload_n C 5 rfl dL_law_830 ?_
    refine g_iload C 1 rfl dL_law_831 ?_
    refine g_iconst C (v := nI 2) dL_law_833 (by decide) ?_
    refine g_iadd C (v := nI ((4 * j) + 2)) dL_law_834 (nI_add _ _) ?_
    refine g_sld C hX hbl hL ((4 * j) + 2) rfl (by omega) dL_law_835 ?_
    refine g_calli C (r_V C (st := []) (c_X5_foresee l V (by omega) hc hx5u hstep (xs (4 * j + 1)) (xs (4 * j + 2))) (cwV 2 C.ts gL_law_X5_foresee rfl rfl rfl (by decide +kernel) ⟨(Nat.le_of_ble_eq_true rfl), (Nat.le_of_ble_eq_true rfl)⟩) (by omega) hx5u.1 rfl rfl rfl (Nat.le_of_ble_eq_true rfl) dL_law_836 ⟨by show _ ≤ 601024; omega, by show _ ≤ 7293034; omega⟩) (fun v u2 hv => ?_)
    obtain ⟨hd, hfr2⟩ := hv
    have hx4v := hx4u.keep (fun j hj => hfr2 j (by omega))
    have hov := (hfr2 92 (by omega)).trans ho1
    rcases hd with ⟨N5, hN15, hN5, hxN5, hy5, hv5, sh5, hx5v⟩ | ⟨hno1, hx5v⟩ | ⟨hno2, hx5v⟩
    · -- answer 0
      exact absurd (in1_of hxN5 hN15 hN5) hno
    · -- answer 1
      refine g_istore C (lv' := [(6, .int v), (5, .int 1), (4, .int (nI (4 * j))), (3, .ref (ad 92)), (2, .ref (ad 85)), (1, .ref (ad 0)), (0, .ref b)]) dL_law_839 (by decide) rfl ?_
      refine g_aload_n C 4 rfl dL_law_841 ?_
      refine g_calli C (r_V C (st := []) (c_X5_thrown l V (by omega) hc hx5v) (cwV 0 C.ts gL_law_X5_thrown rfl rfl rfl (by decide +kernel) ⟨(Nat.le_of_ble_eq_true rfl), (Nat.le_of_ble_eq_true rfl)⟩) (by omega) hx5v.1 rfl rfl rfl (Nat.le_of_ble_eq_true rfl) dL_law_842 ⟨by show _ ≤ 601024; omega, by show _ ≤ 7293034; omega⟩) (fun t u3 ht => ?_)
      subst ht
      refine g_iload C 1 rfl dL_law_845 ?_
      refine g_icmp_eq C (tgt := 852) dL_law_847 (by decide) (fun c847 => ?_) (fun c847 => ?_)
      · -- 852
        refine g_iload C 1 rfl dL_law_852 ?_
        refine g_if_ne C (tgt := 869) dL_law_854 (by decide) (fun c854 => ?_) (fun c854 => ?_)
        · -- 869
          refine g_goto C (tgt := 1039) dL_law_869 (by decide) ?_
          refine g_lv [2, 3, 4, 5, 6] (lv' := [(4, .int (nI (4 * j))), (3, .ref (ad 92)), (2, .ref (ad 85)), (1, .ref (ad 0)), (0, .ref b)]) rfl ?_
          refine g_widen (k := cells + 6) (j := slots + 40) (by omega) (by omega) ?_
          exact K _ ⟨cnt, M, St, We, pl, F, T, hc, hx4v, ⟨_, _, hx5v⟩, hstep, hF, hT, hP, ⟨_, hov⟩⟩
        · -- 857
          exact absurd c854 (by decide)
      · -- 850
        exact absurd rfl c847
    · -- answer 2
      exact absurd hno2.1 hno
  · -- way 2
    have hx4u := h4.keep (fun j _ => hsame j)
    have hx5u := h5.keep (fun j _ _ => hsame j)
    have ho1 := (hsame 92).trans ho
    refine g_istore C (lv' := [(5, .int 2), (4, .int (nI (4 * j))), (3, .ref (ad 92)), (2, .ref (ad 85)), (1, .ref (ad 0)), (0, .ref b)]) dL_law_821 (by decide) rfl ?_
    refine g_aload_n C 3 rfl dL_law_823 ?_
    refine g_aload_n C 5 rfl dL_law_824 ?_
    refine g_iload C 1 rfl dL_law_825 ?_
    refine g_iconst C (v := nI 1) dL_law_827 (by decide) ?_
    refine g_iadd C (v := nI ((4 * j) + 1)) dL_law_828 (nI_add _ _) ?_
    refine g_sld C hX hbl hL ((4 * j) + 1) rfl (by omega) dL_law_829 ?_
    refine g_aload_n C 5 rfl dL_law_830 ?_
    refine g_iload C 1 rfl dL_law_831 ?_
    refine g_iconst C (v := nI 2) dL_law_833 (by decide) ?_
    refine g_iadd C (v := nI ((4 * j) + 2)) dL_law_834 (nI_add _ _) ?_
    refine g_sld C hX hbl hL ((4 * j) + 2) rfl (by omega) dL_law_835 ?_
    refine g_calli C (r_V C (st := []) (c_X5_foresee l V (by omega) hc hx5u hstep (xs (4 * j + 1)) (xs (4 * j + 2))) (cwV 2 C.ts gL_law_X5_foresee rfl rfl rfl (by decide +kernel) ⟨(Nat.le_of_ble_eq_true rfl), (Nat.le_of_ble_eq_true rfl)⟩) (by omega) hx5u.1 rfl rfl rfl (Nat.le_of_ble_eq_true rfl) dL_law_836 ⟨by show _ ≤ 601024; omega, by show _ ≤ 7293034; omega⟩) (fun v u2 hv => ?_)
    obtain ⟨hd, hfr2⟩ := hv
    have hx4v := hx4u.keep (fun j hj => hfr2 j (by omega))
    have hov := (hfr2 92 (by omega)).trans ho1
    rcases hd with ⟨N5, hN15, hN5, hxN5, hy5, hv5, sh5, hx5v⟩ | ⟨hno1, hx5v⟩ | ⟨hno2, hx5v⟩
    · -- answer 0
      exact absurd hy5 hno.2
    · -- answer 1
      exact absurd hno.1 hno1
    · -- answer 2
      refine g_istore C (lv' := [(6, .int v), (5, .int 2), (4, .int (nI (4 * j))), (3, .ref (ad 92)), (2, .ref (ad 85)), (1, .ref (ad 0)), (0, .ref b)]) dL_law_839 (by decide) rfl ?_
      refine g_aload_n C 4 rfl dL_law_841 ?_
      refine g_calli C (r_V C (st := []) (c_X5_thrown l V (by omega) hc hx5v) (cwV 0 C.ts gL_law_X5_thrown rfl rfl rfl (by decide +kernel) ⟨(Nat.le_of_ble_eq_true rfl), (Nat.le_of_ble_eq_true rfl)⟩) (by omega) hx5v.1 rfl rfl rfl (Nat.le_of_ble_eq_true rfl) dL_law_842 ⟨by show _ ≤ 601024; omega, by show _ ≤ 7293034; omega⟩) (fun t u3 ht => ?_)
      subst ht
      refine g_iload C 1 rfl dL_law_845 ?_
      refine g_icmp_eq C (tgt := 852) dL_law_847 (by decide) (fun c847 => ?_) (fun c847 => ?_)
      · -- 852
        refine g_iload C 1 rfl dL_law_852 ?_
        refine g_if_ne C (tgt := 869) dL_law_854 (by decide) (fun c854 => ?_) (fun c854 => ?_)
        · -- 869
          refine g_goto C (tgt := 1039) dL_law_869 (by decide) ?_
          refine g_lv [2, 3, 4, 5, 6] (lv' := [(4, .int (nI (4 * j))), (3, .ref (ad 92)), (2, .ref (ad 85)), (1, .ref (ad 0)), (0, .ref b)]) rfl ?_
          refine g_widen (k := cells + 6) (j := slots + 40) (by omega) (by omega) ?_
          exact K _ ⟨cnt, M, St, We, pl, F, T, hc, hx4v, ⟨_, _, hx5v⟩, hstep, hF, hT, hP, ⟨_, hov⟩⟩
        · -- 857
          exact absurd c854 (by decide)
      · -- 850
        exact absurd rfl c847

set_option maxHeartbeats 4000000 in
set_option maxRecDepth 100000 in
theorem law_case_12 {p : Program} {l : Launch} {e : Env} {s : State} {m : MethodId} {b L : Nat} {xs : Nat → Int32} {below : List Frame} {meth : Method} {c : Code} {V : gT} {Q : State → Prop} {ad : Nat → Nat} {el : Nat → va_E} {cells slots : Nat} (hlt : l.stackTraces = false) (C : CX V (AL s) RL cL_law 9 (some .boolean) wsL_law p s m #[Value.ref b] meth c) (hX : va_X b L xs s s.heap) (hbl : b < s.heap.size) (hL : L ≤ 2048) (j : Nat) (hj : 4 * j + 4 ≤ L) (hcc : cells + 6 ≤ 601024) (hss : slots + 40 ≤ 7293034) (hJ : Inv V ad el) (K : ∀ el2, Inv V ad el2 → GW p l e room_1 s m #[Value.ref b] below meth c V (AL s) 9 Q 93 ad el2 (cells + 6) (slots + 40) 1039 [(4, .int (nI (4 * j))), (3, .ref (ad 92)), (2, .ref (ad 85)), (1, .ref (ad 0)), (0, .ref b)] []) : GW p l e room_1 s m #[Value.ref b] below meth c V (AL s) 9 Q 93 ad el cells slots 872 [(4, .int (nI (4 * j))), (3, .ref (ad 92)), (2, .ref (ad 85)), (1, .ref (ad 0)), (0, .ref b)] [] := by
  obtain ⟨cnt, M, St, We, pl, F, T, hc, h4, ⟨thr, sh, h5⟩, hstep, hF, hT, hP, g0, ho⟩ := hJ
  refine g_aload_n C 3 rfl dL_law_872 ?_
  refine g_aload_n C 4 rfl dL_law_873 ?_
  refine g_iload C 0 rfl dL_law_874 ?_
  refine g_iconst C (v := nI 1) dL_law_876 (by decide) ?_
  refine g_iadd C (v := nI ((4 * j) + 1)) dL_law_877 (nI_add _ _) ?_
  refine g_sld C hX hbl hL ((4 * j) + 1) rfl (by omega) dL_law_878 ?_
  refine g_aload_n C 1 rfl dL_law_879 ?_
  refine g_xcalli C (r_xSH C (st := []) (c_L_advise l V hlt (by omega) hc h4 g0 ho (xs (4 * j + 1))) (vx_cwSW 3 C.ts gL_law_L_advise rfl rfl rfl (by decide +kernel) ⟨(Nat.le_of_ble_eq_true rfl), (Nat.le_of_ble_eq_true rfl)⟩) rfl rfl (Nat.le_of_ble_eq_true rfl) dL_law_880 ⟨by show _ ≤ 601024; omega, by show _ ≤ 7293034; omega⟩) (fun E hE => hE.elim) (fun k u hu => ?_)
  rcases hu with ⟨rfl, r8, u8, hp, ho8, hO⟩ | ⟨rfl, hno, hsame⟩
  · -- way 0
    obtain ⟨N, hN1, hN, hxN, hr, hx4, hfr⟩ := hp
    have hx4u := hx4.keep (fun j hj => ho8 j (by omega))
    have hx5u := h5.keep (fun j h1 h2 => (ho8 j (by omega)).trans (hfr j (by omega)))
    obtain ⟨g1, ho1, ho2⟩ := hO
    refine g_istore C (lv' := [(5, .int 0), (4, .int (nI (4 * j))), (3, .ref (ad 92)), (2, .ref (ad 85)), (1, .ref (ad 0)), (0, .ref b)]) dL_law_883 (by decide) rfl ?_
    refine g_aload_n C 3 rfl dL_law_885 ?_
    refine g_aload_n C 5 rfl dL_law_886 ?_
    refine g_iload C 1 rfl dL_law_887 ?_
    refine g_iconst C (v := nI 1) dL_law_889 (by decide) ?_
    refine g_iadd C (v := nI ((4 * j) + 1)) dL_law_890 (nI_add _ _) ?_
    refine g_sld C hX hbl hL ((4 * j) + 1) rfl (by omega) dL_law_891 ?_
    refine g_calli C (r_V C (st := []) (c_X5_advise l V (by omega) hc hx5u hstep (xs (4 * j + 1))) (cwV 1 C.ts gL_law_X5_advise rfl rfl rfl (by decide +kernel) ⟨(Nat.le_of_ble_eq_true rfl), (Nat.le_of_ble_eq_true rfl)⟩) (by omega) hx5u.1 rfl rfl rfl (Nat.le_of_ble_eq_true rfl) dL_law_892 ⟨by show _ ≤ 601024; omega, by show _ ≤ 7293034; omega⟩) (fun v u2 hv => ?_)
    obtain ⟨hd, hfr2⟩ := hv
    have hx4v := hx4u.keep (fun j hj => hfr2 j (by omega))
    have hov := (hfr2 92 (by omega)).trans ho1
    rcases hd with ⟨N5, hN15, hN5, hxN5, hv5, sh5, hx5v⟩ | ⟨hno5, hx5v⟩
    · -- answer 0
      have e_N := nI_inj (by omega) (by omega) hxN hxN5
      subst e_N
      have hval : r8 = v := hr.trans hv5.symm
      refine g_istore C (lv' := [(6, .int v), (5, .int 0), (4, .int (nI (4 * j))), (3, .ref (ad 92)), (2, .ref (ad 85)), (1, .ref (ad 0)), (0, .ref b)]) dL_law_895 (by decide) rfl ?_
      refine g_aload_n C 4 rfl dL_law_897 ?_
      refine g_calli C (r_V C (st := []) (c_X5_thrown l V (by omega) hc hx5v) (cwV 0 C.ts gL_law_X5_thrown rfl rfl rfl (by decide +kernel) ⟨(Nat.le_of_ble_eq_true rfl), (Nat.le_of_ble_eq_true rfl)⟩) (by omega) hx5v.1 rfl rfl rfl (Nat.le_of_ble_eq_true rfl) dL_law_898 ⟨by show _ ≤ 601024; omega, by show _ ≤ 7293034; omega⟩) (fun t u3 ht => ?_)
      subst ht
      refine g_iload C 1 rfl dL_law_901 ?_
      refine g_icmp_eq C (tgt := 908) dL_law_903 (by decide) (fun c903 => ?_) (fun c903 => ?_)
      · -- 908
        refine g_iload C 1 rfl dL_law_908 ?_
        refine g_if_ne C (tgt := 925) dL_law_910 (by decide) (fun c910 => ?_) (fun c910 => ?_)
        · -- 925
          exact absurd rfl c910
        · -- 913
          refine g_aload_n C 3 rfl dL_law_913 ?_
          refine g_iconst C (v := nI 0) dL_law_914 (by decide) ?_
          refine g_lald C 92 (by omega) hov 0 rfl (by omega) (by decide) dL_law_915 ?_
          refine g_topl (ho2 : g1 0 = r8.toInt64) ?_
          refine g_iload C 0 rfl dL_law_916 ?_
          refine g_i2l C (v := v.toInt64) dL_law_918 rfl ?_
          refine g_lcmp C dL_law_919 ?_
          refine g_top ((by rw [hval]; exact lg_cmp_same _) : lg_cmp r8.toInt64 v.toInt64 = 0) ?_
          refine g_if_eq C (tgt := 925) dL_law_920 (by decide) (fun c920 => ?_) (fun c920 => ?_)
          · -- 925
            refine g_goto C (tgt := 1039) dL_law_925 (by decide) ?_
            refine g_lv [2, 3, 4, 5, 6] (lv' := [(4, .int (nI (4 * j))), (3, .ref (ad 92)), (2, .ref (ad 85)), (1, .ref (ad 0)), (0, .ref b)]) rfl ?_
            refine g_widen (k := cells + 6) (j := slots + 40) (by omega) (by omega) ?_
            exact K _ ⟨cnt, M, St, We, pl, F, T, hc, hx4v, ⟨_, _, hx5v⟩, hstep, hF, hT, hP, ⟨_, hov⟩⟩
          · -- 923
            exact absurd rfl c920
      · -- 906
        exact absurd rfl c903
    · -- answer 1
      exact absurd (in1_of hxN hN1 hN) hno5
  · -- way 1
    have hx4u := h4.keep (fun j _ => hsame j)
    have hx5u := h5.keep (fun j _ _ => hsame j)
    have ho1 := (hsame 92).trans ho
    refine g_istore C (lv' := [(5, .int 1), (4, .int (nI (4 * j))), (3, .ref (ad 92)), (2, .ref (ad 85)), (1, .ref (ad 0)), (0, .ref b)]) dL_law_883 (by decide) rfl ?_
    refine g_aload_n C 3 rfl dL_law_885 ?_
    refine g_aload_n C 5 rfl dL_law_886 ?_
    refine g_iload C 1 rfl dL_law_887 ?_
    refine g_iconst C (v := nI 1) dL_law_889 (by decide) ?_
    refine g_iadd C (v := nI ((4 * j) + 1)) dL_law_890 (nI_add _ _) ?_
    refine g_sld C hX hbl hL ((4 * j) + 1) rfl (by omega) dL_law_891 ?_
    refine g_calli C (r_V C (st := []) (c_X5_advise l V (by omega) hc hx5u hstep (xs (4 * j + 1))) (cwV 1 C.ts gL_law_X5_advise rfl rfl rfl (by decide +kernel) ⟨(Nat.le_of_ble_eq_true rfl), (Nat.le_of_ble_eq_true rfl)⟩) (by omega) hx5u.1 rfl rfl rfl (Nat.le_of_ble_eq_true rfl) dL_law_892 ⟨by show _ ≤ 601024; omega, by show _ ≤ 7293034; omega⟩) (fun v u2 hv => ?_)
    obtain ⟨hd, hfr2⟩ := hv
    have hx4v := hx4u.keep (fun j hj => hfr2 j (by omega))
    have hov := (hfr2 92 (by omega)).trans ho1
    rcases hd with ⟨N5, hN15, hN5, hxN5, hv5, sh5, hx5v⟩ | ⟨hno5, hx5v⟩
    · -- answer 0
      exact absurd (in1_of hxN5 hN15 hN5) hno
    · -- answer 1
      refine g_istore C (lv' := [(6, .int v), (5, .int 1), (4, .int (nI (4 * j))), (3, .ref (ad 92)), (2, .ref (ad 85)), (1, .ref (ad 0)), (0, .ref b)]) dL_law_895 (by decide) rfl ?_
      refine g_aload_n C 4 rfl dL_law_897 ?_
      refine g_calli C (r_V C (st := []) (c_X5_thrown l V (by omega) hc hx5v) (cwV 0 C.ts gL_law_X5_thrown rfl rfl rfl (by decide +kernel) ⟨(Nat.le_of_ble_eq_true rfl), (Nat.le_of_ble_eq_true rfl)⟩) (by omega) hx5v.1 rfl rfl rfl (Nat.le_of_ble_eq_true rfl) dL_law_898 ⟨by show _ ≤ 601024; omega, by show _ ≤ 7293034; omega⟩) (fun t u3 ht => ?_)
      subst ht
      refine g_iload C 1 rfl dL_law_901 ?_
      refine g_icmp_eq C (tgt := 908) dL_law_903 (by decide) (fun c903 => ?_) (fun c903 => ?_)
      · -- 908
        refine g_iload C 1 rfl dL_law_908 ?_
        refine g_if_ne C (tgt := 925) dL_law_910 (by decide) (fun c910 => ?_) (fun c910 => ?_)
        · -- 925
          refine g_goto C (tgt := 1039) dL_law_925 (by decide) ?_
          refine g_lv [2, 3, 4, 5, 6] (lv' := [(4, .int (nI (4 * j))), (3, .ref (ad 92)), (2, .ref (ad 85)), (1, .ref (ad 0)), (0, .ref b)]) rfl ?_
          refine g_widen (k := cells + 6) (j := slots + 40) (by omega) (by omega) ?_
          exact K _ ⟨cnt, M, St, We, pl, F, T, hc, hx4v, ⟨_, _, hx5v⟩, hstep, hF, hT, hP, ⟨_, hov⟩⟩
        · -- 913
          exact absurd c910 (by decide)
      · -- 906
        exact absurd rfl c903

set_option maxHeartbeats 4000000 in
set_option maxRecDepth 100000 in
theorem law_case_13 {p : Program} {l : Launch} {e : Env} {s : State} {m : MethodId} {b L : Nat} {xs : Nat → Int32} {below : List Frame} {meth : Method} {c : Code} {V : gT} {Q : State → Prop} {ad : Nat → Nat} {el : Nat → va_E} {cells slots : Nat} (hlt : l.stackTraces = false) (C : CX V (AL s) RL cL_law 9 (some .boolean) wsL_law p s m #[Value.ref b] meth c) (hX : va_X b L xs s s.heap) (hbl : b < s.heap.size) (hL : L ≤ 2048) (j : Nat) (hj : 4 * j + 4 ≤ L) (hcc : cells + 6 ≤ 601024) (hss : slots + 40 ≤ 7293034) (hJ : Inv V ad el) (K : ∀ el2, Inv V ad el2 → GW p l e room_1 s m #[Value.ref b] below meth c V (AL s) 9 Q 93 ad el2 (cells + 6) (slots + 40) 1039 [(4, .int (nI (4 * j))), (3, .ref (ad 92)), (2, .ref (ad 85)), (1, .ref (ad 0)), (0, .ref b)] []) : GW p l e room_1 s m #[Value.ref b] below meth c V (AL s) 9 Q 93 ad el cells slots 928 [(4, .int (nI (4 * j))), (3, .ref (ad 92)), (2, .ref (ad 85)), (1, .ref (ad 0)), (0, .ref b)] [] := by
  obtain ⟨cnt, M, St, We, pl, F, T, hc, h4, ⟨thr, sh, h5⟩, hstep, hF, hT, hP, g0, ho⟩ := hJ
  refine g_aload_n C 3 rfl dL_law_928 ?_
  refine g_aload_n C 4 rfl dL_law_929 ?_
  refine g_iload C 0 rfl dL_law_930 ?_
  refine g_iconst C (v := nI 1) dL_law_932 (by decide) ?_
  refine g_iadd C (v := nI ((4 * j) + 1)) dL_law_933 (nI_add _ _) ?_
  refine g_sld C hX hbl hL ((4 * j) + 1) rfl (by omega) dL_law_934 ?_
  refine g_aload_n C 1 rfl dL_law_935 ?_
  refine g_xcalli C (r_xSH C (st := []) (c_L_like l V hlt (by omega) hc h4 g0 ho (xs (4 * j + 1))) (vx_cwSW 3 C.ts gL_law_L_like rfl rfl rfl (by decide +kernel) ⟨(Nat.le_of_ble_eq_true rfl), (Nat.le_of_ble_eq_true rfl)⟩) rfl rfl (Nat.le_of_ble_eq_true rfl) dL_law_936 ⟨by show _ ≤ 601024; omega, by show _ ≤ 7293034; omega⟩) (fun E hE => hE.elim) (fun k u hu => ?_)
  rcases hu with ⟨rfl, r8, u8, hp, e8, ho8, hO⟩ | ⟨rfl, hno, hsame⟩
  · -- way 0
    obtain ⟨hok, hr⟩ := hp
    subst e8
    have hx4u := h4.keep (fun j hj => ho8 j (by omega))
    have hx5u := h5.keep (fun j h1 h2 => (ho8 j (by omega)).trans rfl)
    obtain ⟨g1, ho1, ho2⟩ := hO
    refine g_istore C (lv' := [(5, .int 0), (4, .int (nI (4 * j))), (3, .ref (ad 92)), (2, .ref (ad 85)), (1, .ref (ad 0)), (0, .ref b)]) dL_law_939 (by decide) rfl ?_
    refine g_aload_n C 3 rfl dL_law_941 ?_
    refine g_aload_n C 5 rfl dL_law_942 ?_
    refine g_iload C 1 rfl dL_law_943 ?_
    refine g_iconst C (v := nI 1) dL_law_945 (by decide) ?_
    refine g_iadd C (v := nI ((4 * j) + 1)) dL_law_946 (nI_add _ _) ?_
    refine g_sld C hX hbl hL ((4 * j) + 1) rfl (by omega) dL_law_947 ?_
    refine g_calli C (r_V C (st := []) (c_X5_like l V (by omega) hc hx5u hF (xs (4 * j + 1))) (cwV 1 C.ts gL_law_X5_like rfl rfl rfl (by decide +kernel) ⟨(Nat.le_of_ble_eq_true rfl), (Nat.le_of_ble_eq_true rfl)⟩) (by omega) hx5u.1 rfl rfl rfl (Nat.le_of_ble_eq_true rfl) dL_law_948 ⟨by show _ ≤ 601024; omega, by show _ ≤ 7293034; omega⟩) (fun v u2 hv => ?_)
    obtain ⟨hd, hfr2⟩ := hv
    have hx4v := hx4u.keep (fun j hj => hfr2 j (by omega))
    have hov := (hfr2 92 (by omega)).trans ho1
    rcases hd with ⟨hok5, hv5, hx5v⟩ | ⟨hno5, hx5v⟩
    · -- answer 0
      have hval : r8 = v := hr.trans hv5.symm
      refine g_istore C (lv' := [(6, .int v), (5, .int 0), (4, .int (nI (4 * j))), (3, .ref (ad 92)), (2, .ref (ad 85)), (1, .ref (ad 0)), (0, .ref b)]) dL_law_951 (by decide) rfl ?_
      refine g_aload_n C 4 rfl dL_law_953 ?_
      refine g_calli C (r_V C (st := []) (c_X5_thrown l V (by omega) hc hx5v) (cwV 0 C.ts gL_law_X5_thrown rfl rfl rfl (by decide +kernel) ⟨(Nat.le_of_ble_eq_true rfl), (Nat.le_of_ble_eq_true rfl)⟩) (by omega) hx5v.1 rfl rfl rfl (Nat.le_of_ble_eq_true rfl) dL_law_954 ⟨by show _ ≤ 601024; omega, by show _ ≤ 7293034; omega⟩) (fun t u3 ht => ?_)
      subst ht
      refine g_iload C 1 rfl dL_law_957 ?_
      refine g_icmp_eq C (tgt := 964) dL_law_959 (by decide) (fun c959 => ?_) (fun c959 => ?_)
      · -- 964
        refine g_iload C 1 rfl dL_law_964 ?_
        refine g_if_ne C (tgt := 981) dL_law_966 (by decide) (fun c966 => ?_) (fun c966 => ?_)
        · -- 981
          exact absurd rfl c966
        · -- 969
          refine g_aload_n C 3 rfl dL_law_969 ?_
          refine g_iconst C (v := nI 0) dL_law_970 (by decide) ?_
          refine g_lald C 92 (by omega) hov 0 rfl (by omega) (by decide) dL_law_971 ?_
          refine g_topl (ho2 : g1 0 = r8.toInt64) ?_
          refine g_iload C 0 rfl dL_law_972 ?_
          refine g_i2l C (v := v.toInt64) dL_law_974 rfl ?_
          refine g_lcmp C dL_law_975 ?_
          refine g_top ((by rw [hval]; exact lg_cmp_same _) : lg_cmp r8.toInt64 v.toInt64 = 0) ?_
          refine g_if_eq C (tgt := 981) dL_law_976 (by decide) (fun c976 => ?_) (fun c976 => ?_)
          · -- 981
            refine g_goto C (tgt := 1039) dL_law_981 (by decide) ?_
            refine g_lv [2, 3, 4, 5, 6] (lv' := [(4, .int (nI (4 * j))), (3, .ref (ad 92)), (2, .ref (ad 85)), (1, .ref (ad 0)), (0, .ref b)]) rfl ?_
            refine g_widen (k := cells + 6) (j := slots + 40) (by omega) (by omega) ?_
            exact K _ ⟨cnt, M, St, We, pl, F, T, hc, hx4v, ⟨_, _, hx5v⟩, hstep, hF, hT, hP, ⟨_, hov⟩⟩
          · -- 979
            exact absurd rfl c976
      · -- 962
        exact absurd rfl c959
    · -- answer 1
      exact absurd hok hno5
  · -- way 1
    have hx4u := h4.keep (fun j _ => hsame j)
    have hx5u := h5.keep (fun j _ _ => hsame j)
    have ho1 := (hsame 92).trans ho
    refine g_istore C (lv' := [(5, .int 1), (4, .int (nI (4 * j))), (3, .ref (ad 92)), (2, .ref (ad 85)), (1, .ref (ad 0)), (0, .ref b)]) dL_law_939 (by decide) rfl ?_
    refine g_aload_n C 3 rfl dL_law_941 ?_
    refine g_aload_n C 5 rfl dL_law_942 ?_
    refine g_iload C 1 rfl dL_law_943 ?_
    refine g_iconst C (v := nI 1) dL_law_945 (by decide) ?_
    refine g_iadd C (v := nI ((4 * j) + 1)) dL_law_946 (nI_add _ _) ?_
    refine g_sld C hX hbl hL ((4 * j) + 1) rfl (by omega) dL_law_947 ?_
    refine g_calli C (r_V C (st := []) (c_X5_like l V (by omega) hc hx5u hF (xs (4 * j + 1))) (cwV 1 C.ts gL_law_X5_like rfl rfl rfl (by decide +kernel) ⟨(Nat.le_of_ble_eq_true rfl), (Nat.le_of_ble_eq_true rfl)⟩) (by omega) hx5u.1 rfl rfl rfl (Nat.le_of_ble_eq_true rfl) dL_law_948 ⟨by show _ ≤ 601024; omega, by show _ ≤ 7293034; omega⟩) (fun v u2 hv => ?_)
    obtain ⟨hd, hfr2⟩ := hv
    have hx4v := hx4u.keep (fun j hj => hfr2 j (by omega))
    have hov := (hfr2 92 (by omega)).trans ho1
    rcases hd with ⟨hok5, hv5, hx5v⟩ | ⟨hno5, hx5v⟩
    · -- answer 0
      exact absurd hok5 hno
    · -- answer 1
      refine g_istore C (lv' := [(6, .int v), (5, .int 1), (4, .int (nI (4 * j))), (3, .ref (ad 92)), (2, .ref (ad 85)), (1, .ref (ad 0)), (0, .ref b)]) dL_law_951 (by decide) rfl ?_
      refine g_aload_n C 4 rfl dL_law_953 ?_
      refine g_calli C (r_V C (st := []) (c_X5_thrown l V (by omega) hc hx5v) (cwV 0 C.ts gL_law_X5_thrown rfl rfl rfl (by decide +kernel) ⟨(Nat.le_of_ble_eq_true rfl), (Nat.le_of_ble_eq_true rfl)⟩) (by omega) hx5v.1 rfl rfl rfl (Nat.le_of_ble_eq_true rfl) dL_law_954 ⟨by show _ ≤ 601024; omega, by show _ ≤ 7293034; omega⟩) (fun t u3 ht => ?_)
      subst ht
      refine g_iload C 1 rfl dL_law_957 ?_
      refine g_icmp_eq C (tgt := 964) dL_law_959 (by decide) (fun c959 => ?_) (fun c959 => ?_)
      · -- 964
        refine g_iload C 1 rfl dL_law_964 ?_
        refine g_if_ne C (tgt := 981) dL_law_966 (by decide) (fun c966 => ?_) (fun c966 => ?_)
        · -- 981
          refine g_goto C (tgt := 1039) dL_law_981 (by decide) ?_
          refine g_lv [2, 3, 4, 5, 6] (lv' := [(4, .int (nI (4 * j))), (3, .ref (ad 92)), (2, .ref (ad 85)), (1, .ref (ad 0)), (0, .ref b)]) rfl ?_
          refine g_widen (k := cells + 6) (j := slots + 40) (by omega) (by omega) ?_
          exact K _ ⟨cnt, M, St, We, pl, F, T, hc, hx4v, ⟨_, _, hx5v⟩, hstep, hF, hT, hP, ⟨_, hov⟩⟩
        · -- 969
          exact absurd c966 (by decide)
      · -- 962
        exact absurd rfl c959
