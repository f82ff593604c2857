/-! ===== the law's cases, on ===== -/
set_option maxHeartbeats 4000000 in
set_option maxRecDepth 100000 in
theorem law_case_1 {p : Program} {l : Launch} {e : Env} {s : State} {m : MethodId} {b L : Nat} {xs : Nat → Int32} {below : List Frame} {meth : Method} {c : Code} {V : gT} {Q : State → Prop} {ad : Nat → Nat} {el : Nat → va_E} {cells slots : Nat} (hlt : l.stackTraces = false) (C : CX V (AL s) RL cL_law 9 (some .boolean) wsL_law p s m #[Value.ref b] meth c) (hX : va_X b L xs s s.heap) (hbl : b < s.heap.size) (hL : L ≤ 2048) (j : Nat) (hj : 4 * j + 4 ≤ L) (hcc : cells + 6 ≤ 601024) (hss : slots + 40 ≤ 7293034) (hJ : Inv V ad el) (K : ∀ el2, Inv V ad el2 → GW p l e room_1 s m #[Value.ref b] below meth c V (AL s) 9 Q 93 ad el2 (cells + 6) (slots + 40) 1039 [(4, .int (nI (4 * j))), (3, .ref (ad 92)), (2, .ref (ad 85)), (1, .ref (ad 0)), (0, .ref b)] []) : GW p l e room_1 s m #[Value.ref b] below meth c V (AL s) 9 Q 93 ad el cells slots 184 [(4, .int (nI (4 * j))), (3, .ref (ad 92)), (2, .ref (ad 85)), (1, .ref (ad 0)), (0, .ref b)] [] := by
  obtain ⟨cnt, M, St, We, pl, F, T, hc, h4, ⟨thr, sh, h5⟩, hstep, hF, hT, hP, g0, ho⟩ := hJ
  refine g_aload_n C 3 rfl dL_law_184 ?_
  refine g_calli C (r_V C (st := []) (c_X4_align l V (by omega) hc h4) (cwV 0 C.ts gL_law_X4_align rfl rfl rfl (by decide +kernel) ⟨(Nat.le_of_ble_eq_true rfl), (Nat.le_of_ble_eq_true rfl)⟩) (by omega) h4.1 rfl rfl rfl (Nat.le_of_ble_eq_true rfl) dL_law_185 ⟨by show _ ≤ 601024; omega, by show _ ≤ 7293034; omega⟩) (fun r u hu => ?_)
  obtain ⟨hr, hx4u, hfr⟩ := hu
  subst hr
  have hx5u := h5.keep (fun j h1 h2 => hfr j (by omega))
  have ho1 := (hfr 92 (by omega)).trans ho
  refine g_aload_n C 2 rfl dL_law_188 ?_
  refine g_calli C (r_V C (st := [.int (M 2)]) (c_X5_align l V (by omega) hc hx5u) (cwV 0 C.ts gL_law_X5_align rfl rfl rfl (by decide +kernel) ⟨(Nat.le_of_ble_eq_true rfl), (Nat.le_of_ble_eq_true rfl)⟩) (by omega) hx5u.1 rfl rfl rfl (Nat.le_of_ble_eq_true rfl) dL_law_189 ⟨by show _ ≤ 601024; omega, by show _ ≤ 7293034; omega⟩) (fun v u2 hv => ?_)
  obtain ⟨hv5, hx5v, hfr2⟩ := hv
  subst hv5
  have hx4v := hx4u.keep (fun j hj => hfr2 j (by omega))
  have hov := (hfr2 92 (by omega)).trans ho1
  refine g_icmp_eq C (tgt := 1039) dL_law_192 (by decide) (fun c192 => ?_) (fun c192 => ?_)
  · -- 1039
    refine g_lv [0, 1, 2, 3, 4] (lv' := [(4, .int (nI (4 * j))), (3, .ref (ad 92)), (2, .ref (ad 85)), (1, .ref (ad 0)), (0, .ref b)]) rfl ?_
    refine g_widen (k := cells + 6) (j := slots + 40) (by omega) (by omega) ?_
    exact K _ ⟨cnt, _, St, We, pl, F, T, hc, hx4v, ⟨_, _, hx5v⟩, (by rw [pk_un (by decide)]; exact hstep), hF, hT, hP, ⟨_, hov⟩⟩
  · -- 195
    exact absurd rfl c192

set_option maxHeartbeats 4000000 in
set_option maxRecDepth 100000 in
theorem law_case_14 {p : Program} {l : Launch} {e : Env} {s : State} {m : MethodId} {b L : Nat} {xs : Nat → Int32} {below : List Frame} {meth : Method} {c : Code} {V : gT} {Q : State → Prop} {ad : Nat → Nat} {el : Nat → va_E} {cells slots : Nat} (hlt : l.stackTraces = false) (C : CX V (AL s) RL cL_law 9 (some .boolean) wsL_law p s m #[Value.ref b] meth c) (hX : va_X b L xs s s.heap) (hbl : b < s.heap.size) (hL : L ≤ 2048) (j : Nat) (hj : 4 * j + 4 ≤ L) (hcc : cells + 6 ≤ 601024) (hss : slots + 40 ≤ 7293034) (hJ : Inv V ad el) (K : ∀ el2, Inv V ad el2 → GW p l e room_1 s m #[Value.ref b] below meth c V (AL s) 9 Q 93 ad el2 (cells + 6) (slots + 40) 1039 [(4, .int (nI (4 * j))), (3, .ref (ad 92)), (2, .ref (ad 85)), (1, .ref (ad 0)), (0, .ref b)] []) : GW p l e room_1 s m #[Value.ref b] below meth c V (AL s) 9 Q 93 ad el cells slots 984 [(4, .int (nI (4 * j))), (3, .ref (ad 92)), (2, .ref (ad 85)), (1, .ref (ad 0)), (0, .ref b)] [] := by
  obtain ⟨cnt, M, St, We, pl, F, T, hc, h4, ⟨thr, sh, h5⟩, hstep, hF, hT, hP, g0, ho⟩ := hJ
  refine g_aload_n C 3 rfl dL_law_984 ?_
  refine g_calld C (r_V C (st := []) (c_X4_share l V (by omega) hc h4) (cwV 0 C.ts gL_law_X4_share rfl rfl rfl (by decide +kernel) ⟨(Nat.le_of_ble_eq_true rfl), (Nat.le_of_ble_eq_true rfl)⟩) (by omega) h4.1 rfl rfl rfl (Nat.le_of_ble_eq_true rfl) dL_law_985 ⟨by show _ ≤ 601024; omega, by show _ ≤ 7293034; omega⟩) (fun r u hu => ?_)
  subst hu
  have hx4u := h4
  have hx5u := h5
  have ho1 := ho
  refine g_dstore C (lv' := [(5, .double (s_share F T cnt)), (4, .int (nI (4 * j))), (3, .ref (ad 92)), (2, .ref (ad 85)), (1, .ref (ad 0)), (0, .ref b)]) dL_law_988 (by decide) rfl ?_
  refine g_aload_n C 3 rfl dL_law_990 ?_
  refine g_calld C (r_V C (st := []) (c_X5_share l V (by omega) hc hx5u hF) (cwV 0 C.ts gL_law_X5_share rfl rfl rfl (by decide +kernel) ⟨(Nat.le_of_ble_eq_true rfl), (Nat.le_of_ble_eq_true rfl)⟩) (by omega) hx5u.1 rfl rfl rfl (Nat.le_of_ble_eq_true rfl) dL_law_991 ⟨by show _ ≤ 601024; omega, by show _ ≤ 7293034; omega⟩) (fun v u2 hv => ?_)
  obtain ⟨hv5, hx5v, hfr2⟩ := hv
  subst hv5
  have hx4v := hx4u.keep (fun j hj => hfr2 j (by omega))
  have hov := (hfr2 92 (by omega)).trans ho1
  refine g_dstore C (lv' := [(7, .double (s_share F T cnt)), (5, .double (s_share F T cnt)), (4, .int (nI (4 * j))), (3, .ref (ad 92)), (2, .ref (ad 85)), (1, .ref (ad 0)), (0, .ref b)]) dL_law_994 (by decide) rfl ?_
  refine g_dload C 1 rfl dL_law_996 ?_
  refine g_dload C 0 rfl dL_law_998 ?_
  refine g_dcmp C dL_law_1000 ?_
  refine g_if_eq C (tgt := 1022) dL_law_1001 (by decide) (fun c1001 => ?_) (fun c1001 => ?_)
  · -- 1022
    refine g_goto C (tgt := 1039) dL_law_1022 (by decide) ?_
    refine g_lv [2, 3, 4, 5, 6] (lv' := [(4, .int (nI (4 * j))), (3, .ref (ad 92)), (2, .ref (ad 85)), (1, .ref (ad 0)), (0, .ref b)]) rfl ?_
    refine g_widen (k := cells + 6) (j := slots + 40) (by omega) (by omega) ?_
    exact K _ ⟨cnt, M, St, We, pl, F, T, hc, hx4v, ⟨_, _, hx5v⟩, hstep, hF, hT, hP, ⟨_, hov⟩⟩
  · -- 1004
    refine g_dload C 1 rfl dL_law_1004 ?_
    refine g_dload C 1 rfl dL_law_1006 ?_
    refine g_dcmp C dL_law_1008 ?_
    refine g_if_eq C (tgt := 1020) dL_law_1009 (by decide) (fun c1009 => ?_) (fun c1009 => ?_)
    · -- 1020
      exact absurd c1009 c1001
    · -- 1012
      refine g_dload C 0 rfl dL_law_1012 ?_
      refine g_dload C 0 rfl dL_law_1014 ?_
      refine g_dcmp C dL_law_1016 ?_
      refine g_if_ne C (tgt := 1022) dL_law_1017 (by decide) (fun c1017 => ?_) (fun c1017 => ?_)
      · -- 1022
        refine g_goto C (tgt := 1039) dL_law_1022 (by decide) ?_
        refine g_lv [2, 3, 4, 5, 6] (lv' := [(4, .int (nI (4 * j))), (3, .ref (ad 92)), (2, .ref (ad 85)), (1, .ref (ad 0)), (0, .ref b)]) rfl ?_
        refine g_widen (k := cells + 6) (j := slots + 40) (by omega) (by omega) ?_
        exact K _ ⟨cnt, M, St, We, pl, F, T, hc, hx4v, ⟨_, _, hx5v⟩, hstep, hF, hT, hP, ⟨_, hov⟩⟩
      · -- 1020
        exact absurd c1017 c1001

set_option maxHeartbeats 4000000 in
set_option maxRecDepth 100000 in
theorem law_case_15 {p : Program} {l : Launch} {e : Env} {s : State} {m : MethodId} {b L : Nat} {xs : Nat → Int32} {below : List Frame} {meth : Method} {c : Code} {V : gT} {Q : State → Prop} {ad : Nat → Nat} {el : Nat → va_E} {cells slots : Nat} (hlt : l.stackTraces = false) (C : CX V (AL s) RL cL_law 9 (some .boolean) wsL_law p s m #[Value.ref b] meth c) (hX : va_X b L xs s s.heap) (hbl : b < s.heap.size) (hL : L ≤ 2048) (j : Nat) (hj : 4 * j + 4 ≤ L) (hcc : cells + 6 ≤ 601024) (hss : slots + 40 ≤ 7293034) (hJ : Inv V ad el) (K : ∀ el2, Inv V ad el2 → GW p l e room_1 s m #[Value.ref b] below meth c V (AL s) 9 Q 93 ad el2 (cells + 6) (slots + 40) 1039 [(4, .int (nI (4 * j))), (3, .ref (ad 92)), (2, .ref (ad 85)), (1, .ref (ad 0)), (0, .ref b)] []) : GW p l e room_1 s m #[Value.ref b] below meth c V (AL s) 9 Q 93 ad el cells slots 1025 [(4, .int (nI (4 * j))), (3, .ref (ad 92)), (2, .ref (ad 85)), (1, .ref (ad 0)), (0, .ref b)] [] := by
  obtain ⟨cnt, M, St, We, pl, F, T, hc, h4, ⟨thr, sh, h5⟩, hstep, hF, hT, hP, g0, ho⟩ := hJ
  refine g_aload_n C 3 rfl dL_law_1025 ?_
  refine g_calll C (r_V C (st := []) (c_X4_digest l V (by omega) hc h4) (cwV 0 C.ts gL_law_X4_digest rfl rfl rfl (by decide +kernel) ⟨(Nat.le_of_ble_eq_true rfl), (Nat.le_of_ble_eq_true rfl)⟩) (by omega) h4.1 rfl rfl rfl (Nat.le_of_ble_eq_true rfl) dL_law_1026 ⟨by show _ ≤ 601024; omega, by show _ ≤ 7293034; omega⟩) (fun r u hu => ?_)
  subst hu
  have hx4u := h4
  have hx5u := h5
  have ho1 := ho
  refine g_aload_n C 2 rfl dL_law_1029 ?_
  refine g_calll C (r_V C (st := [.long (s_digest cnt M St We pl F T)]) (c_X5_digest l V (by omega) hc hx5u hF hP) (cwV 0 C.ts gL_law_X5_digest rfl rfl rfl (by decide +kernel) ⟨(Nat.le_of_ble_eq_true rfl), (Nat.le_of_ble_eq_true rfl)⟩) (by omega) hx5u.1 rfl rfl rfl (Nat.le_of_ble_eq_true rfl) dL_law_1030 ⟨by show _ ≤ 601024; omega, by show _ ≤ 7293034; omega⟩) (fun v u2 hv => ?_)
  obtain ⟨hv5, hx5v, hfr2⟩ := hv
  subst hv5
  have hx4v := hx4u.keep (fun j hj => hfr2 j (by omega))
  have hov := (hfr2 92 (by omega)).trans ho1
  refine g_lcmp C dL_law_1033 ?_
  refine g_top (lg_cmp_same _ : lg_cmp (s_digest cnt M St We pl F T) (s_digest cnt M St We pl F T) = 0) ?_
  refine g_if_eq C (tgt := 1039) dL_law_1034 (by decide) (fun c1034 => ?_) (fun c1034 => ?_)
  · -- 1039
    refine g_lv [0, 1, 2, 3, 4] (lv' := [(4, .int (nI (4 * j))), (3, .ref (ad 92)), (2, .ref (ad 85)), (1, .ref (ad 0)), (0, .ref b)]) rfl ?_
    refine g_widen (k := cells + 6) (j := slots + 40) (by omega) (by omega) ?_
    exact K _ ⟨cnt, M, St, We, pl, F, T, hc, hx4v, ⟨_, _, hx5v⟩, hstep, hF, hT, hP, ⟨_, hov⟩⟩
  · -- 1037
    exact absurd rfl c1034
