/-! ===== the law: its loop, its start ===== -/
theorem and15 (x : Int32) : ∃ w : Nat, w < 16 ∧ x &&& 15 = nI w := by
  have h : x.toBitVec.toNat &&& 15 < 16 := Nat.and_lt_two_pow (n := 4) x.toBitVec.toNat (by decide)
  refine ⟨x.toBitVec.toNat &&& 15, h, ?_⟩
  apply Int32.toBitVec_inj.1
  show x.toBitVec &&& 15#32 = BitVec.ofNat 32 (x.toBitVec.toNat &&& 15)
  apply BitVec.eq_of_toNat_eq
  rw [BitVec.toNat_and]
  show x.toBitVec.toNat &&& 15 = (x.toBitVec.toNat &&& 15) % 2 ^ 32
  rw [Nat.mod_eq_of_lt (Nat.lt_trans h (by decide))]

set_option maxHeartbeats 4000000 in
set_option maxRecDepth 100000 in
theorem law_loop {p : Program} {l : Launch} {e : Env} {s : State} {m : MethodId} {b L : Nat} {xs : Nat → Int32} {below : List Frame} {meth : Method} {c : Code} {V : gT} {Q : State → Prop} {ad : Nat → Nat} (hlt : l.stackTraces = false) (C : CX V (AL s) RL cL_law 9 (some .boolean) wsL_law p s m #[Value.ref b] meth c) (hX : va_X b L xs s s.heap) (hbl : b < s.heap.size) (hL : L ≤ 2048) (hend : ∀ (el : Nat → va_E), GW p l e room_1 s m #[Value.ref b] below meth c V (AL s) 9 Q 93 ad el (100 + 6 * (L / 4)) (3000 + 40 * (L / 4)) 1045 [] []) : ∀ j, j ≤ L / 4 → ∀ el : Nat → va_E, Inv V ad el → GW p l e room_1 s m #[Value.ref b] below meth c V (AL s) 9 Q 93 ad el (100 + 6 * j) (3000 + 40 * j) 23 [(4, .int (nI (4 * j))), (3, .ref (ad 92)), (2, .ref (ad 85)), (1, .ref (ad 0)), (0, .ref b)] [] := by
  refine g_down (fun j => ∀ el : Nat → va_E, Inv V ad el → GW p l e room_1 s m #[Value.ref b] below meth c V (AL s) 9 Q 93 ad el (100 + 6 * j) (3000 + 40 * j) 23 [(4, .int (nI (4 * j))), (3, .ref (ad 92)), (2, .ref (ad 85)), (1, .ref (ad 0)), (0, .ref b)] []) (L / 4) (fun el hJ => ?_) (fun j hj4 ih el hJ => ?_)
  · -- the end
    refine g_iload C 0 rfl dL_law_23 ?_
    refine g_aload_n C 4 rfl dL_law_25 ?_
    refine g_slen C hX hbl dL_law_26 ?_
    refine g_iconst C (v := nI 4) dL_law_27 (by decide) ?_
    refine g_isub C (v := (nI L) - 4) dL_law_28 rfl ?_
    refine g_icmp_gt C (tgt := 1045) dL_law_29 (by decide) (fun c29 => ?_) (fun c29 => ?_)
    · -- 1045
      refine g_lv [] (lv' := []) rfl ?_
      exact hend el
    · -- 32
      exact absurd ((dcmp_lt L (4 * (L / 4)) hL (by omega)).mpr (by omega)) c29
  · -- a turn
    have hj : 4 * j + 4 ≤ L := by omega
    have tail : ∀ el2, Inv V ad el2 → GW p l e room_1 s m #[Value.ref b] below meth c V (AL s) 9 Q 93 ad el2 (100 + 6 * j + 6) (3000 + 40 * j + 40) 1039 [(4, .int (nI (4 * j))), (3, .ref (ad 92)), (2, .ref (ad 85)), (1, .ref (ad 0)), (0, .ref b)] [] := fun el2 h2 => by
      refine g_iinc C 0 rfl (v := nI (4 * j + 4)) (lv' := [(4, .int (nI (4 * j + 4))), (3, .ref (ad 92)), (2, .ref (ad 85)), (1, .ref (ad 0)), (0, .ref b)]) dL_law_1039 (nI_add _ _) (by decide) rfl ?_
      refine g_goto C (tgt := 23) dL_law_1042 (by decide) ?_
      refine g_widen (k := 100 + 6 * (j + 1)) (j := 3000 + 40 * (j + 1)) (by omega) (by omega) ?_
      exact ih el2 h2
    refine g_iload C 0 rfl dL_law_23 ?_
    refine g_aload_n C 4 rfl dL_law_25 ?_
    refine g_slen C hX hbl dL_law_26 ?_
    refine g_iconst C (v := nI 4) dL_law_27 (by decide) ?_
    refine g_isub C (v := (nI L) - 4) dL_law_28 rfl ?_
    refine g_icmp_gt C (tgt := 1045) dL_law_29 (by decide) (fun c29 => ?_) (fun c29 => ?_)
    · -- 1045
      exact absurd ((dcmp_lt L (4 * j) hL (by omega)).mp c29) (by omega)
    · -- 32
      refine g_aload_n C 4 rfl dL_law_32 ?_
      refine g_iload C 0 rfl dL_law_33 ?_
      refine g_sld C hX hbl hL (4 * j) rfl (by omega) dL_law_35 ?_
      refine g_bipush C (v := nI 15) dL_law_36 (by decide) ?_
      refine g_iand C (v := (xs (4 * j)) &&& 15) dL_law_38 rfl ?_
      obtain ⟨w, hw, e15⟩ := and15 (xs (4 * j))
      refine g_top e15 ?_
      rcases (show w = 0 ∨ w = 1 ∨ w = 2 ∨ w = 3 ∨ w = 4 ∨ w = 5 ∨ w = 6 ∨ w = 7 ∨ w = 8 ∨ w = 9 ∨ w = 10 ∨ w = 11 ∨ w = 12 ∨ w = 13 ∨ w = 14 ∨ w = 15 by omega) with rfl | rfl | rfl | rfl | rfl | rfl | rfl | rfl | rfl | rfl | rfl | rfl | rfl | rfl | rfl | rfl
      · refine g_tableIn C (tgt := 116) (off := 77) dL_law_39 (by decide) (by decide) rfl (by decide) ?_
        exact law_case_0 hlt C hX hbl hL j hj (by omega) (by omega) hJ tail
      · refine g_tableIn C (tgt := 184) (off := 145) dL_law_39 (by decide) (by decide) rfl (by decide) ?_
        exact law_case_1 hlt C hX hbl hL j hj (by omega) (by omega) hJ tail
      · refine g_tableIn C (tgt := 197) (off := 158) dL_law_39 (by decide) (by decide) rfl (by decide) ?_
        exact law_case_2 hlt C hX hbl hL j hj (by omega) (by omega) hJ tail
      · refine g_tableIn C (tgt := 265) (off := 226) dL_law_39 (by decide) (by decide) rfl (by decide) ?_
        exact law_case_3 hlt C hX hbl hL j hj (by omega) (by omega) hJ tail
      · refine g_tableIn C (tgt := 333) (off := 294) dL_law_39 (by decide) (by decide) rfl (by decide) ?_
        exact law_case_4 hlt C hX hbl hL j hj (by omega) (by omega) hJ tail
      · refine g_tableIn C (tgt := 408) (off := 369) dL_law_39 (by decide) (by decide) rfl (by decide) ?_
        exact law_case_5 hlt C hX hbl hL j hj (by omega) (by omega) hJ tail
      · refine g_tableIn C (tgt := 452) (off := 413) dL_law_39 (by decide) (by decide) rfl (by decide) ?_
        exact law_case_6 hlt C hX hbl hL j hj (by omega) (by omega) hJ tail
      · refine g_tableIn C (tgt := 532) (off := 493) dL_law_39 (by decide) (by decide) rfl (by decide) ?_
        exact law_case_7 hlt C hX hbl hL j hj (by omega) (by omega) hJ tail
      · refine g_tableIn C (tgt := 612) (off := 573) dL_law_39 (by decide) (by decide) rfl (by decide) ?_
        exact law_case_8 hlt C hX hbl hL j hj (by omega) (by omega) hJ tail
      · refine g_tableIn C (tgt := 680) (off := 641) dL_law_39 (by decide) (by decide) rfl (by decide) ?_
        exact law_case_9 hlt C hX hbl hL j hj (by omega) (by omega) hJ tail
      · refine g_tableIn C (tgt := 748) (off := 709) dL_law_39 (by decide) (by decide) rfl (by decide) ?_
        exact law_case_10 hlt C hX hbl hL j hj (by omega) (by omega) hJ tail
      · refine g_tableIn C (tgt := 804) (off := 765) dL_law_39 (by decide) (by decide) rfl (by decide) ?_
        exact law_case_11 hlt C hX hbl hL j hj (by omega) (by omega) hJ tail
      · refine g_tableIn C (tgt := 872) (off := 833) dL_law_39 (by decide) (by decide) rfl (by decide) ?_
        exact law_case_12 hlt C hX hbl hL j hj (by omega) (by omega) hJ tail
      · refine g_tableIn C (tgt := 928) (off := 889) dL_law_39 (by decide) (by decide) rfl (by decide) ?_
        exact law_case_13 hlt C hX hbl hL j hj (by omega) (by omega) hJ tail
      · refine g_tableIn C (tgt := 984) (off := 945) dL_law_39 (by decide) (by decide) rfl (by decide) ?_
        exact law_case_14 hlt C hX hbl hL j hj (by omega) (by omega) hJ tail
      · refine g_tableIn C (tgt := 1025) (off := 986) dL_law_39 (by decide) (by decide) rfl (by decide) ?_
        exact law_case_15 hlt C hX hbl hL j hj (by omega) (by omega) hJ tail

set_option maxHeartbeats 4000000 in
set_option maxRecDepth 100000 in
/-- THE LAW, from its entry -/
theorem whole_start {p : Program} {e : Env} {s : State} {m : MethodId} {below : List Frame} {meth : Method} {c : Code} (l : Launch) (hflags : l.flags = flags0) {b L : Nat} {xs : Nat → Int32} (hL : L ≤ 2048) (C0 : lw_At p s m meth c b L xs) : W p l e room_1 s m #[Value.ref b] below meth c s.heap [] 0 0 (lw_Z below #[Value.ref b] s) (entryFrame m ([Value.ref b] : List Value).toArray 9) := by
  obtain ⟨hx, hb, hr, hml, hown, hts, hX, hbl, hlocks, hgv⟩ := id C0
  have hlt : l.stackTraces = false := by
    show (!l.flags.contains noTraceFlag) = false
    rw [hflags]
    decide +kernel
  obtain ⟨V, hKX⟩ := KX_start hts hgv
  have C : CX V (AL s) RL cL_law 9 (some .boolean) wsL_law p s m #[Value.ref b] meth c := ⟨hx, hb, hml, hown, fun w h => hts w (wsL_law_in w h), hlocks, hr, hKX, fun q h => h⟩
  have G : GW p l e room_1 s m #[Value.ref b] below meth c V (AL s) 9 (lw_Z below #[Value.ref b] s) 0 (fun _ => 0) (fun _ => .inr (0, [])) 0 0 0 [(0, .ref b)] [] := by
    refine g_new C inlX4 tyX4 tyX4_ok (List.mem_of_getElem? (i := 0) rfl) (List.mem_of_getElem? (i := 1) rfl) (List.mem_of_getElem? (i := 2) rfl) (ci := 4) rfl (fs := [.null, .null, .null, .null, .int 0]) (by decide) (Nat.le_of_ble_eq_true rfl) (Nat.le_of_ble_eq_true rfl) dL_law_0 (fun ad1 el1 a1 e1 b1 => ?_)
    refine g_dup C dL_law_3 rfl ?_
    refine g_callv C (r_I C (st := [.ref (ad1 0)]) (c_X4_init l V e1) (cwI 0 C.ts gL_law_X4_init rfl rfl rfl (C.ts _ (List.mem_of_getElem? (i := 2) rfl)) (C.ts _ (List.mem_of_getElem? (i := 7) rfl)) (C.ts _ (List.mem_of_getElem? (i := 8) rfl)) rfl (by decide +kernel) ⟨(Nat.le_of_ble_eq_true rfl), (Nat.le_of_ble_eq_true rfl)⟩) rfl rfl (Nat.le_of_ble_eq_true rfl) dL_law_4 ⟨(Nat.le_of_ble_eq_true rfl), (Nat.le_of_ble_eq_true rfl)⟩) (fun u hu => ?_)
    obtain ⟨n2, ad2, el2⟩ := u
    obtain ⟨q1, q2, hx4⟩ := hu
    dsimp only at q1 q2 hx4 ⊢
    subst q1
    refine g_steq (st' := [.ref (ad2 0)]) (by rw [q2 0 (by omega)]) ?_
    refine g_astore_n C (lv' := [(1, .ref (ad2 0)), (0, .ref b)]) dL_law_7 (by decide) rfl ?_
    refine g_new C inlX5 tyX5 tyX5_ok (List.mem_of_getElem? (i := 3) rfl) (List.mem_of_getElem? (i := 4) rfl) (List.mem_of_getElem? (i := 5) rfl) (ci := 5) rfl (fs := [.int 0, .int 0, .null, .null, .null, .null, .null, .null]) (by decide) (Nat.le_of_ble_eq_true rfl) (Nat.le_of_ble_eq_true rfl) dL_law_8 (fun ad3 el3 a3 e3 b3 => ?_)
    refine g_lveq (lv' := [(1, .ref (ad3 0)), (0, .ref b)]) (by rw [a3 0 (by omega)]) ?_
    refine g_dup C dL_law_11 rfl ?_
    refine g_callv C (r_I C (st := [.ref (ad3 85)]) (c_X5_init l V e3) (cwI 0 C.ts gL_law_X5_init rfl rfl rfl (C.ts _ (List.mem_of_getElem? (i := 5) rfl)) (C.ts _ (List.mem_of_getElem? (i := 58) rfl)) (C.ts _ (List.mem_of_getElem? (i := 59) rfl)) rfl (by decide +kernel) ⟨(Nat.le_of_ble_eq_true rfl), (Nat.le_of_ble_eq_true rfl)⟩) rfl rfl (Nat.le_of_ble_eq_true rfl) dL_law_12 ⟨(Nat.le_of_ble_eq_true rfl), (Nat.le_of_ble_eq_true rfl)⟩) (fun u hu => ?_)
    obtain ⟨n4, ad4, el4⟩ := u
    obtain ⟨q3, q4, hx5, q5⟩ := hu
    dsimp only at q3 q4 hx5 q5 ⊢
    subst q3
    refine g_lveq (lv' := [(1, .ref (ad4 0)), (0, .ref b)]) (by rw [q4 0 (by omega)]) ?_
    refine g_steq (st' := [.ref (ad4 85)]) (by rw [q4 85 (by omega)]) ?_
    refine g_astore_n C (lv' := [(2, .ref (ad4 85)), (1, .ref (ad4 0)), (0, .ref b)]) dL_law_15 (by decide) rfl ?_
    refine g_iconst C (v := 1) dL_law_16 (by decide) ?_
    refine g_newa C 2 (List.mem_of_getElem? (i := 6) rfl) (ty := .long) rfl rfl (N := 1) (a0 := (1, .inr (.inl (fun _ => 0)))) (fun cA => rfl) (by decide) (by decide) (by decide) (Nat.le_of_ble_eq_true rfl) (Nat.le_of_ble_eq_true rfl) dL_law_17 (fun ad5 el5 a5 e5 b5 => ?_)
    refine g_lveq (lv' := [(2, .ref (ad5 85)), (1, .ref (ad5 0)), (0, .ref b)]) (by rw [a5 85 (by omega), a5 0 (by omega)]) ?_
    refine g_astore_n C (lv' := [(3, .ref (ad5 92)), (2, .ref (ad5 85)), (1, .ref (ad5 0)), (0, .ref b)]) dL_law_19 (by decide) rfl ?_
    refine g_iconst C (v := 0) dL_law_20 (by decide) ?_
    refine g_istore C (lv' := [(4, .int 0), (3, .ref (ad5 92)), (2, .ref (ad5 85)), (1, .ref (ad5 0)), (0, .ref b)]) dL_law_21 (by decide) rfl ?_
    refine g_widen (k := 100 + 6 * 0) (j := 3000 + 40 * 0) (Nat.le_of_ble_eq_true rfl) (Nat.le_of_ble_eq_true rfl) ?_
    have hx4v : X4At V ad5 el5 0 s_M0 (fun _ => 200) (fun _ => 0) (fun _ => 0) (fun _ _ => 0) (fun _ _ => 0) :=
      (((((hx4.keep (fun j hj => b3 j hj)).adr (fun j hj => a3 j hj)).keep (fun j hj => q5 j hj)).adr (fun j hj => q4 j (by omega))).keep (fun j hj => b5 j (by omega))).adr (fun j hj => a5 j (by omega))
    have hx5v : X5At V ad5 el5 0 0 s_M0 (fun _ => 200) (fun _ => 0) (fun _ => 0) (fun _ => 0) (fun _ _ => 0) (fun _ _ => 0) :=
      (hx5.keep (fun j h1 h2 => b5 j (by omega))).adr (fun j h1 h2 => a5 j (by omega))
    refine law_loop hlt C hX hbl hL (fun el => ?_) 0 (Nat.zero_le _) el5 ⟨0, _, _, _, _, _, _, by omega, hx4v, ⟨_, _, hx5v⟩, by decide, fun q hq => absurd hq (by omega), fun q hq k hk => rfl, fun q hq => Or.inl (show (0 : Int32) ≤ 200 by decide), ⟨_, e5⟩⟩
    refine g_iconst C (v := 1) dL_law_1045 (by decide) ?_
    refine g_widen (k := 601024) (j := 7293034) (by omega) (by omega) ?_
    intro H locs ls hP hD hS hl
    refine va_forget (fun q hq => hS.2.2 q hq) ?_
    exact lw_ret (d0 := s.drawn) (Drawn.sameBut.refl s.drawn lw_cs) hx hb hr hlocks dL_law_1046
  rw [lg_entry_eq]
  exact G s.heap [] _ (fun k q hq => by simp [wld] at hq) (wld_D (fun i j hi => absurd hi (by omega)) (fun k hk => absurd hk (by omega))) va_S.rf (lv_entry [.ref b] (Nat.le_of_ble_eq_true rfl))
