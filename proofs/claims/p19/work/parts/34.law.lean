/-! ===== the law: its loop, its start ===== -/
set_option maxHeartbeats 8000000 in
set_option maxRecDepth 100000 in
theorem law_loop {p : Program} {l : Launch} {e : Env} {s : State} {m : MethodId} {below : List Frame} {meth : Method} {c : Code} {V : gT} {Q : State → Prop} (C : CX V (AL s) RL cL_law 23 (some .boolean) wsL_law p s m #[Value.ref (g_b V)] meth c) (hend : ∀ (n : Nat) (ad : Nat → Nat) (el : Nat → va_E), (∃ (cnt : Nat) (M St We pl : Nat → Int32) (F T : Nat → Nat → Int32), Inv V n ad el 97 cnt M St We pl F T) → GW p l e room_1 s m #[Value.ref (g_b V)] below meth c V (AL s) 23 Q n ad el (1000 + 40 * 30) (8000 + 300 * 30) 843 [(2, .ref (ad 85)), (1, .ref (ad 0))] []) : ∀ t, t ≤ 30 → ∀ (n : Nat) (ad : Nat → Nat) (el : Nat → va_E), (∃ (cnt : Nat) (M St We pl : Nat → Int32) (F T : Nat → Nat → Int32), Inv V n ad el 97 cnt M St We pl F T) → GW p l e room_1 s m #[Value.ref (g_b V)] below meth c V (AL s) 23 Q n ad el (1000 + 40 * t) (8000 + 300 * t) 22 [(3, .int (nI t)), (2, .ref (ad 85)), (1, .ref (ad 0)), (0, .ref (g_b V))] [] := by
  refine g_down (fun t => ∀ (n : Nat) (ad : Nat → Nat) (el : Nat → va_E), (∃ (cnt : Nat) (M St We pl : Nat → Int32) (F T : Nat → Nat → Int32), Inv V n ad el 97 cnt M St We pl F T) → GW p l e room_1 s m #[Value.ref (g_b V)] below meth c V (AL s) 23 Q n ad el (1000 + 40 * t) (8000 + 300 * t) 22 [(3, .int (nI t)), (2, .ref (ad 85)), (1, .ref (ad 0)), (0, .ref (g_b V))] []) 30 (fun n ad el hI => ?_) (fun t ht ih n ad el hI => ?_)
  · -- the end
    refine g_iload_n C 0 rfl dL_law_22 ?_
    refine g_bipush C (v := nI 30) dL_law_23 (by decide) ?_
    refine g_icmp_ge C (tgt := 843) dL_law_25 (by decide) (fun c25 => ?_) (fun c25 => ?_)
    rotate_left
    · exact absurd c25 (by decide)
    refine g_lv [1, 2] (lv' := [(2, .ref (ad 85)), (1, .ref (ad 0))]) rfl ?_
    exact hend n ad el hI
  · obtain ⟨cnt, M, St, We, pl, F, T, hI⟩ := hI
    exact law_turn C hI t ht ih

set_option maxHeartbeats 8000000 in
set_option maxRecDepth 100000 in
theorem law_end {p : Program} {l : Launch} {e : Env} {s : State} {m : MethodId} {below : List Frame} {meth : Method} {c : Code} {V : gT} {Q : State → Prop} (C : CX V (AL s) RL cL_law 23 (some .boolean) wsL_law p s m #[Value.ref (g_b V)] meth c) (K : ∀ (n : Nat) (ad : Nat → Nat) (el : Nat → va_E), GW p l e room_1 s m #[Value.ref (g_b V)] below meth c V (AL s) 23 Q n ad el 10000 100000 848 [] [.int 1]) : ∀ (n : Nat) (ad : Nat → Nat) (el : Nat → va_E), (∃ (cnt : Nat) (M St We pl : Nat → Int32) (F T : Nat → Nat → Int32), Inv V n ad el 97 cnt M St We pl F T) → GW p l e room_1 s m #[Value.ref (g_b V)] below meth c V (AL s) 23 Q n ad el (1000 + 40 * 30) (8000 + 300 * 30) 843 [(2, .ref (ad 85)), (1, .ref (ad 0))] [] := by
  intro n ad el hI
  obtain ⟨cnt, M, St, We, pl, F, T, hB, hc, hn, h, hs, hP⟩ := hI
  refine g_aload_n C 0 rfl dL_law_843 ?_
  refine g_aload_n C 1 rfl dL_law_844 ?_
  refine g_calli C (r_V C (st := []) (c_X5_isSame l V hB hc (by omega) hs h hP.2.1) (cwV 1 C.ts gL_law_X5_isSame rfl rfl rfl (by decide +kernel) ⟨(Nat.le_of_ble_eq_true rfl), (Nat.le_of_ble_eq_true rfl)⟩) (by omega) hs.1 rfl rfl rfl (Nat.le_of_ble_eq_true rfl) dL_law_845 ⟨(by show _ ≤ 600130; omega), (by show _ ≤ 7301080; omega)⟩) (fun r u hu => ?_)
  subst hu
  refine g_lv [] (lv' := []) rfl ?_
  refine g_widen (k := 10000) (j := 100000) (by omega) (by omega) ?_
  exact K n ad el

set_option maxHeartbeats 8000000 in
set_option maxRecDepth 100000 in
/-- THE LAW, from its entry -/
theorem whole_start {p : Program} {e : Env} {s : State} {m : MethodId} {below : List Frame} {meth : Method} {c : Code} (l : Launch) (hflags : l.flags = flags0) {b L : Nat} {xs : Nat → Int32} (hL : L ≤ 260) (C0 : lw_At p s m meth c b L xs) : W p l e room_1 s m #[Value.ref b] below meth c s.heap [] 0 0 (lw_Z below #[Value.ref b] s) (entryFrame m ([Value.ref b] : List Value).toArray 23) := by
  obtain ⟨hx, hb, hr, hml, hown, hts, hX, hbl, hlocks, hgv⟩ := id C0
  obtain ⟨V, hV, hKX⟩ := KX_start hL hX hbl hts hgv
  have hbV : b = g_b V := (congrArg Prod.fst hV).symm
  subst hbV
  have C : CX V (AL s) RL cL_law 23 (some .boolean) wsL_law p s m #[Value.ref (g_b V)] meth c := ⟨hx, hb, hml, hown, fun w h => hts w (wsL_law_in w h), hlocks, hr, hKX, fun q h => h⟩
  have G : GW p l e room_1 s m #[Value.ref (g_b V)] below meth c V (AL s) 23 (lw_Z below #[Value.ref (g_b V)] s) 0 (fun _ => 0) (fun _ => .inr (0, [])) 0 0 0 [(0, .ref (g_b V))] [] := by
    refine g_new C (fun w h => (List.mem_append_left _ (List.mem_append_left _ (List.mem_append_left _ (List.mem_append_left _ (List.mem_append_left _ (List.mem_append_left _ (List.mem_append_left _ (List.mem_append_left _ (List.mem_append_left _ (List.mem_append_right _ h))))))))))) tyX4 tyX4_ok (List.mem_of_getElem? (i := 0) rfl) (List.mem_of_getElem? (i := 1) rfl) (List.mem_of_getElem? (i := 2) rfl) (ci := 4) rfl (fs := [.null, .null, .null, .null, .int 0]) (by decide) (by show _ ≤ 600130; omega) (by show _ ≤ 7301080; omega) dL_law_0 (fun ad1 el2 ha3 he4 hb5 => ?_)
    refine g_dup C dL_law_3 rfl ?_
    refine g_callv C (r_I C (st := [.ref (ad1 0)]) (c_X4_init l V he4) (cwI 0 C.ts gL_law_X4_init rfl rfl rfl (C.ts _ (List.mem_of_getElem? (i := 2) rfl)) (C.ts _ (List.mem_of_getElem? (i := 8) rfl)) (C.ts _ (List.mem_of_getElem? (i := 9) rfl)) rfl (by decide +kernel) ⟨(Nat.le_of_ble_eq_true rfl), (Nat.le_of_ble_eq_true rfl)⟩) rfl rfl (Nat.le_of_ble_eq_true rfl) dL_law_4 ⟨(by show _ ≤ 600130; omega), (by show _ ≤ 7301080; omega)⟩) (fun u hu => ?_)
    obtain ⟨n1, ad1, el1⟩ := u
    obtain ⟨q0, q1, hx4⟩ := hu
    dsimp only at q0 q1 hx4 ⊢
    subst q0
    refine g_steq (st' := [.ref (ad1 0)]) (by rw [q1 0 (by omega)]) ?_
    refine g_astore_n C (lv' := [(1, .ref (ad1 0)), (0, .ref (g_b V))]) dL_law_7 (by decide) rfl ?_
    refine g_aload_n C 0 rfl dL_law_8 ?_
    refine g_aload_n C 1 rfl dL_law_9 ?_
    refine g_callr C (r_S C (st := []) (c_L_build l V hx4) (va_cwS 2 C.ts gL_law_L_build rfl rfl rfl (by decide +kernel) ⟨(Nat.le_of_ble_eq_true rfl), (Nat.le_of_ble_eq_true rfl)⟩) rfl rfl (Nat.le_of_ble_eq_true rfl) dL_law_10 ⟨(by show _ ≤ 600130; omega), (by show _ ≤ 7301080; omega)⟩) (fun n9 ad9 u hu => ?_)
    obtain ⟨had9, hI9⟩ := hu
    dsimp only at had9 hI9 ⊢
    refine g_lveq (lv' := [(1, .ref (ad9 0)), (0, .ref (g_b V))]) (by rw [had9 0 (by omega)]) ?_
    refine g_astore_n C (lv' := [(2, .ref (ad9 85)), (1, .ref (ad9 0)), (0, .ref (g_b V))]) dL_law_13 (by decide) rfl ?_
    refine g_aload_n C 0 rfl dL_law_14 ?_
    refine g_ifnonnull C (tgt := 20) dL_law_15 (by decide) ?_
    refine g_iconst C (v := nI 0) dL_law_20 (by decide) ?_
    refine g_istore_n C (lv' := [(3, .int (nI 0)), (2, .ref (ad9 85)), (1, .ref (ad9 0)), (0, .ref (g_b V))]) dL_law_21 (by decide) rfl ?_
    refine g_lv [0, 1, 2, 3] (lv' := [(3, .int (nI 0)), (2, .ref (ad9 85)), (1, .ref (ad9 0)), (0, .ref (g_b V))]) rfl ?_
    refine g_widen (k := 1000 + 40 * 0) (j := 8000 + 300 * 0) (by omega) (by omega) ?_
    refine law_loop C (law_end C (fun n ad el => ?_)) 0 (Nat.zero_le _) n9 ad9 u hI9
    refine g_widen (k := 600130) (j := 7301080) (by omega) (by omega) ?_
    intro H locs ls hP hD hS hl
    refine va_forget (fun q hq => hS.2.2 q hq) ?_
    exact lw_ret (d0 := s.drawn) (Drawn.sameBut.refl s.drawn lw_cs) hx hb hr hlocks dL_law_848
  rw [lg_entry_eq]
  exact G s.heap [] _ (fun k q hq => by simp [wld] at hq) (wld_D (fun i j hi => absurd hi (by omega)) (fun k hk => absurd hk (by omega))) va_S.rf (lv_entry [.ref (g_b V)] (Nat.le_of_ble_eq_true rfl))
