/-! ===== the law's cases, on ===== -/
set_option maxHeartbeats 4000000 in
set_option maxRecDepth 100000 in
theorem law_case_3 {p : Program} {l : Launch} {e : Env} {s : State} {m : MethodId} {b L : Nat} {xs : Nat → Int32} {below : List Frame} {meth : Method} {c : Code} {V : gT} {Q : State → Prop} {ad : Nat → Nat} {el : Nat → va_E} {cells slots : Nat} (hlt : l.stackTraces = false) (C : CX V (AL s) RL cL_law 9 (some .boolean) wsL_law p s m #[Value.ref b] meth c) (hX : va_X b L xs s s.heap) (hbl : b < s.heap.size) (hL : L ≤ 2048) (j : Nat) (hj : 4 * j + 4 ≤ L) (hcc : cells + 6 ≤ 601024) (hss : slots + 40 ≤ 7293034) (hJ : Inv V ad el) (K : ∀ el2, Inv V ad el2 → GW p l e room_1 s m #[Value.ref b] below meth c V (AL s) 9 Q 93 ad el2 (cells + 6) (slots + 40) 1039 [(4, .int (nI (4 * j))), (3, .ref (ad 92)), (2, .ref (ad 85)), (1, .ref (ad 0)), (0, .ref b)] []) : GW p l e room_1 s m #[Value.ref b] below meth c V (AL s) 9 Q 93 ad el cells slots 265 [(4, .int (nI (4 * j))), (3, .ref (ad 92)), (2, .ref (ad 85)), (1, .ref (ad 0)), (0, .ref b)] [] := by
  obtain ⟨cnt, M, St, We, pl, F, T, hc, h4, ⟨thr, sh, h5⟩, hstep, hF, hT, hP, g0, ho⟩ := hJ
  refine g_aload_n C 3 rfl dL_law_265 ?_
  refine g_aload_n C 4 rfl dL_law_266 ?_
  refine g_iload C 0 rfl dL_law_267 ?_
  refine g_iconst C (v := nI 1) dL_law_269 (by decide) ?_
  refine g_iadd C (v := nI ((4 * j) + 1)) dL_law_270 (nI_add _ _) ?_
  refine g_sld C hX hbl hL ((4 * j) + 1) rfl (by omega) dL_law_271 ?_
  refine g_aload_n C 4 rfl dL_law_272 ?_
  refine g_iload C 0 rfl dL_law_273 ?_
  refine g_iconst C (v := nI 2) dL_law_275 (by decide) ?_
  refine g_iadd C (v := nI ((4 * j) + 2)) dL_law_276 (nI_add _ _) ?_
  refine g_sld C hX hbl hL ((4 * j) + 2) rfl (by omega) dL_law_277 ?_
  refine g_aload_n C 1 rfl dL_law_278 ?_
  refine g_xcalli C (r_xSH C (st := []) (c_L_fit l V hlt (by omega) hc h4 g0 ho (xs (4 * j + 1)) (xs (4 * j + 2))) (vx_cwSW 4 C.ts gL_law_L_fit rfl rfl rfl (by decide +kernel) ⟨(Nat.le_of_ble_eq_true rfl), (Nat.le_of_ble_eq_true rfl)⟩) rfl rfl (Nat.le_of_ble_eq_true rfl) dL_law_279 ⟨by show _ ≤ 601024; omega, by show _ ≤ 7293034; omega⟩) (fun E hE => hE.elim) (fun k u hu => ?_)
  rcases hu with ⟨rfl, r8, u8, hp, ho8, hO⟩ | ⟨rfl, hno, hsame⟩ | ⟨rfl, hno, hsame⟩
  · -- way 0
    obtain ⟨i, hi, hxi, hy, hr, hx4, hfr⟩ := hp
    have hx4u := hx4.keep (fun j hj => ho8 j (by omega))
    have hx5u := h5.keep (fun j h1 h2 => (ho8 j (by omega)).trans (hfr j (by omega)))
    obtain ⟨g1, ho1, ho2⟩ := hO
    refine g_istore C (lv' := [(5, .int 0), (4, .int (nI (4 * j))), (3, .ref (ad 92)), (2, .ref (ad 85)), (1, .ref (ad 0)), (0, .ref b)]) dL_law_282 (by decide) rfl ?_
    refine g_aload_n C 3 rfl dL_law_284 ?_
    refine g_aload_n C 5 rfl dL_law_285 ?_
    refine g_iload C 1 rfl dL_law_286 ?_
    refine g_iconst C (v := nI 1) dL_law_288 (by decide) ?_
    refine g_iadd C (v := nI ((4 * j) + 1)) dL_law_289 (nI_add _ _) ?_
    refine g_sld C hX hbl hL ((4 * j) + 1) rfl (by omega) dL_law_290 ?_
    refine g_aload_n C 5 rfl dL_law_291 ?_
    refine g_iload C 1 rfl dL_law_292 ?_
    refine g_iconst C (v := nI 2) dL_law_294 (by decide) ?_
    refine g_iadd C (v := nI ((4 * j) + 2)) dL_law_295 (nI_add _ _) ?_
    refine g_sld C hX hbl hL ((4 * j) + 2) rfl (by omega) dL_law_296 ?_
    refine g_calli C (r_V C (st := []) (c_X5_fit l V (by omega) hc hx5u  (xs (4 * j + 1)) (xs (4 * j + 2))) (cwV 2 C.ts gL_law_X5_fit rfl rfl rfl (by decide +kernel) ⟨(Nat.le_of_ble_eq_true rfl), (Nat.le_of_ble_eq_true rfl)⟩) (by omega) hx5u.1 rfl rfl rfl (Nat.le_of_ble_eq_true rfl) dL_law_297 ⟨by show _ ≤ 601024; omega, by show _ ≤ 7293034; omega⟩) (fun v u2 hv => ?_)
    obtain ⟨hd, hfr2⟩ := hv
    have hx4v := hx4u.keep (fun j hj => hfr2 j (by omega))
    have hov := (hfr2 92 (by omega)).trans ho1
    rcases hd with ⟨i5, hi5, hxi5, hy5, hv5, hx5v⟩ | ⟨hno1, hx5v⟩ | ⟨hno2, hx5v⟩
    · -- answer 0
      have e_i := nI_inj (by omega) (by omega) hxi hxi5
      subst e_i
      have hval : r8 = v := hr.trans hv5.symm
      refine g_istore C (lv' := [(6, .int v), (5, .int 0), (4, .int (nI (4 * j))), (3, .ref (ad 92)), (2, .ref (ad 85)), (1, .ref (ad 0)), (0, .ref b)]) dL_law_300 (by decide) rfl ?_
      refine g_aload_n C 4 rfl dL_law_302 ?_
      refine g_calli C (r_V C (st := []) (c_X5_thrown l V (by omega) hc hx5v) (cwV 0 C.ts gL_law_X5_thrown rfl rfl rfl (by decide +kernel) ⟨(Nat.le_of_ble_eq_true rfl), (Nat.le_of_ble_eq_true rfl)⟩) (by omega) hx5v.1 rfl rfl rfl (Nat.le_of_ble_eq_true rfl) dL_law_303 ⟨by show _ ≤ 601024; omega, by show _ ≤ 7293034; omega⟩) (fun t u3 ht => ?_)
      subst ht
      refine g_iload C 1 rfl dL_law_306 ?_
      refine g_icmp_eq C (tgt := 313) dL_law_308 (by decide) (fun c308 => ?_) (fun c308 => ?_)
      · -- 313
        refine g_iload C 1 rfl dL_law_313 ?_
        refine g_if_ne C (tgt := 330) dL_law_315 (by decide) (fun c315 => ?_) (fun c315 => ?_)
        · -- 330
          exact absurd rfl c315
        · -- 318
          refine g_aload_n C 3 rfl dL_law_318 ?_
          refine g_iconst C (v := nI 0) dL_law_319 (by decide) ?_
          refine g_lald C 92 (by omega) hov 0 rfl (by omega) (by decide) dL_law_320 ?_
          refine g_topl (ho2 : g1 0 = r8.toInt64) ?_
          refine g_iload C 0 rfl dL_law_321 ?_
          refine g_i2l C (v := v.toInt64) dL_law_323 rfl ?_
          refine g_lcmp C dL_law_324 ?_
          refine g_top ((by rw [hval]; exact lg_cmp_same _) : lg_cmp r8.toInt64 v.toInt64 = 0) ?_
          refine g_if_eq C (tgt := 330) dL_law_325 (by decide) (fun c325 => ?_) (fun c325 => ?_)
          · -- 330
            refine g_goto C (tgt := 1039) dL_law_330 (by decide) ?_
            refine g_lv [2, 3, 4, 5, 6] (lv' := [(4, .int (nI (4 * j))), (3, .ref (ad 92)), (2, .ref (ad 85)), (1, .ref (ad 0)), (0, .ref b)]) rfl ?_
            refine g_widen (k := cells + 6) (j := slots + 40) (by omega) (by omega) ?_
            exact K _ ⟨cnt, M, _, _, pl, F, T, hc, hx4v, ⟨_, _, hx5v⟩, hstep, hF, hT, (pins_fit hP _ hy.1), ⟨_, hov⟩⟩
          · -- 328
            exact absurd rfl c325
      · -- 311
        exact absurd rfl c308
    · -- answer 1
      exact absurd (in_of (N := 6) (by decide) hxi (by omega)) hno1
    · -- answer 2
      exact absurd hy hno2.2
  · -- way 1
    have hx4u := h4.keep (fun j _ => hsame j)
    have hx5u := h5.keep (fun j _ _ => hsame j)
    have ho1 := (hsame 92).trans ho
    refine g_istore C (lv' := [(5, .int 1), (4, .int (nI (4 * j))), (3, .ref (ad 92)), (2, .ref (ad 85)), (1, .ref (ad 0)), (0, .ref b)]) dL_law_282 (by decide) rfl ?_
    refine g_aload_n C 3 rfl dL_law_284 ?_
    refine g_aload_n C 5 rfl dL_law_285 ?_
    refine g_iload C 1 rfl dL_law_286 ?_
    refine g_iconst C (v := nI 1) dL_law_288 (by decide) ?_
    refine g_iadd C (v := nI ((4 * j) + 1)) dL_law_289 (nI_add _ _) ?_
    refine g_sld C hX hbl hL ((4 * j) + 1) rfl (by omega) dL_law_290 ?_
    refine g_aload_n C 5 rfl dL_law_291 ?_
    refine g_iload C 1 rfl dL_law_292 ?_
    refine g_iconst C (v := nI 2) dL_law_294 (by decide) ?_
    refine g_iadd C (v := nI ((4 * j) + 2)) dL_law_295 (nI_add _ _) ?_
    refine g_sld C hX hbl hL ((4 * j) + 2) rfl (by omega) dL_law_296 ?_
    refine g_calli C (r_V C (st := []) (c_X5_fit l V (by omega) hc hx5u  (xs (4 * j + 1)) (xs (4 * j + 2))) (cwV 2 C.ts gL_law_X5_fit rfl rfl rfl (by decide +kernel) ⟨(Nat.le_of_ble_eq_true rfl), (Nat.le_of_ble_eq_true rfl)⟩) (by omega) hx5u.1 rfl rfl rfl (Nat.le_of_ble_eq_true rfl) dL_law_297 ⟨by show _ ≤ 601024; omega, by show _ ≤ 7293034; omega⟩) (fun v u2 hv => ?_)
    obtain ⟨hd, hfr2⟩ := hv
    have hx4v := hx4u.keep (fun j hj => hfr2 j (by omega))
    have hov := (hfr2 92 (by omega)).trans ho1
    rcases hd with ⟨i5, hi5, hxi5, hy5, hv5, hx5v⟩ | ⟨hno1, hx5v⟩ | ⟨hno2, hx5v⟩
    · -- answer 0
      exact absurd (in_of (N := 6) (by decide) hxi5 (by omega)) hno
    · -- answer 1
      refine g_istore C (lv' := [(6, .int v), (5, .int 1), (4, .int (nI (4 * j))), (3, .ref (ad 92)), (2, .ref (ad 85)), (1, .ref (ad 0)), (0, .ref b)]) dL_law_300 (by decide) rfl ?_
      refine g_aload_n C 4 rfl dL_law_302 ?_
      refine g_calli C (r_V C (st := []) (c_X5_thrown l V (by omega) hc hx5v) (cwV 0 C.ts gL_law_X5_thrown rfl rfl rfl (by decide +kernel) ⟨(Nat.le_of_ble_eq_true rfl), (Nat.le_of_ble_eq_true rfl)⟩) (by omega) hx5v.1 rfl rfl rfl (Nat.le_of_ble_eq_true rfl) dL_law_303 ⟨by show _ ≤ 601024; omega, by show _ ≤ 7293034; omega⟩) (fun t u3 ht => ?_)
      subst ht
      refine g_iload C 1 rfl dL_law_306 ?_
      refine g_icmp_eq C (tgt := 313) dL_law_308 (by decide) (fun c308 => ?_) (fun c308 => ?_)
      · -- 313
        refine g_iload C 1 rfl dL_law_313 ?_
        refine g_if_ne C (tgt := 330) dL_law_315 (by decide) (fun c315 => ?_) (fun c315 => ?_)
        · -- 330
          refine g_goto C (tgt := 1039) dL_law_330 (by decide) ?_
          refine g_lv [2, 3, 4, 5, 6] (lv' := [(4, .int (nI (4 * j))), (3, .ref (ad 92)), (2, .ref (ad 85)), (1, .ref (ad 0)), (0, .ref b)]) rfl ?_
          refine g_widen (k := cells + 6) (j := slots + 40) (by omega) (by omega) ?_
          exact K _ ⟨cnt, M, St, We, pl, F, T, hc, hx4v, ⟨_, _, hx5v⟩, hstep, hF, hT, hP, ⟨_, hov⟩⟩
        · -- 318
          exact absurd c315 (by decide)
      · -- 311
        exact absurd rfl c308
    · -- answer 2
      exact absurd hno2.1 hno
  · -- way 2
    have hx4u := h4.keep (fun j _ => hsame j)
    have hx5u := h5.keep (fun j _ _ => hsame j)
    have ho1 := (hsame 92).trans ho
    refine g_istore C (lv' := [(5, .int 2), (4, .int (nI (4 * j))), (3, .ref (ad 92)), (2, .ref (ad 85)), (1, .ref (ad 0)), (0, .ref b)]) dL_law_282 (by decide) rfl ?_
    refine g_aload_n C 3 rfl dL_law_284 ?_
    refine g_aload_n C 5 rfl dL_law_285 ?_
    refine g_iload C 1 rfl dL_law_286 ?_
    refine g_iconst C (v := nI 1) dL_law_288 (by decide) ?_
    refine g_iadd C (v := nI ((4 * j) + 1)) dL_law_289 (nI_add _ _) ?_
    refine g_sld C hX hbl hL ((4 * j) + 1) rfl (by omega) dL_law_290 ?_
    refine g_aload_n C 5 rfl dL_law_291 ?_
    refine g_iload C 1 rfl dL_law_292 ?_
    refine g_iconst C (v := nI 2) dL_law_294 (by decide) ?_
    refine g_iadd C (v := nI ((4 * j) + 2)) dL_law_295 (nI_add _ _) ?_
    refine g_sld C hX hbl hL ((4 * j) + 2) rfl (by omega) dL_law_296 ?_
    refine g_calli C (r_V C (st := []) (c_X5_fit l V (by omega) hc hx5u  (xs (4 * j + 1)) (xs (4 * j + 2))) (cwV 2 C.ts gL_law_X5_fit rfl rfl rfl (by decide +kernel) ⟨(Nat.le_of_ble_eq_true rfl), (Nat.le_of_ble_eq_true rfl)⟩) (by omega) hx5u.1 rfl rfl rfl (Nat.le_of_ble_eq_true rfl) dL_law_297 ⟨by show _ ≤ 601024; omega, by show _ ≤ 7293034; omega⟩) (fun v u2 hv => ?_)
    obtain ⟨hd, hfr2⟩ := hv
    have hx4v := hx4u.keep (fun j hj => hfr2 j (by omega))
    have hov := (hfr2 92 (by omega)).trans ho1
    rcases hd with ⟨i5, hi5, hxi5, hy5, hv5, hx5v⟩ | ⟨hno1, hx5v⟩ | ⟨hno2, hx5v⟩
    · -- answer 0
      exact absurd hy5 hno.2
    · -- answer 1
      exact absurd hno.1 hno1
    · -- answer 2
      refine g_istore C (lv' := [(6, .int v), (5, .int 2), (4, .int (nI (4 * j))), (3, .ref (ad 92)), (2, .ref (ad 85)), (1, .ref (ad 0)), (0, .ref b)]) dL_law_300 (by decide) rfl ?_
      refine g_aload_n C 4 rfl dL_law_302 ?_
      refine g_calli C (r_V C (st := []) (c_X5_thrown l V (by omega) hc hx5v) (cwV 0 C.ts gL_law_X5_thrown rfl rfl rfl (by decide +kernel) ⟨(Nat.le_of_ble_eq_true rfl), (Nat.le_of_ble_eq_true rfl)⟩) (by omega) hx5v.1 rfl rfl rfl (Nat.le_of_ble_eq_true rfl) dL_law_303 ⟨by show _ ≤ 601024; omega, by show _ ≤ 7293034; omega⟩) (fun t u3 ht => ?_)
      subst ht
      refine g_iload C 1 rfl dL_law_306 ?_
      refine g_icmp_eq C (tgt := 313) dL_law_308 (by decide) (fun c308 => ?_) (fun c308 => ?_)
      · -- 313
        refine g_iload C 1 rfl dL_law_313 ?_
        refine g_if_ne C (tgt := 330) dL_law_315 (by decide) (fun c315 => ?_) (fun c315 => ?_)
        · -- 330
          refine g_goto C (tgt := 1039) dL_law_330 (by decide) ?_
          refine g_lv [2, 3, 4, 5, 6] (lv' := [(4, .int (nI (4 * j))), (3, .ref (ad 92)), (2, .ref (ad 85)), (1, .ref (ad 0)), (0, .ref b)]) rfl ?_
          refine g_widen (k := cells + 6) (j := slots + 40) (by omega) (by omega) ?_
          exact K _ ⟨cnt, M, St, We, pl, F, T, hc, hx4v, ⟨_, _, hx5v⟩, hstep, hF, hT, hP, ⟨_, hov⟩⟩
        · -- 318
          exact absurd c315 (by decide)
      · -- 311
        exact absurd rfl c308

set_option maxHeartbeats 4000000 in
set_option maxRecDepth 100000 in
theorem law_case_4 {p : Program} {l : Launch} {e : Env} {s : State} {m : MethodId} {b L : Nat} {xs : Nat → Int32} {below : List Frame} {meth : Method} {c : Code} {V : gT} {Q : State → Prop} {ad : Nat → Nat} {el : Nat → va_E} {cells slots : Nat} (hlt : l.stackTraces = false) (C : CX V (AL s) RL cL_law 9 (some .boolean) wsL_law p s m #[Value.ref b] meth c) (hX : va_X b L xs s s.heap) (hbl : b < s.heap.size) (hL : L ≤ 2048) (j : Nat) (hj : 4 * j + 4 ≤ L) (hcc : cells + 6 ≤ 601024) (hss : slots + 40 ≤ 7293034) (hJ : Inv V ad el) (K : ∀ el2, Inv V ad el2 → GW p l e room_1 s m #[Value.ref b] below meth c V (AL s) 9 Q 93 ad el2 (cells + 6) (slots + 40) 1039 [(4, .int (nI (4 * j))), (3, .ref (ad 92)), (2, .ref (ad 85)), (1, .ref (ad 0)), (0, .ref b)] []) : GW p l e room_1 s m #[Value.ref b] below meth c V (AL s) 9 Q 93 ad el cells slots 333 [(4, .int (nI (4 * j))), (3, .ref (ad 92)), (2, .ref (ad 85)), (1, .ref (ad 0)), (0, .ref b)] [] := by
  obtain ⟨cnt, M, St, We, pl, F, T, hc, h4, ⟨thr, sh, h5⟩, hstep, hF, hT, hP, g0, ho⟩ := hJ
  refine g_aload_n C 3 rfl dL_law_333 ?_
  refine g_aload_n C 4 rfl dL_law_334 ?_
  refine g_iload C 0 rfl dL_law_335 ?_
  refine g_iconst C (v := nI 1) dL_law_337 (by decide) ?_
  refine g_iadd C (v := nI ((4 * j) + 1)) dL_law_338 (nI_add _ _) ?_
  refine g_sld C hX hbl hL ((4 * j) + 1) rfl (by omega) dL_law_339 ?_
  refine g_aload_n C 4 rfl dL_law_340 ?_
  refine g_iload C 0 rfl dL_law_341 ?_
  refine g_iconst C (v := nI 2) dL_law_343 (by decide) ?_
  refine g_iadd C (v := nI ((4 * j) + 2)) dL_law_344 (nI_add _ _) ?_
  refine g_sld C hX hbl hL ((4 * j) + 2) rfl (by omega) dL_law_345 ?_
  refine g_aload_n C 1 rfl dL_law_346 ?_
  refine g_xcalli C (r_xSH C (st := []) (c_L_turn l V hlt (by omega) hc h4 g0 ho (xs (4 * j + 1)) (xs (4 * j + 2))) (vx_cwSW 4 C.ts gL_law_L_turn rfl rfl rfl (by decide +kernel) ⟨(Nat.le_of_ble_eq_true rfl), (Nat.le_of_ble_eq_true rfl)⟩) rfl rfl (Nat.le_of_ble_eq_true rfl) dL_law_347 ⟨by show _ ≤ 601024; omega, by show _ ≤ 7293034; omega⟩) (fun E hE => hE.elim) (fun k u hu => ?_)
  rcases hu with ⟨rfl, r8, u8, hp, ho8, hO⟩ | ⟨rfl, hno, hsame⟩
  · -- way 0
    obtain ⟨r, cl, hr0, hcl, hxr, hyc, hr, hx4, hfr⟩ := hp
    have hx4u := hx4.keep (fun j hj => ho8 j (by omega))
    have hx5u := h5.keep (fun j h1 h2 => (ho8 j (by omega)).trans (hfr j (by omega)))
    obtain ⟨g1, ho1, ho2⟩ := hO
    refine g_istore C (lv' := [(5, .int 0), (4, .int (nI (4 * j))), (3, .ref (ad 92)), (2, .ref (ad 85)), (1, .ref (ad 0)), (0, .ref b)]) dL_law_350 (by decide) rfl ?_
    refine g_aload_n C 3 rfl dL_law_352 ?_
    refine g_aload_n C 5 rfl dL_law_353 ?_
    refine g_iload C 1 rfl dL_law_354 ?_
    refine g_iconst C (v := nI 1) dL_law_356 (by decide) ?_
    refine g_iadd C (v := nI ((4 * j) + 1)) dL_law_357 (nI_add _ _) ?_
    refine g_sld C hX hbl hL ((4 * j) + 1) rfl (by omega) dL_law_358 ?_
    refine g_aload_n C 5 rfl dL_law_359 ?_
    refine g_iload C 1 rfl dL_law_360 ?_
    refine g_iconst C (v := nI 2) dL_law_362 (by decide) ?_
    refine g_iadd C (v := nI ((4 * j) + 2)) dL_law_363 (nI_add _ _) ?_
    refine g_sld C hX hbl hL ((4 * j) + 2) rfl (by omega) dL_law_364 ?_
    refine g_calli C (r_V C (st := []) (c_X5_turn l V (by omega) hc hx5u  (xs (4 * j + 1)) (xs (4 * j + 2))) (cwV 2 C.ts gL_law_X5_turn rfl rfl rfl (by decide +kernel) ⟨(Nat.le_of_ble_eq_true rfl), (Nat.le_of_ble_eq_true rfl)⟩) (by omega) hx5u.1 rfl rfl rfl (Nat.le_of_ble_eq_true rfl) dL_law_365 ⟨by show _ ≤ 601024; omega, by show _ ≤ 7293034; omega⟩) (fun v u2 hv => ?_)
    obtain ⟨hd, hfr2⟩ := hv
    have hx4v := hx4u.keep (fun j hj => hfr2 j (by omega))
    have hov := (hfr2 92 (by omega)).trans ho1
    rcases hd with ⟨r5, cl5, hr5, hcl5, hxr5, hyc5, hv5, hx5v⟩ | ⟨hno5, hx5v⟩
    · -- answer 0
      have e_r := nI_inj (by omega) (by omega) hxr hxr5
      subst e_r
      have e_c := nI_inj (by omega) (by omega) hyc hyc5
      subst e_c
      have hval : r8 = v := hr.trans hv5.symm
      refine g_istore C (lv' := [(6, .int v), (5, .int 0), (4, .int (nI (4 * j))), (3, .ref (ad 92)), (2, .ref (ad 85)), (1, .ref (ad 0)), (0, .ref b)]) dL_law_368 (by decide) rfl ?_
      refine g_aload_n C 4 rfl dL_law_370 ?_
      refine g_calli C (r_V C (st := []) (c_X5_thrown l V (by omega) hc hx5v) (cwV 0 C.ts gL_law_X5_thrown rfl rfl rfl (by decide +kernel) ⟨(Nat.le_of_ble_eq_true rfl), (Nat.le_of_ble_eq_true rfl)⟩) (by omega) hx5v.1 rfl rfl rfl (Nat.le_of_ble_eq_true rfl) dL_law_371 ⟨by show _ ≤ 601024; omega, by show _ ≤ 7293034; omega⟩) (fun t u3 ht => ?_)
      subst ht
      refine g_iload C 1 rfl dL_law_374 ?_
      refine g_icmp_eq C (tgt := 381) dL_law_376 (by decide) (fun c376 => ?_) (fun c376 => ?_)
      · -- 381
        refine g_iload C 1 rfl dL_law_381 ?_
        refine g_if_ne C (tgt := 405) dL_law_383 (by decide) (fun c383 => ?_) (fun c383 => ?_)
        · -- 405
          exact absurd rfl c383
        · -- 386
          refine g_aload_n C 3 rfl dL_law_386 ?_
          refine g_iconst C (v := nI 0) dL_law_387 (by decide) ?_
          refine g_lald C 92 (by omega) hov 0 rfl (by omega) (by decide) dL_law_388 ?_
          refine g_topl (ho2 : g1 0 = (if r8 = 0 then 0 else 1)) ?_
          refine g_iload C 0 rfl dL_law_389 ?_
          refine g_if_eq C (tgt := 398) dL_law_391 (by decide) (fun c391 => ?_) (fun c391 => ?_)
          · -- 398
            refine g_lconst C (v := 0) dL_law_398 (by decide) ?_
            refine g_lcmp C dL_law_399 ?_
            refine g_top ((by rw [hval, if_pos c391]; exact lg_cmp_same _) : lg_cmp ((if r8 = 0 then 0 else 1)) 0 = 0) ?_
            refine g_if_eq C (tgt := 405) dL_law_400 (by decide) (fun c400 => ?_) (fun c400 => ?_)
            · -- 405
              refine g_goto C (tgt := 1039) dL_law_405 (by decide) ?_
              refine g_lv [2, 3, 4, 5, 6] (lv' := [(4, .int (nI (4 * j))), (3, .ref (ad 92)), (2, .ref (ad 85)), (1, .ref (ad 0)), (0, .ref b)]) rfl ?_
              refine g_widen (k := cells + 6) (j := slots + 40) (by omega) (by omega) ?_
              exact K _ ⟨cnt, M, St, We, _, F, T, hc, hx4v, ⟨_, _, hx5v⟩, hstep, hF, hT, hP, ⟨_, hov⟩⟩
            · -- 403
              exact absurd rfl c400
          · -- 394
            refine g_lconst C (v := 1) dL_law_394 (by decide) ?_
            refine g_goto C (tgt := 399) dL_law_395 (by decide) ?_
            refine g_lcmp C dL_law_399 ?_
            refine g_top ((by rw [hval, if_neg c391]; exact lg_cmp_same _) : lg_cmp ((if r8 = 0 then 0 else 1)) 1 = 0) ?_
            refine g_if_eq C (tgt := 405) dL_law_400 (by decide) (fun c400 => ?_) (fun c400 => ?_)
            · -- 405
              refine g_goto C (tgt := 1039) dL_law_405 (by decide) ?_
              refine g_lv [2, 3, 4, 5, 6] (lv' := [(4, .int (nI (4 * j))), (3, .ref (ad 92)), (2, .ref (ad 85)), (1, .ref (ad 0)), (0, .ref b)]) rfl ?_
              refine g_widen (k := cells + 6) (j := slots + 40) (by omega) (by omega) ?_
              exact K _ ⟨cnt, M, St, We, _, F, T, hc, hx4v, ⟨_, _, hx5v⟩, hstep, hF, hT, hP, ⟨_, hov⟩⟩
            · -- 403
              exact absurd rfl c400
      · -- 379
        exact absurd rfl c376
    · -- answer 1
      exact absurd ⟨in_of (N := 4) (by decide) hxr (by omega), in_of (N := 5) (by decide) hyc (by omega)⟩ hno5
  · -- way 1
    have hx4u := h4.keep (fun j _ => hsame j)
    have hx5u := h5.keep (fun j _ _ => hsame j)
    have ho1 := (hsame 92).trans ho
    refine g_istore C (lv' := [(5, .int 1), (4, .int (nI (4 * j))), (3, .ref (ad 92)), (2, .ref (ad 85)), (1, .ref (ad 0)), (0, .ref b)]) dL_law_350 (by decide) rfl ?_
    refine g_aload_n C 3 rfl dL_law_352 ?_
    refine g_aload_n C 5 rfl dL_law_353 ?_
    refine g_iload C 1 rfl dL_law_354 ?_
    refine g_iconst C (v := nI 1) dL_law_356 (by decide) ?_
    refine g_iadd C (v := nI ((4 * j) + 1)) dL_law_357 (nI_add _ _) ?_
    refine g_sld C hX hbl hL ((4 * j) + 1) rfl (by omega) dL_law_358 ?_
    refine g_aload_n C 5 rfl dL_law_359 ?_
    refine g_iload C 1 rfl dL_law_360 ?_
    refine g_iconst C (v := nI 2) dL_law_362 (by decide) ?_
    refine g_iadd C (v := nI ((4 * j) + 2)) dL_law_363 (nI_add _ _) ?_
    refine g_sld C hX hbl hL ((4 * j) + 2) rfl (by omega) dL_law_364 ?_
    refine g_calli C (r_V C (st := []) (c_X5_turn l V (by omega) hc hx5u  (xs (4 * j + 1)) (xs (4 * j + 2))) (cwV 2 C.ts gL_law_X5_turn rfl rfl rfl (by decide +kernel) ⟨(Nat.le_of_ble_eq_true rfl), (Nat.le_of_ble_eq_true rfl)⟩) (by omega) hx5u.1 rfl rfl rfl (Nat.le_of_ble_eq_true rfl) dL_law_365 ⟨by show _ ≤ 601024; omega, by show _ ≤ 7293034; omega⟩) (fun v u2 hv => ?_)
    obtain ⟨hd, hfr2⟩ := hv
    have hx4v := hx4u.keep (fun j hj => hfr2 j (by omega))
    have hov := (hfr2 92 (by omega)).trans ho1
    rcases hd with ⟨r5, cl5, hr5, hcl5, hxr5, hyc5, hv5, hx5v⟩ | ⟨hno5, hx5v⟩
    · -- answer 0
      exact absurd ⟨in_of (N := 4) (by decide) hxr5 (by omega), in_of (N := 5) (by decide) hyc5 (by omega)⟩ hno
    · -- answer 1
      refine g_istore C (lv' := [(6, .int v), (5, .int 1), (4, .int (nI (4 * j))), (3, .ref (ad 92)), (2, .ref (ad 85)), (1, .ref (ad 0)), (0, .ref b)]) dL_law_368 (by decide) rfl ?_
      refine g_aload_n C 4 rfl dL_law_370 ?_
      refine g_calli C (r_V C (st := []) (c_X5_thrown l V (by omega) hc hx5v) (cwV 0 C.ts gL_law_X5_thrown rfl rfl rfl (by decide +kernel) ⟨(Nat.le_of_ble_eq_true rfl), (Nat.le_of_ble_eq_true rfl)⟩) (by omega) hx5v.1 rfl rfl rfl (Nat.le_of_ble_eq_true rfl) dL_law_371 ⟨by show _ ≤ 601024; omega, by show _ ≤ 7293034; omega⟩) (fun t u3 ht => ?_)
      subst ht
      refine g_iload C 1 rfl dL_law_374 ?_
      refine g_icmp_eq C (tgt := 381) dL_law_376 (by decide) (fun c376 => ?_) (fun c376 => ?_)
      · -- 381
        refine g_iload C 1 rfl dL_law_381 ?_
        refine g_if_ne C (tgt := 405) dL_law_383 (by decide) (fun c383 => ?_) (fun c383 => ?_)
        · -- 405
          refine g_goto C (tgt := 1039) dL_law_405 (by decide) ?_
          refine g_lv [2, 3, 4, 5, 6] (lv' := [(4, .int (nI (4 * j))), (3, .ref (ad 92)), (2, .ref (ad 85)), (1, .ref (ad 0)), (0, .ref b)]) rfl ?_
          refine g_widen (k := cells + 6) (j := slots + 40) (by omega) (by omega) ?_
          exact K _ ⟨cnt, M, St, We, pl, F, T, hc, hx4v, ⟨_, _, hx5v⟩, hstep, hF, hT, hP, ⟨_, hov⟩⟩
        · -- 386
          exact absurd c383 (by decide)
      · -- 379
        exact absurd rfl c376

set_option maxHeartbeats 4000000 in
set_option maxRecDepth 100000 in
theorem law_case_5 {p : Program} {l : Launch} {e : Env} {s : State} {m : MethodId} {b L : Nat} {xs : Nat → Int32} {below : List Frame} {meth : Method} {c : Code} {V : gT} {Q : State → Prop} {ad : Nat → Nat} {el : Nat → va_E} {cells slots : Nat} (hlt : l.stackTraces = false) (C : CX V (AL s) RL cL_law 9 (some .boolean) wsL_law p s m #[Value.ref b] meth c) (hX : va_X b L xs s s.heap) (hbl : b < s.heap.size) (hL : L ≤ 2048) (j : Nat) (hj : 4 * j + 4 ≤ L) (hcc : cells + 6 ≤ 601024) (hss : slots + 40 ≤ 7293034) (hJ : Inv V ad el) (K : ∀ el2, Inv V ad el2 → GW p l e room_1 s m #[Value.ref b] below meth c V (AL s) 9 Q 93 ad el2 (cells + 6) (slots + 40) 1039 [(4, .int (nI (4 * j))), (3, .ref (ad 92)), (2, .ref (ad 85)), (1, .ref (ad 0)), (0, .ref b)] []) : GW p l e room_1 s m #[Value.ref b] below meth c V (AL s) 9 Q 93 ad el cells slots 408 [(4, .int (nI (4 * j))), (3, .ref (ad 92)), (2, .ref (ad 85)), (1, .ref (ad 0)), (0, .ref b)] [] := by
  obtain ⟨cnt, M, St, We, pl, F, T, hc, h4, ⟨thr, sh, h5⟩, hstep, hF, hT, hP, g0, ho⟩ := hJ
  refine g_aload_n C 3 rfl dL_law_408 ?_
  refine g_aload_n C 1 rfl dL_law_409 ?_
  refine g_xcalli C (r_xSH C (st := []) (c_L_run l V hlt (by omega) hc h4 g0 ho) (vx_cwSW 2 C.ts gL_law_L_run rfl rfl rfl (by decide +kernel) ⟨(Nat.le_of_ble_eq_true rfl), (Nat.le_of_ble_eq_true rfl)⟩) rfl rfl (Nat.le_of_ble_eq_true rfl) dL_law_410 ⟨by show _ ≤ 601024; omega, by show _ ≤ 7293034; omega⟩) (fun E hE => hE.elim) (fun k u hu => ?_)
  rcases hu with ⟨rfl, r8, u8, hp, ho8, hO⟩ | ⟨rfl, hno, hsame⟩
  · -- way 0
    obtain ⟨hok, hr, ⟨f1, hf1, hx4⟩, hfr⟩ := hp
    have hx4u := hx4.keep (fun j hj => ho8 j (by omega))
    have hx5u := h5.keep (fun j h1 h2 => (ho8 j (by omega)).trans (hfr j (by omega)))
    obtain ⟨g1, ho1, ho2⟩ := hO
    refine g_istore C (lv' := [(5, .int 0), (4, .int (nI (4 * j))), (3, .ref (ad 92)), (2, .ref (ad 85)), (1, .ref (ad 0)), (0, .ref b)]) dL_law_413 (by decide) rfl ?_
    refine g_aload_n C 3 rfl dL_law_415 ?_
    refine g_calli C (r_V C (st := []) (c_X5_run l V (by omega) hc hx5u hstep (hT cnt (Nat.le_refl cnt))) (cwV 0 C.ts gL_law_X5_run rfl rfl rfl (by decide +kernel) ⟨(Nat.le_of_ble_eq_true rfl), (Nat.le_of_ble_eq_true rfl)⟩) (by omega) hx5u.1 rfl rfl rfl (Nat.le_of_ble_eq_true rfl) dL_law_416 ⟨by show _ ≤ 601024; omega, by show _ ≤ 7293034; omega⟩) (fun v u2 hv => ?_)
    obtain ⟨hd, hfr2⟩ := hv
    have hx4v := hx4u.keep (fun j hj => hfr2 j (by omega))
    have hov := (hfr2 92 (by omega)).trans ho1
    rcases hd with ⟨hok5, hv5, sh1, hx5f⟩ | ⟨hno5, hx5v⟩
    · -- answer 0
      have hcv : cnt + 1 ≤ 20 := Nat.succ_le_of_lt hok.1
      have hx5v := hx5f f1 hf1
      have hval : r8 = v := hr.trans hv5.symm
      refine g_istore C (lv' := [(6, .int v), (5, .int 0), (4, .int (nI (4 * j))), (3, .ref (ad 92)), (2, .ref (ad 85)), (1, .ref (ad 0)), (0, .ref b)]) dL_law_419 (by decide) rfl ?_
      refine g_aload_n C 4 rfl dL_law_421 ?_
      refine g_calli C (r_V C (st := []) (c_X5_thrown l V (by omega) hcv hx5v) (cwV 0 C.ts gL_law_X5_thrown rfl rfl rfl (by decide +kernel) ⟨(Nat.le_of_ble_eq_true rfl), (Nat.le_of_ble_eq_true rfl)⟩) (by omega) hx5v.1 rfl rfl rfl (Nat.le_of_ble_eq_true rfl) dL_law_422 ⟨by show _ ≤ 601024; omega, by show _ ≤ 7293034; omega⟩) (fun t u3 ht => ?_)
      subst ht
      refine g_iload C 1 rfl dL_law_425 ?_
      refine g_icmp_eq C (tgt := 432) dL_law_427 (by decide) (fun c427 => ?_) (fun c427 => ?_)
      · -- 432
        refine g_iload C 1 rfl dL_law_432 ?_
        refine g_if_ne C (tgt := 449) dL_law_434 (by decide) (fun c434 => ?_) (fun c434 => ?_)
        · -- 449
          exact absurd rfl c434
        · -- 437
          refine g_aload_n C 3 rfl dL_law_437 ?_
          refine g_iconst C (v := nI 0) dL_law_438 (by decide) ?_
          refine g_lald C 92 (by omega) hov 0 rfl (by omega) (by decide) dL_law_439 ?_
          refine g_topl (ho2 : g1 0 = r8.toInt64) ?_
          refine g_iload C 0 rfl dL_law_440 ?_
          refine g_i2l C (v := v.toInt64) dL_law_442 rfl ?_
          refine g_lcmp C dL_law_443 ?_
          refine g_top ((by rw [hval]; exact lg_cmp_same _) : lg_cmp r8.toInt64 v.toInt64 = 0) ?_
          refine g_if_eq C (tgt := 449) dL_law_444 (by decide) (fun c444 => ?_) (fun c444 => ?_)
          · -- 449
            refine g_goto C (tgt := 1039) dL_law_449 (by decide) ?_
            refine g_lv [2, 3, 4, 5, 6] (lv' := [(4, .int (nI (4 * j))), (3, .ref (ad 92)), (2, .ref (ad 85)), (1, .ref (ad 0)), (0, .ref b)]) rfl ?_
            refine g_widen (k := cells + 6) (j := slots + 40) (by omega) (by omega) ?_
            exact K _ ⟨cnt + 1, _, St, _, pl, _, T, hcv, hx4v, ⟨_, _, hx5v⟩, (by rw [s_end_4]; exact hstep), (F32_run hF hf1), (fun q hq => hT q (by omega)), (pins_W hP 5), ⟨_, hov⟩⟩
          · -- 447
            exact absurd rfl c444
      · -- 430
        exact absurd rfl c427
    · -- answer 1
      exact absurd hok hno5
  · -- way 1
    have hx4u := h4.keep (fun j _ => hsame j)
    have hx5u := h5.keep (fun j _ _ => hsame j)
    have ho1 := (hsame 92).trans ho
    refine g_istore C (lv' := [(5, .int 1), (4, .int (nI (4 * j))), (3, .ref (ad 92)), (2, .ref (ad 85)), (1, .ref (ad 0)), (0, .ref b)]) dL_law_413 (by decide) rfl ?_
    refine g_aload_n C 3 rfl dL_law_415 ?_
    refine g_calli C (r_V C (st := []) (c_X5_run l V (by omega) hc hx5u hstep (hT cnt (Nat.le_refl cnt))) (cwV 0 C.ts gL_law_X5_run rfl rfl rfl (by decide +kernel) ⟨(Nat.le_of_ble_eq_true rfl), (Nat.le_of_ble_eq_true rfl)⟩) (by omega) hx5u.1 rfl rfl rfl (Nat.le_of_ble_eq_true rfl) dL_law_416 ⟨by show _ ≤ 601024; omega, by show _ ≤ 7293034; omega⟩) (fun v u2 hv => ?_)
    obtain ⟨hd, hfr2⟩ := hv
    have hx4v := hx4u.keep (fun j hj => hfr2 j (by omega))
    have hov := (hfr2 92 (by omega)).trans ho1
    rcases hd with ⟨hok5, hv5, sh1, hx5f⟩ | ⟨hno5, hx5v⟩
    · -- answer 0
      exact absurd hok5 hno
    · -- answer 1
      refine g_istore C (lv' := [(6, .int v), (5, .int 1), (4, .int (nI (4 * j))), (3, .ref (ad 92)), (2, .ref (ad 85)), (1, .ref (ad 0)), (0, .ref b)]) dL_law_419 (by decide) rfl ?_
      refine g_aload_n C 4 rfl dL_law_421 ?_
      refine g_calli C (r_V C (st := []) (c_X5_thrown l V (by omega) hc hx5v) (cwV 0 C.ts gL_law_X5_thrown rfl rfl rfl (by decide +kernel) ⟨(Nat.le_of_ble_eq_true rfl), (Nat.le_of_ble_eq_true rfl)⟩) (by omega) hx5v.1 rfl rfl rfl (Nat.le_of_ble_eq_true rfl) dL_law_422 ⟨by show _ ≤ 601024; omega, by show _ ≤ 7293034; omega⟩) (fun t u3 ht => ?_)
      subst ht
      refine g_iload C 1 rfl dL_law_425 ?_
      refine g_icmp_eq C (tgt := 432) dL_law_427 (by decide) (fun c427 => ?_) (fun c427 => ?_)
      · -- 432
        refine g_iload C 1 rfl dL_law_432 ?_
        refine g_if_ne C (tgt := 449) dL_law_434 (by decide) (fun c434 => ?_) (fun c434 => ?_)
        · -- 449
          refine g_goto C (tgt := 1039) dL_law_449 (by decide) ?_
          refine g_lv [2, 3, 4, 5, 6] (lv' := [(4, .int (nI (4 * j))), (3, .ref (ad 92)), (2, .ref (ad 85)), (1, .ref (ad 0)), (0, .ref b)]) rfl ?_
          refine g_widen (k := cells + 6) (j := slots + 40) (by omega) (by omega) ?_
          exact K _ ⟨cnt, M, St, We, pl, F, T, hc, hx4v, ⟨_, _, hx5v⟩, hstep, hF, hT, hP, ⟨_, hov⟩⟩
        · -- 437
          exact absurd c434 (by decide)
      · -- 430
        exact absurd rfl c427
