/-! ===== the start: what the tables say, and the start itself ===== -/
set_option maxRecDepth 100000 in
set_option maxHeartbeats 4000000 in
theorem g_nw_in : ∀ w ∈ g_nw, w ∈ tables_1 := List.forall_mem_cons.mpr ⟨(List.mem_of_getElem? (i := 31) (by decide +kernel)), List.forall_mem_cons.mpr ⟨(List.mem_of_getElem? (i := 36) (by decide +kernel)), List.forall_mem_cons.mpr ⟨(List.mem_of_getElem? (i := 38) (by decide +kernel)), List.forall_mem_cons.mpr ⟨(List.mem_of_getElem? (i := 45) (by decide +kernel)), List.forall_mem_cons.mpr ⟨(List.mem_of_getElem? (i := 47) (by decide +kernel)), List.forall_mem_cons.mpr ⟨(List.mem_of_getElem? (i := 48) (by decide +kernel)), List.forall_mem_cons.mpr ⟨(List.mem_of_getElem? (i := 50) (by decide +kernel)), List.forall_mem_cons.mpr ⟨(List.mem_of_getElem? (i := 52) (by decide +kernel)), List.forall_mem_cons.mpr ⟨(List.mem_of_getElem? (i := 53) (by decide +kernel)), List.forall_mem_cons.mpr ⟨(List.mem_of_getElem? (i := 55) (by decide +kernel)), List.forall_mem_cons.mpr ⟨(List.mem_of_getElem? (i := 57) (by decide +kernel)), List.forall_mem_cons.mpr ⟨(List.mem_of_getElem? (i := 59) (by decide +kernel)), List.forall_mem_cons.mpr ⟨(List.mem_of_getElem? (i := 90) (by decide +kernel)), List.forall_mem_cons.mpr ⟨(List.mem_of_getElem? (i := 91) (by decide +kernel)), List.forall_mem_cons.mpr ⟨(List.mem_of_getElem? (i := 93) (by decide +kernel)), List.forall_mem_cons.mpr ⟨(List.mem_of_getElem? (i := 139) (by decide +kernel)), List.forall_mem_cons.mpr ⟨(List.mem_of_getElem? (i := 140) (by decide +kernel)), List.forall_mem_cons.mpr ⟨(List.mem_of_getElem? (i := 141) (by decide +kernel)), List.forall_mem_cons.mpr ⟨(List.mem_of_getElem? (i := 142) (by decide +kernel)), List.forall_mem_cons.mpr ⟨(List.mem_of_getElem? (i := 143) (by decide +kernel)), List.forall_mem_cons.mpr ⟨(List.mem_of_getElem? (i := 144) (by decide +kernel)), List.forall_mem_cons.mpr ⟨(List.mem_of_getElem? (i := 145) (by decide +kernel)), List.forall_mem_cons.mpr ⟨(List.mem_of_getElem? (i := 213) (by decide +kernel)), List.forall_mem_cons.mpr ⟨(List.mem_of_getElem? (i := 254) (by decide +kernel)), List.forall_mem_cons.mpr ⟨(List.mem_of_getElem? (i := 370) (by decide +kernel)), List.forall_mem_cons.mpr ⟨(List.mem_of_getElem? (i := 483) (by decide +kernel)), List.forall_mem_cons.mpr ⟨(List.mem_of_getElem? (i := 506) (by decide +kernel)), fun _ h => absurd h List.not_mem_nil⟩⟩⟩⟩⟩⟩⟩⟩⟩⟩⟩⟩⟩⟩⟩⟩⟩⟩⟩⟩⟩⟩⟩⟩⟩⟩⟩
theorem g_nw_tab : ∀ w ∈ g_nw, w.onTables = true := by decide +kernel
set_option maxRecDepth 100000 in
set_option maxHeartbeats 4000000 in
theorem str_start {s : State} {b : Nat} (ht1 : ∀ w ∈ tables_1, w.before #[Value.ref b] s = true) (hs : ∀ q ∈ flatC (Jvm.Cond.and given_1 narrow_1), q.before #[Value.ref b] s = true) : ∀ q ∈ g_str, ∃ a, vk_R q.1 q.2.1 q.2.2 a s := by
  have key : ∀ q : String × Nat × String, Cond.stringRef q.1 q.2.1 q.2.2 ∈ tables_1 → Cond.exactly (Term.string q.1 q.2.1) "java/lang/String" ∈ flatC (Jvm.Cond.and given_1 narrow_1) → ∃ a, vk_R q.1 q.2.1 q.2.2 a s := by
    intro q h1 h2
    obtain ⟨a, -, -, -, ha, -⟩ := Cond.exactly_spec (hs _ h2)
    exact ⟨a, vk_R.of (ht1 _ h1) ha⟩
  exact List.forall_mem_cons.mpr ⟨key _ (List.mem_of_getElem? (i := 178) (by decide +kernel)) (by decide +kernel), List.forall_mem_cons.mpr ⟨key _ (List.mem_of_getElem? (i := 261) (by decide +kernel)) (by decide +kernel), List.forall_mem_cons.mpr ⟨key _ (List.mem_of_getElem? (i := 271) (by decide +kernel)) (by decide +kernel), List.forall_mem_cons.mpr ⟨key _ (List.mem_of_getElem? (i := 279) (by decide +kernel)) (by decide +kernel), List.forall_mem_cons.mpr ⟨key _ (List.mem_of_getElem? (i := 335) (by decide +kernel)) (by decide +kernel), List.forall_mem_cons.mpr ⟨key _ (List.mem_of_getElem? (i := 377) (by decide +kernel)) (by decide +kernel), List.forall_mem_cons.mpr ⟨key _ (List.mem_of_getElem? (i := 408) (by decide +kernel)) (by decide +kernel), List.forall_mem_cons.mpr ⟨key _ (List.mem_of_getElem? (i := 468) (by decide +kernel)) (by decide +kernel), List.forall_mem_cons.mpr ⟨key _ (List.mem_of_getElem? (i := 477) (by decide +kernel)) (by decide +kernel), List.forall_mem_cons.mpr ⟨key _ (List.mem_of_getElem? (i := 489) (by decide +kernel)) (by decide +kernel), List.forall_mem_cons.mpr ⟨key _ (List.mem_of_getElem? (i := 499) (by decide +kernel)) (by decide +kernel), fun _ h => absurd h List.not_mem_nil⟩⟩⟩⟩⟩⟩⟩⟩⟩⟩⟩
set_option maxRecDepth 100000 in
set_option maxHeartbeats 4000000 in
theorem known_start {s : State} {b : Nat} (hts : ∀ w ∈ lw_tbl, w.before #[Value.ref b] s = true) (ht1 : ∀ w ∈ tables_1, w.before #[Value.ref b] s = true) : ∃ (dC : Nat → ClassId) (dI : Nat → Nat → Nat), ∀ (k : Nat) (q : vw_C), vwCl[k]? = some q → u_Kn s q.1 q.2.1 q.2.2 (dC k) (dI k) := by
  obtain ⟨c0, i0, k0⟩ := u_known (C := RX0) (T := TX0) (N := 7) (n := 7) hts inX0 (ht1 (.instantiable RX0 7) (List.mem_of_getElem? (i := 23) (by decide +kernel)))
  obtain ⟨c1, i1, k1⟩ := u_known (C := RX1) (T := TX1) (N := 2) (n := 2) hts inX1 (ht1 (.instantiable RX1 2) (List.mem_of_getElem? (i := 30) (by decide +kernel)))
  obtain ⟨c2, i2, k2⟩ := u_known (C := RX2) (T := TX2) (N := 2) (n := 2) hts inX2 (ht1 (.instantiable RX2 2) (List.mem_of_getElem? (i := 84) (by decide +kernel)))
  obtain ⟨c3, i3, k3⟩ := u_known (C := RX3) (T := TX3) (N := 4) (n := 4) hts inX3 (ht1 (.instantiable RX3 4) (List.mem_of_getElem? (i := 76) (by decide +kernel)))
  obtain ⟨c4, i4, k4⟩ := u_known (C := RX4) (T := TX4) (N := 5) (n := 5) hts inX4 (ht1 (.instantiable RX4 5) (List.mem_of_getElem? (i := 15) (by decide +kernel)))
  obtain ⟨c5, i5, k5⟩ := u_known (C := RX5) (T := TX5) (N := 12) (n := 12) hts inX5 (ht1 (.instantiable RX5 12) (List.mem_of_getElem? (i := 505) (by decide +kernel)))
  refine ⟨fun k => if k = 0 then c0 else if k = 1 then c1 else if k = 2 then c2 else if k = 3 then c3 else if k = 4 then c4 else c5, fun k => if k = 0 then i0 else if k = 1 then i1 else if k = 2 then i2 else if k = 3 then i3 else if k = 4 then i4 else i5, ?_⟩
  intro k q hq
  match k, hq with
  | 0, hq => cases hq; exact k0
  | 1, hq => cases hq; exact k1
  | 2, hq => cases hq; exact k2
  | 3, hq => cases hq; exact k3
  | 4, hq => cases hq; exact k4
  | 5, hq => cases hq; exact k5
  | k + 6, hq => simp [vwCl] at hq
set_option maxRecDepth 100000 in
set_option maxHeartbeats 4000000 in
theorem KX_start {s : State} {b L : Nat} {xs : Nat → Int32} (hL : L ≤ 260) (hX : va_X b L xs s s.heap) (hbl : b < s.heap.size) (hts : ∀ w ∈ lw_tbl, w.before #[Value.ref b] s = true) (hgv : (Jvm.Cond.and given_1 narrow_1).before #[Value.ref b] s = true) : ∃ V : gT, V.1.2 = (b, L, xs) ∧ KX V (AL s) s s.heap := by
  have ht1 : ∀ w ∈ tables_1, w.before #[Value.ref b] s = true := fun w h => hts w (List.mem_append_right _ h)
  have hs := flat_of_before _ hgv
  obtain ⟨dC, dI, hKc⟩ := known_start hts ht1
  obtain ⟨a0, e0, p0, f0, g0, h0⟩ := Cond.arrayClass_spec (ht1 (.arrayClass .int) (List.mem_of_getElem? (i := 99) (by decide +kernel)))
  obtain ⟨a1, e1, p1, f1, g1, h1⟩ := Cond.arrayClass_spec (ht1 (.arrayClass .boolean) (List.mem_of_getElem? (i := 100) (by decide +kernel)))
  have w2 := ht1 (.arrayOver (.array (.array .boolean))) (List.mem_of_getElem? (i := 425) (by decide +kernel))
  obtain ⟨p2, a2, e2, u2, -, g2, h2, f2⟩ := arrayOverA_spec w2
  have w3 := ht1 (.arrayOver (.object "StampSheets$Pin")) (List.mem_of_getElem? (i := 29) (by decide +kernel))
  obtain ⟨p3, a3, e3, u3, -, g3, h3, f3⟩ := Cond.arrayOver_spec w3
  have w4 := ht1 (.arrayOver (.object "StampSheets$Sheet")) (List.mem_of_getElem? (i := 115) (by decide +kernel))
  obtain ⟨p4, a4, e4, u4, -, g4, h4, f4⟩ := Cond.arrayOver_spec w4
  have w5 := ht1 (.arrayOver (.array .int)) (List.mem_of_getElem? (i := 430) (by decide +kernel))
  obtain ⟨p5, a5, e5, u5, -, g5, h5, f5⟩ := arrayOverA_spec w5
  have w6 := ht1 (.arrayOver (.array .boolean)) (List.mem_of_getElem? (i := 431) (by decide +kernel))
  obtain ⟨p6, a6, e6, u6, -, g6, h6, f6⟩ := arrayOverA_spec w6
  have w7 := ht1 (.arrayOver (.array (.array .int))) (List.mem_of_getElem? (i := 423) (by decide +kernel))
  obtain ⟨p7, a7, e7, u7, -, g7, h7, f7⟩ := arrayOverA_spec w7
  have hA : ∀ a : Nat, a < s.heap.size → ¬ AL s a := fun a h => Nat.not_le.mpr h
  refine ⟨(((dC, dI), (b, L, xs)), fun k => if k = 0 then a0 else if k = 1 then a1 else if k = 2 then a2 else if k = 3 then a3 else if k = 4 then a4 else if k = 5 then a5 else if k = 6 then a6 else a7), rfl, ⟨hKc, ?_⟩, ?_, ?_, fun w hw => va_Nw.of (g_nw_tab w hw) (ht1 w (g_nw_in w hw)), str_start ht1 hs, fun q hq => absurd hq List.not_mem_nil, ?_, ?_, hA b hbl, hL, hX⟩
  · intro k q hq
    match k, hq with
    | 0, hq => cases hq; exact ⟨fun _ _ => ⟨(fun k h => by cases h), e0, g0, p0, h0⟩, f0⟩
    | 1, hq => cases hq; exact ⟨fun _ _ => ⟨(fun k h => by cases h), e1, g1, p1, h1⟩, f1⟩
    | 2, hq => cases hq; exact ⟨fun _ _ => ⟨(fun k h => by cases h), e2, g2, p2, h2⟩, f2⟩
    | 3, hq => cases hq; exact ⟨fun _ _ => ⟨(fun k h => by cases h), e3, g3, p3, h3⟩, ⟨e3, p3, g3, h3, u3, f3⟩⟩
    | 4, hq => cases hq; exact ⟨fun _ _ => ⟨(fun k h => by cases h), e4, g4, p4, h4⟩, ⟨e4, p4, g4, h4, u4, f4⟩⟩
    | 5, hq => cases hq; exact ⟨fun _ _ => ⟨(fun k h => by cases h), e5, g5, p5, h5⟩, f5⟩
    | 6, hq => cases hq; exact ⟨fun _ _ => ⟨(fun k h => by cases h), e6, g6, p6, h6⟩, f6⟩
    | 7, hq => cases hq; exact ⟨fun _ _ => ⟨(fun k h => by cases h), e7, g7, p7, h7⟩, f7⟩
    | k + 8, hq => simp [g_tys] at hq
  · exact vx_Zqof (ht1 _ (List.mem_of_getElem? (i := 164) (by decide +kernel))) (ht1 _ (List.mem_of_getElem? (i := 7) (by decide +kernel))) (hs _ (by decide +kernel)) hA
  · exact vx_Zqof (ht1 _ (List.mem_of_getElem? (i := 166) (by decide +kernel))) (ht1 _ (List.mem_of_getElem? (i := 7) (by decide +kernel))) (hs _ (by decide +kernel)) hA
  · exact List.forall_mem_cons.mpr ⟨w3, List.forall_mem_cons.mpr ⟨w4, fun _ h => absurd h List.not_mem_nil⟩⟩
  · exact List.forall_mem_cons.mpr ⟨w5, List.forall_mem_cons.mpr ⟨w6, List.forall_mem_cons.mpr ⟨w7, List.forall_mem_cons.mpr ⟨w2, fun _ h => absurd h List.not_mem_nil⟩⟩⟩⟩
