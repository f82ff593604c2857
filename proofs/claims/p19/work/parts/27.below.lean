/-! ===== the law: below, cell ===== -/
set_option maxHeartbeats 4000000 in
set_option maxRecDepth 100000 in
theorem c_L_below (l : Launch) (V : gT) {n : Nat} {ad : Nat → Nat} {el : Nat → va_E} (x : Int32) (N : Nat) (h0 : 0 < N) (hN : N < 2 ^ 31) : TT l V yL_below wsL_below { frames := 0, cells := 0, slots := 0, locals := 0 } n ad el [.int x, .int (nI N)] (QIr V n ad el (fun r => ∃ i : Nat, i < N ∧ r = nI i)) 0 0 := by
  refine TT.body (cc := cL_below) (maxL := 2) (ret := (some .int)) (by decide) rfl (Nat.le_of_ble_eq_true rfl) ?_
  intro p e s m below meth c C hnm
  refine g_lv [0, 1] (lv' := [(0, .int x), (1, .int (nI N))]) rfl ?_
  refine g_iload_n C 0 rfl dL_below_0 ?_
  refine g_ldc C (v := 2147483647) (List.mem_of_getElem? (i := 1) rfl) dL_below_1 ?_
  refine g_iand C (v := nI (x.toBitVec.toNat % 2 ^ 31)) dL_below_3 (pk_and x 31 (by decide)) ?_
  refine g_iload_n C 1 rfl dL_below_4 ?_
  refine g_irem C (v := nI ((x.toBitVec.toNat % 2 ^ 31) % N)) dL_below_5 (nI_ne0 h0 hN) (pk_rem (by omega) (by omega) (by omega)) ?_
  exact g_iret C rfl dL_below_6 () rfl rfl rfl ⟨_, Nat.mod_lt _ h0, rfl⟩ (Nat.le_of_ble_eq_true rfl) (Nat.le_of_ble_eq_true rfl)

set_option maxHeartbeats 4000000 in
set_option maxRecDepth 100000 in
theorem c_L_cell (l : Launch) (V : gT) {n : Nat} {ad : Nat → Nat} {el : Nat → va_E} (k : Nat) (hk : k < 1000) : TT l V yL_cell wsL_cell { frames := 0, cells := 0, slots := 0, locals := 0 } n ad el [.ref (g_b V), .int (nI k)] (QIr V n ad el (fun _ => True)) 0 0 := by
  refine TT.body (cc := cL_cell) (maxL := 2) (ret := (some .int)) (by decide) rfl (Nat.le_of_ble_eq_true rfl) ?_
  intro p e s m below meth c C hnm
  refine g_lv [0, 1] (lv' := [(0, .ref (g_b V)), (1, .int (nI k))]) rfl ?_
  have hL : g_L V ≤ 260 := C.sc.2.1
  refine g_iload_n C 1 rfl dL_cell_0 ?_
  refine g_aload_n C 0 rfl dL_cell_1 ?_
  refine g_slen C dL_cell_2 ?_
  refine g_icmp_ge C (tgt := 12) dL_cell_3 (by decide) (fun c3 => ?_) (fun c3 => ?_)
  · -- 12
    have c3 : (g_L V) ≤ k := (nI_leI (by omega) (by omega)).mp c3
    refine g_ldc C (v := 790386105) (List.mem_of_getElem? (i := 1) rfl) dL_cell_12 ?_
    refine g_iload_n C 1 rfl dL_cell_14 ?_
    refine g_iconst C (v := nI 3) dL_cell_15 (by decide) ?_
    refine g_iadd C (v := nI (k + 3)) dL_cell_16 (nI_add _ _) ?_
    refine g_imul C (v := nI (790386105 * (k + 3))) dL_cell_17 (pk_mul _ _) ?_
    exact g_iret C rfl dL_cell_18 () rfl rfl rfl trivial (Nat.le_of_ble_eq_true rfl) (Nat.le_of_ble_eq_true rfl)
  · -- 6
    have c3 : k < (g_L V) := Nat.lt_of_not_le (fun z => c3 ((nI_leI (by omega) (by omega)).mpr z))
    refine g_aload_n C 0 rfl dL_cell_6 ?_
    refine g_iload_n C 1 rfl dL_cell_7 ?_
    refine g_sld C k rfl (by omega) dL_cell_8 ?_
    refine g_goto C (tgt := 18) dL_cell_9 (by decide) ?_
    exact g_iret C rfl dL_cell_18 () rfl rfl rfl trivial (Nat.le_of_ble_eq_true rfl) (Nat.le_of_ble_eq_true rfl)

/-- the strength's array anew -/
def s_sg6 (n j : Nat) : Nat := if j = 86 then n else j
theorem SimAt.refit {V : gT} {ad : Nat → Nat} {el0 el : Nat → va_E} {B cnt n : Nat} {M St We St' We' pl : Nat → Int32} {F T : Nat → Nat → Int32} (hB : 97 ≤ B) (hn : n = B + 12 * cnt) (h : SimAt V ad el0 B cnt M St We pl F T)
    (h85 : el 85 = .inr (5, [.int (M 0), .int (M 1), .int (M 2), .int (M 3), .int (M 4), .int (M 5), .ref (ad n), .ref (ad 87), .ref (ad 88), .ref (ad 89), .ref (ad 95), .ref (ad 96)])) (h6 : ArrI V el n 7 St') (h7 : ArrI V el 87 7 We') (h8 : ArrZ V el 88 7 (fun i => s_bk (St' i) (We' i))) (ho : ∀ j, j < n → j ≠ 85 → j ≠ 87 → j ≠ 88 → el j = el0 j) :
    SimAt V (fun j => ad (s_sg6 n j)) (fun j => el (s_sg6 n j)) B cnt M St' We' pl F T := by
  obtain ⟨a1, a2, a3, a4, a5, a6, a7, a8⟩ := h
  have lo : ∀ j, j ≠ 86 → s_sg6 n j = j := fun j h => if_neg h
  have hi : s_sg6 n 86 = n := if_pos rfl
  refine ⟨?_, ?_, ?_, ?_, ?_, ?_, ?_, fun k hk => ?_⟩
  · show el (s_sg6 n 85) = _
    rw [lo 85 (by omega), h85]
    dsimp only
    rw [hi, lo 87 (by omega), lo 88 (by omega), lo 89 (by omega), lo 95 (by omega), lo 96 (by omega)]
  · obtain ⟨g, h1, h2⟩ := h6
    exact ⟨g, by show el (s_sg6 n 86) = _; rw [hi]; exact h1, h2⟩
  · exact h7.keep (by show el (s_sg6 n 87) = _; rw [lo 87 (by omega)])
  · exact h8.keep (by show el (s_sg6 n 88) = _; rw [lo 88 (by omega)])
  · exact a5.mv (fun j hj => by show el (s_sg6 n (89 + j)) = _; rw [lo _ (by omega)]; exact ho _ (by omega) (by omega) (by omega) (by omega)) (fun j hj => by show ad (s_sg6 n (89 + j)) = _; rw [lo _ (by omega)])
  · obtain ⟨g, h1, h2⟩ := a6
    exact ⟨g, by show el (s_sg6 n 95) = _; rw [lo 95 (by omega)]; exact (ho _ (by omega) (by omega) (by omega) (by omega)).trans h1, fun k hk => (h2 k hk).trans (congrArg some (by show ad _ = ad (s_sg6 n _); rw [lo _ (by omega)]))⟩
  · obtain ⟨g, h1, h2⟩ := a7
    exact ⟨g, by show el (s_sg6 n 96) = _; rw [lo 96 (by omega)]; exact (ho _ (by omega) (by omega) (by omega) (by omega)).trans h1, fun k hk => (h2 k hk).trans (congrArg some (by show ad _ = ad (s_sg6 n _); rw [lo _ (by omega)]))⟩
  · obtain ⟨b1, b2⟩ := a8 k hk
    exact ⟨b1.mv (fun j hj => by show el (s_sg6 n _) = _; rw [lo _ (by omega)]; exact ho _ (by omega) (by omega) (by omega) (by omega)) (fun j hj => by show ad (s_sg6 n _) = _; rw [lo _ (by omega)]), b2.mv (fun j hj => by show el (s_sg6 n _) = _; rw [lo _ (by omega)]; exact ho _ (by omega) (by omega) (by omega) (by omega)) (fun j hj => by show ad (s_sg6 n _) = _; rw [lo _ (by omega)])⟩
theorem SimAt.turn {V : gT} {ad : Nat → Nat} {el0 el : Nat → va_E} {B cnt : Nat} {M St We pl : Nat → Int32} {F T : Nat → Nat → Int32} (hB : 97 ≤ B) (h : SimAt V ad el0 B cnt M St We pl F T) (r c : Nat) (hr : r < 5) (hc : c < 6) (v : Int32) (h1 : ArrZ V el (90 + r) 6 (fun q => if q = c then v else pl (6 * r + q))) (ho : ∀ j, j ≠ 90 + r → el j = el0 j) : SimAt V ad el B cnt M St We (upd pl (6 * r + c) v) F T := by
  obtain ⟨a1, a2, a3, a4, a5, a6, a7, a8⟩ := h
  refine ⟨(ho _ (by omega)).trans a1, a2.keep (ho _ (by omega)), a3.keep (ho _ (by omega)), a4.keep (ho _ (by omega)), ⟨a5.1.keep (ho _ (by omega)), fun q hq => ?_⟩, a6.keep (ho _ (by omega)), a7.keep (ho _ (by omega)), fun k hk => ⟨(a8 k hk).1.keep (fun j _ _ => ho j (by omega)), (a8 k hk).2.keep (fun j _ _ => ho j (by omega))⟩⟩
  by_cases e : q = r
  · subst e
    exact h1.cg (fun c2 h2 => by
      by_cases e2 : c2 = c
      · subst e2; rw [pk_us, if_pos rfl]
      · rw [pk_un (by omega), if_neg e2])
  · exact ((a5.2 q hq).keep (ho _ (by omega))).cg (fun c2 h2 => pk_un (by omega))
theorem SimAt.tear {V : gT} {ad : Nat → Nat} {el0 el : Nat → va_E} {B cnt : Nat} {M St We pl : Nat → Int32} {F T : Nat → Nat → Int32} (hB : 97 ≤ B) (h : SimAt V ad el0 B cnt M St We pl F T) (k r c : Nat) (hk : k < cnt) (hr : r < 5) (hc : c < 6) (v : Int32) (h1 : ArrZ V el (B + 12 * k + 6 + 1 + r) 6 (fun q => if q = c then v else T k (6 * r + q))) (ho : ∀ j, j ≠ B + 12 * k + 6 + 1 + r → el j = el0 j) : SimAt V ad el B cnt M St We pl F (va_up T k (upd (T k) (6 * r + c) v)) := by
  obtain ⟨a1, a2, a3, a4, a5, a6, a7, a8⟩ := h
  refine ⟨(ho _ (by omega)).trans a1, a2.keep (ho _ (by omega)), a3.keep (ho _ (by omega)), a4.keep (ho _ (by omega)), a5.keep (fun j _ _ => ho j (by omega)), a6.keep (ho _ (by omega)), a7.keep (ho _ (by omega)), fun q hq => ⟨(a8 q hq).1.keep (fun j _ _ => ho j (by omega)), ?_⟩⟩
  by_cases e : q = k
  · subst e
    rw [va_up_self]
    refine ⟨(a8 q hq).2.1.keep (ho _ (by omega)), fun r2 h2 => ?_⟩
    by_cases e2 : r2 = r
    · subst e2
      exact h1.cg (fun c2 h3 => by
        by_cases e3 : c2 = c
        · subst e3; rw [pk_us, if_pos rfl]
        · rw [pk_un (by omega), if_neg e3])
    · exact (((a8 q hq).2.2 r2 h2).keep (ho _ (by omega))).cg (fun c2 h3 => pk_un (by omega))
  · rw [va_up_ne _ _ e]
    exact (a8 q hq).2.keep (fun j _ _ => ho j (by omega))
theorem upd_rel {f g : Nat → Int32} {N : Nat} (h : ∀ j, j < N → f j = g j) (i : Nat) (x : Int32) : ∀ j, j < N → upd f i x j = upd g i x j := by
  intro j hj
  unfold upd
  split
  · rfl
  · exact h j hj
theorem dr9 : ∀ q, q < 19 → (-9 : Int32) ≤ nI q - 9 ∧ nI q - 9 ≤ 9 := by decide
