/-! ===== the law's own machine: a sheet ===== -/
theorem s_offF_hi {M : Nat → Int32} (h : 6 < M 2) : s_offF M = 1 := by
  have h1 : s_in (M 2) (-6) 6 = 0 := if_neg (fun z => i_nlt z.2 h)
  rw [s_offF, if_pos h1]
theorem s_offF_mid {M : Nat → Int32} (h : -6 ≤ M 2) (h2 : ¬ 6 < M 2) : s_offF M = 0 := by
  have h1 : s_in (M 2) (-6) 6 = 1 := if_pos ⟨h, i_ge h2⟩
  rw [s_offF, h1, if_neg (by decide)]
theorem s_offF_lo {M : Nat → Int32} (h : ¬ -6 ≤ M 2) : s_offF M = 1 := by
  have h1 : s_in (M 2) (-6) 6 = 0 := if_neg (fun z => h z.1)
  rw [s_offF, if_pos h1]
def s_ad (b x k : Int32) : Int32 := if b = 0 then x else x + k
theorem s_bk_0 {st we : Int32} (h : s_bk st we = 0) : we ≤ st := by
  by_cases q : we ≤ st
  · exact q
  · rw [s_bk, if_neg q] at h; exact absurd h (by decide)
theorem s_bk_1 {st we : Int32} (h : ¬ s_bk st we = 0) : ¬ we ≤ st := fun q => h (if_pos q)
theorem s_bk_nar (st we : Int32) : vp_nar .boolean (s_bk st we) = s_bk st we := by
  unfold s_bk
  split <;> rfl
theorem s_stamp_ad (M St We pl : Nat → Int32) (r cl : Nat) (h : 0 < M 4) : s_ad (M 5 + nI cl - (M 5 + nI cl) / M 4 * M 4) (s_ad (pl (6 * r + cl)) (s_ad (s_bk (St (cl + 1)) (We (cl + 1))) (s_ad (s_bk (St cl) (We cl)) (s_offF M) 2) 4) 8) 16 = s_stamp M St We pl r cl := by
  rw [← s_stamp_m M St We pl r cl h]
  unfold s_ad s_bk
  have ho : s_offF M = 0 ∨ s_offF M = 1 := by
    by_cases e : s_offF M = 0
    · exact Or.inl e
    · exact Or.inr (s_offF_1 e)
  by_cases e1 : We cl ≤ St cl <;> by_cases e2 : We (cl + 1) ≤ St (cl + 1) <;> by_cases e3 : pl (6 * r + cl) = 0 <;> by_cases e5 : M 5 + nI cl - (M 5 + nI cl) / M 4 * M 4 = 0 <;> rcases ho with e4 | e4 <;> simp only [e1, e2, e3, e4, e5, if_true, if_false] <;> decide
theorem feed_end (z : Int32) : s_max 10 (s_min 30 z) = if z < 10 then 10 else if 30 < z then 30 else z := by
  unfold s_max s_min
  have h10 : (10 : Int32).toInt = 10 := by decide
  have h30 : (30 : Int32).toInt = 30 := by decide
  by_cases e1 : z < 10
  · rw [if_pos e1]
    rw [i_lt, h10] at e1
    have a1 : z < 30 := by rw [i_lt, h30]; omega
    have a2 : ¬ (10 : Int32) < z := fun q => by rw [i_lt, h10] at q; omega
    rw [if_pos a1, if_neg a2]
  · rw [if_neg e1]
    rw [i_lt, h10] at e1
    by_cases e2 : 30 < z
    · rw [if_pos e2]
      rw [i_lt, h30] at e2
      have a1 : ¬ z < 30 := fun q => by rw [i_lt, h30] at q; omega
      have a2 : (10 : Int32) < 30 := by decide
      rw [if_neg a1, if_pos a2]
    · rw [if_neg e2]
      rw [i_lt, h30] at e2
      by_cases e3 : z < 30
      · rw [if_pos e3]
        by_cases e4 : 10 < z
        · rw [if_pos e4]
        · rw [if_neg e4]
          rw [i_lt, h10] at e4
          exact Int32.toInt_inj.mp (by rw [h10]; omega)
      · have a2 : (10 : Int32) < 30 := by decide
        rw [if_neg e3, if_pos a2]
        rw [i_lt, h30] at e3
        exact Int32.toInt_inj.mp (by rw [h30]; omega)
/-- the machine's own cells written, the rest as it was -/
theorem SimAt.put {V : gT} {ad : Nat → Nat} {el el' : Nat → va_E} {B cnt : Nat} {M St We M' We' pl : Nat → Int32} {F T : Nat → Nat → Int32} (h : SimAt V ad el B cnt M St We pl F T) (hB : 97 ≤ B) (h1 : el' 85 = .inr (5, [.int (M' 0), .int (M' 1), .int (M' 2), .int (M' 3), .int (M' 4), .int (M' 5), .ref (ad 86), .ref (ad 87), .ref (ad 88), .ref (ad 89), .ref (ad 95), .ref (ad 96)])) (h3 : ArrI V el' 87 7 We') (h4 : ArrZ V el' 88 7 (fun i => s_bk (St i) (We' i))) (ho : ∀ j, j < B + 12 * cnt → j ≠ 85 → j ≠ 87 → j ≠ 88 → el' j = el j) : SimAt V ad el' B cnt M' St We' pl F T := by
  obtain ⟨a1, a2, a3, a4, a5, a6, a7, a8⟩ := h
  exact ⟨h1, a2.keep (ho _ (by omega) (by omega) (by omega) (by omega)), h3, h4, a5.keep (fun j _ _ => ho j (by omega) (by omega) (by omega) (by omega)), a6.keep (ho _ (by omega) (by omega) (by omega) (by omega)), a7.keep (ho _ (by omega) (by omega) (by omega) (by omega)), fun k hk => ⟨(a8 k hk).1.keep (fun j _ _ => ho j (by omega) (by omega) (by omega) (by omega)), (a8 k hk).2.keep (fun j _ _ => ho j (by omega) (by omega) (by omega) (by omega))⟩⟩

theorem i_lt2 {a b : Int32} (h : ¬ b ≤ a) : a < b := by rw [i_le] at h; rw [i_lt]; omega
theorem i_nlt2 {a b : Int32} (h : a ≤ b) : ¬ b < a := i_nlt h

set_option maxHeartbeats 4000000 in
set_option maxRecDepth 100000 in
theorem c_X5_sheet (l : Launch) (V : gT) {n : Nat} {ad : Nat → Nat} {el : Nat → va_E} {B cnt : Nat} {M St We pl : Nat → Int32} {F T : Nat → Nat → Int32} (hB : 97 ≤ B) (hc : cnt ≤ 20) (hn : B + 12 * cnt ≤ n) (hs : SimAt V ad el B cnt M St We pl F T) (h4 : 0 < M 4) : TT l V yX5_sheet wsX5_sheet { frames := 0, cells := 6, slots := 35, locals := 0 } n ad el [.ref (ad 85)] (QRn V n (fun u => u.1 = n + 6 ∧ (∀ j, j < n → u.2.1 j = ad j) ∧ SimAt V u.2.1 u.2.2 B cnt (s_end M) St (s_W St We 5) pl F T ∧ RwI V u.2.1 u.2.2 n (s_fault M St We pl) ∧ ∀ j, j < n → j ≠ 85 → j ≠ 87 → j ≠ 88 → u.2.2 j = el j)) 6 35 := by
  refine TT.body (cc := cX5_sheet) (maxL := 5) (ret := (some (.array (.array .int)))) (by decide) rfl (Nat.le_of_ble_eq_true rfl) ?_
  intro p e s m below meth c C hnm
  refine g_lv [0] (lv' := [(0, .ref (ad 85))]) rfl ?_
  refine g_iconst C (v := nI 5) dX5_sheet_0 (by decide) ?_
  refine g_bipush C (v := nI 6) dX5_sheet_1 (by decide) ?_
  refine g_mna C 5 0 (ty := .int) (by simp [g_aat]) rfl rfl (List.mem_of_getElem? (i := 1) rfl) (List.mem_of_getElem? (i := 2) rfl) (N := 5) (M := 6) (by decide) (by decide) (by decide) (by decide) (Nat.le_of_ble_eq_true rfl) (Nat.le_of_ble_eq_true rfl) (Nat.le_of_ble_eq_true rfl) rfl rfl (fun c => g_inner c 6 .int rfl) (Nat.le_of_ble_eq_true rfl) (Nat.le_of_ble_eq_true rfl) dX5_sheet_3 (fun ad1 el2 ha3 he4 hr5 hb6 => ?_)
  refine g_lveq (lv' := [(0, .ref (ad1 85))]) (by rw [ha3 85 (by omega)]) ?_
  have P7 : RwI V ad1 el2 n (fun _ => 0) := ⟨⟨_, he4, fun i hi => if_pos hi⟩, fun r hr => ⟨_, hr5 r hr, fun c hc => rfl⟩⟩
  refine g_astore_n C (lv' := [(1, .ref (ad1 n)), (0, .ref (ad1 85))]) dX5_sheet_7 (by decide) rfl ?_
  refine g_iconst C (v := nI 0) dX5_sheet_8 (by decide) ?_
  refine g_istore_n C (lv' := [(2, .int (nI 0)), (1, .ref (ad1 n)), (0, .ref (ad1 85))]) dX5_sheet_9 (by decide) rfl ?_
  refine g_lv [0, 2, 1] (lv' := [(2, .int (nI 0)), (0, .ref (ad1 85)), (1, .ref (ad1 n))]) rfl ?_
  have hs1 : SimAt V ad1 el2 B cnt (s_M M 0) St (s_W St We 0) pl F T := (hs.keep (fun j hj => hb6 j (by omega))).adr (fun j hj => ha3 j (by omega))
  refine g_forE 5 (fun (i : Nat) => [(2, .int (nI i)), (0, .ref (ad1 85)), (1, .ref (ad1 n))]) (fun i el1 => SimAt V ad1 el1 B cnt (s_M M i) St (s_W St We i) pl F T ∧ RwI V ad1 el1 n (fun j => if j < 6 * i then s_fault M St We pl j else 0) ∧ ∀ j, j < n → j ≠ 85 → j ≠ 87 → j ≠ 88 → el1 j = el j) ⟨hs1, P7.cg (fun j hj => if_neg (by omega)), fun j hj _ _ _ => hb6 j hj⟩ (fun el1 h1 => ?_) (fun i el1 hi h1 ih => ?_)
  · -- loop 10: its end
    obtain ⟨b1, b2, b3⟩ := id h1
    obtain ⟨y8, y9, y10, y11, y12, y13, y14, y15⟩ := id b1
    obtain ⟨g16, h17, z18⟩ := id y9
    obtain ⟨g19, h20, z21⟩ := id y10
    obtain ⟨g22, h23, z24⟩ := id y11
    obtain ⟨⟨g25, h26, z27⟩, -⟩ := id y12
    obtain ⟨⟨g28, h29, z30⟩, -⟩ := id b2
    refine g_iload_n C 0 rfl dX5_sheet_10 ?_
    refine g_iconst C (v := nI 5) dX5_sheet_11 (by decide) ?_
    refine g_icmp_ge C (tgt := 222) dX5_sheet_12 (by decide) (fun c12 => ?_) (fun c12 => ?_)
    rotate_left
    · exact absurd c12 (by decide)
    refine g_aload_n C 1 rfl dX5_sheet_222 ?_
    refine g_dup C dX5_sheet_223 rfl ?_
    refine g_getf C 85 (by omega) y8 rfl 0 (by decide) (fun w h => (List.mem_cons_of_mem _ (List.mem_append_right _ h))) (List.mem_of_getElem? (i := 4) rfl) rfl rfl dX5_sheet_224 ?_
    refine g_aload_n C 1 rfl dX5_sheet_227 ?_
    refine g_getf C 85 (by omega) y8 rfl 1 (by decide) (fun w h => (List.mem_cons_of_mem _ (List.mem_append_right _ h))) (List.mem_of_getElem? (i := 12) rfl) rfl rfl dX5_sheet_228 ?_
    refine g_iadd C (v := (s_M M 5 0) + (s_M M 5 1)) dX5_sheet_231 rfl ?_
    refine g_putf C 85 (by omega) y8 rfl 0 (by decide) (fun w h => (List.mem_cons_of_mem _ (List.mem_append_right _ h))) tyX5 tyX5_ok nmX5 (List.mem_of_getElem? (i := 4) rfl) rfl rfl rfl rfl (Nat.le_of_ble_eq_true rfl) dX5_sheet_232 (fun el31 e32 o33 => ?_)
    replace e32 : el31 85 = .inr (5, [.int ((s_M M 5 0) + (s_M M 5 1)), .int (s_M M 5 1), .int (s_M M 5 2), .int (s_M M 5 3), .int (s_M M 5 4), .int (s_M M 5 5), .ref (ad1 86), .ref (ad1 87), .ref (ad1 88), .ref (ad1 89), .ref (ad1 95), .ref (ad1 96)]) := e32
    have m34 := (o33 86 (by omega)).trans h17
    have m35 := (o33 87 (by omega)).trans h20
    have m36 := (o33 88 (by omega)).trans h23
    have m37 := (o33 89 (by omega)).trans h26
    have m38 := (o33 n (by omega)).trans h29
    have P39 := y12.keep (fun j h1 h2 => o33 j (by omega))
    have P40 := b2.keep (fun j h1 h2 => o33 j (by omega))
    refine g_aload_n C 1 rfl dX5_sheet_235 ?_
    refine g_getf C 85 (by omega) e32 rfl 0 (by decide) (fun w h => (List.mem_cons_of_mem _ (List.mem_append_right _ h))) (List.mem_of_getElem? (i := 4) rfl) rfl rfl dX5_sheet_236 ?_
    refine g_bipush C (v := nI 10) dX5_sheet_239 (by decide) ?_
    refine g_icmp_ge C (tgt := 250) dX5_sheet_241 (by decide) (fun c241 => ?_) (fun c241 => ?_)
    · -- 250
      refine g_aload_n C 1 rfl dX5_sheet_250 ?_
      refine g_getf C 85 (by omega) e32 rfl 0 (by decide) (fun w h => (List.mem_cons_of_mem _ (List.mem_append_right _ h))) (List.mem_of_getElem? (i := 4) rfl) rfl rfl dX5_sheet_251 ?_
      refine g_bipush C (v := nI 30) dX5_sheet_254 (by decide) ?_
      refine g_icmp_le C (tgt := 265) dX5_sheet_256 (by decide) (fun c256 => ?_) (fun c256 => ?_)
      · -- 265
        refine g_aload_n C 2 rfl dX5_sheet_265 ?_
        have hfe : s_max 10 (s_min 30 (s_M M 5 0 + s_M M 5 1)) = (s_M M 5 0) + (s_M M 5 1) := (by rw [feed_end, if_neg (show ¬ s_M M 5 0 + s_M M 5 1 < 10 from i_nlt c241), if_neg (show ¬ 30 < s_M M 5 0 + s_M M 5 1 from i_nlt2 c256)] <;> rfl)
        have hM41 : el31 85 = .inr (5, [.int (s_end M 0), .int (s_end M 1), .int (s_end M 2), .int (s_end M 3), .int (s_end M 4), .int (s_end M 5), .ref (ad1 86), .ref (ad1 87), .ref (ad1 88), .ref (ad1 89), .ref (ad1 95), .ref (ad1 96)]) := by
          have e0 : s_end M 0 = (s_M M 5 0) + (s_M M 5 1) := hfe
          rw [e0]
          exact e32
        have hS1 : SimAt V ad1 el31 B cnt (s_end M) St (s_W St We 5) pl F T := b1.put hB hM41 (b1.2.2.1.keep (o33 87 (by omega))) (b1.2.2.2.1.keep (o33 88 (by omega))) (fun j hj h5 h7 h8 => o33 j (by omega))
        exact g_aret C rfl dX5_sheet_266 ⟨rfl, fun j hj => ha3 j hj, hS1, (b2.keep (fun j h6 h7 => o33 j (by omega))).cg (fun j hj => (if_pos (by omega)).symm), fun j hj h5 h7 h8 => (o33 j (by omega)).trans (b3 j hj h5 h7 h8)⟩ (Nat.le_of_ble_eq_true rfl) (Nat.le_of_ble_eq_true rfl)
      · -- 259
        refine g_aload_n C 1 rfl dX5_sheet_259 ?_
        refine g_bipush C (v := nI 30) dX5_sheet_260 (by decide) ?_
        refine g_putf C 85 (by omega) e32 rfl 0 (by decide) (fun w h => (List.mem_cons_of_mem _ (List.mem_append_right _ h))) tyX5 tyX5_ok nmX5 (List.mem_of_getElem? (i := 4) rfl) rfl rfl rfl rfl (Nat.le_of_ble_eq_true rfl) dX5_sheet_262 (fun el42 e43 o44 => ?_)
        replace e43 : el42 85 = .inr (5, [.int (nI 30), .int (s_M M 5 1), .int (s_M M 5 2), .int (s_M M 5 3), .int (s_M M 5 4), .int (s_M M 5 5), .ref (ad1 86), .ref (ad1 87), .ref (ad1 88), .ref (ad1 89), .ref (ad1 95), .ref (ad1 96)]) := e43
        have m45 := (o44 86 (by omega)).trans m34
        have m46 := (o44 87 (by omega)).trans m35
        have m47 := (o44 88 (by omega)).trans m36
        have m48 := (o44 89 (by omega)).trans m37
        have m49 := (o44 n (by omega)).trans m38
        have P50 := P39.keep (fun j h1 h2 => o44 j (by omega))
        have P51 := P40.keep (fun j h1 h2 => o44 j (by omega))
        refine g_aload_n C 2 rfl dX5_sheet_265 ?_
        have hfe : s_max 10 (s_min 30 (s_M M 5 0 + s_M M 5 1)) = nI 30 := (by rw [feed_end, if_neg (show ¬ s_M M 5 0 + s_M M 5 1 < 10 from i_nlt c241), if_pos (show 30 < s_M M 5 0 + s_M M 5 1 from i_gt c256)] <;> rfl)
        have hM52 : el42 85 = .inr (5, [.int (s_end M 0), .int (s_end M 1), .int (s_end M 2), .int (s_end M 3), .int (s_end M 4), .int (s_end M 5), .ref (ad1 86), .ref (ad1 87), .ref (ad1 88), .ref (ad1 89), .ref (ad1 95), .ref (ad1 96)]) := by
          have e0 : s_end M 0 = nI 30 := hfe
          rw [e0]
          exact e43
        have hS1 : SimAt V ad1 el42 B cnt (s_end M) St (s_W St We 5) pl F T := b1.put hB hM52 (b1.2.2.1.keep ((o44 87 (by omega)).trans (o33 87 (by omega)))) (b1.2.2.2.1.keep ((o44 88 (by omega)).trans (o33 88 (by omega)))) (fun j hj h5 h7 h8 => (o44 j (by omega)).trans (o33 j (by omega)))
        exact g_aret C rfl dX5_sheet_266 ⟨rfl, fun j hj => ha3 j hj, hS1, (b2.keep (fun j h6 h7 => (o44 j (by omega)).trans (o33 j (by omega)))).cg (fun j hj => (if_pos (by omega)).symm), fun j hj h5 h7 h8 => (o44 j (by omega)).trans ((o33 j (by omega)).trans (b3 j hj h5 h7 h8))⟩ (Nat.le_of_ble_eq_true rfl) (Nat.le_of_ble_eq_true rfl)
    · -- 244
      refine g_aload_n C 1 rfl dX5_sheet_244 ?_
      refine g_bipush C (v := nI 10) dX5_sheet_245 (by decide) ?_
      refine g_putf C 85 (by omega) e32 rfl 0 (by decide) (fun w h => (List.mem_cons_of_mem _ (List.mem_append_right _ h))) tyX5 tyX5_ok nmX5 (List.mem_of_getElem? (i := 4) rfl) rfl rfl rfl rfl (Nat.le_of_ble_eq_true rfl) dX5_sheet_247 (fun el53 e54 o55 => ?_)
      replace e54 : el53 85 = .inr (5, [.int (nI 10), .int (s_M M 5 1), .int (s_M M 5 2), .int (s_M M 5 3), .int (s_M M 5 4), .int (s_M M 5 5), .ref (ad1 86), .ref (ad1 87), .ref (ad1 88), .ref (ad1 89), .ref (ad1 95), .ref (ad1 96)]) := e54
      have m56 := (o55 86 (by omega)).trans m34
      have m57 := (o55 87 (by omega)).trans m35
      have m58 := (o55 88 (by omega)).trans m36
      have m59 := (o55 89 (by omega)).trans m37
      have m60 := (o55 n (by omega)).trans m38
      have P61 := P39.keep (fun j h1 h2 => o55 j (by omega))
      have P62 := P40.keep (fun j h1 h2 => o55 j (by omega))
      refine g_aload_n C 1 rfl dX5_sheet_250 ?_
      refine g_getf C 85 (by omega) e54 rfl 0 (by decide) (fun w h => (List.mem_cons_of_mem _ (List.mem_append_right _ h))) (List.mem_of_getElem? (i := 4) rfl) rfl rfl dX5_sheet_251 ?_
      refine g_bipush C (v := nI 30) dX5_sheet_254 (by decide) ?_
      refine g_icmp_le C (tgt := 265) dX5_sheet_256 (by decide) (fun c256 => ?_) (fun c256 => ?_)
      rotate_left
      · exact absurd c256 (by decide)
      refine g_aload_n C 2 rfl dX5_sheet_265 ?_
      have hfe : s_max 10 (s_min 30 (s_M M 5 0 + s_M M 5 1)) = nI 10 := (by rw [feed_end, if_pos (show s_M M 5 0 + s_M M 5 1 < 10 from i_lt2 c241)] <;> rfl)
      have hM63 : el53 85 = .inr (5, [.int (s_end M 0), .int (s_end M 1), .int (s_end M 2), .int (s_end M 3), .int (s_end M 4), .int (s_end M 5), .ref (ad1 86), .ref (ad1 87), .ref (ad1 88), .ref (ad1 89), .ref (ad1 95), .ref (ad1 96)]) := by
        have e0 : s_end M 0 = nI 10 := hfe
        rw [e0]
        exact e54
      have hS1 : SimAt V ad1 el53 B cnt (s_end M) St (s_W St We 5) pl F T := b1.put hB hM63 (b1.2.2.1.keep ((o55 87 (by omega)).trans (o33 87 (by omega)))) (b1.2.2.2.1.keep ((o55 88 (by omega)).trans (o33 88 (by omega)))) (fun j hj h5 h7 h8 => (o55 j (by omega)).trans (o33 j (by omega)))
      exact g_aret C rfl dX5_sheet_266 ⟨rfl, fun j hj => ha3 j hj, hS1, (b2.keep (fun j h6 h7 => (o55 j (by omega)).trans (o33 j (by omega)))).cg (fun j hj => (if_pos (by omega)).symm), fun j hj h5 h7 h8 => (o55 j (by omega)).trans ((o33 j (by omega)).trans (b3 j hj h5 h7 h8))⟩ (Nat.le_of_ble_eq_true rfl) (Nat.le_of_ble_eq_true rfl)
  · -- loop 10: its body
    obtain ⟨b1, b2, b3⟩ := id h1
    obtain ⟨y64, y65, y66, y67, y68, y69, y70, y71⟩ := id b1
    obtain ⟨g72, h73, z74⟩ := id y65
    obtain ⟨g75, h76, z77⟩ := id y66
    obtain ⟨g78, h79, z80⟩ := id y67
    obtain ⟨⟨g81, h82, z83⟩, -⟩ := id y68
    obtain ⟨⟨g84, h85, z86⟩, -⟩ := id b2
    refine g_iload_n C 0 rfl dX5_sheet_10 ?_
    refine g_iconst C (v := nI 5) dX5_sheet_11 (by decide) ?_
    refine g_icmp_ge C (tgt := 222) dX5_sheet_12 (by decide) (fun c12 => ?_) (fun c12 => ?_)
    · -- 222
      have c12 : 5 ≤ i := (nI_leI (by omega) (by omega)).mp c12
      exact absurd c12 (by omega)
    · -- 15
      have c12 : i < 5 := Nat.lt_of_not_le (fun z => c12 ((nI_leI (by omega) (by omega)).mpr z))
      refine g_aload_n C 1 rfl dX5_sheet_15 ?_
      refine g_dup C dX5_sheet_16 rfl ?_
      refine g_getf C 85 (by omega) y64 rfl 2 (by decide) (fun w h => (List.mem_cons_of_mem _ (List.mem_append_right _ h))) (List.mem_of_getElem? (i := 3) rfl) rfl rfl dX5_sheet_17 ?_
      refine g_aload_n C 1 rfl dX5_sheet_20 ?_
      refine g_getf C 85 (by omega) y64 rfl 0 (by decide) (fun w h => (List.mem_cons_of_mem _ (List.mem_append_right _ h))) (List.mem_of_getElem? (i := 4) rfl) rfl rfl dX5_sheet_21 ?_
      refine g_bipush C (v := nI 20) dX5_sheet_24 (by decide) ?_
      refine g_isub C (v := (s_M M i 0) - 20) dX5_sheet_26 rfl ?_
      refine g_iadd C (v := (s_M M i 2) + ((s_M M i 0) - 20)) dX5_sheet_27 rfl ?_
      refine g_putf C 85 (by omega) y64 rfl 2 (by decide) (fun w h => (List.mem_cons_of_mem _ (List.mem_append_right _ h))) tyX5 tyX5_ok nmX5 (List.mem_of_getElem? (i := 3) rfl) rfl rfl rfl rfl (Nat.le_of_ble_eq_true rfl) dX5_sheet_28 (fun el87 e88 o89 => ?_)
      replace e88 : el87 85 = .inr (5, [.int (s_M M i 0), .int (s_M M i 1), .int ((s_M M i 2) + ((s_M M i 0) - 20)), .int (s_M M i 3), .int (s_M M i 4), .int (s_M M i 5), .ref (ad1 86), .ref (ad1 87), .ref (ad1 88), .ref (ad1 89), .ref (ad1 95), .ref (ad1 96)]) := e88
      have m90 := (o89 86 (by omega)).trans h73
      have m91 := (o89 87 (by omega)).trans h76
      have m92 := (o89 88 (by omega)).trans h79
      have m93 := (o89 89 (by omega)).trans h82
      have m94 := (o89 n (by omega)).trans h85
      have P95 := y68.keep (fun j h1 h2 => o89 j (by omega))
      have P96 := b2.keep (fun j h1 h2 => o89 j (by omega))
      have hM97 : el87 85 = .inr (5, [.int ((s_err (s_M M i)) 0), .int ((s_err (s_M M i)) 1), .int ((s_err (s_M M i)) 2), .int ((s_err (s_M M i)) 3), .int ((s_err (s_M M i)) 4), .int ((s_err (s_M M i)) 5), .ref (ad1 86), .ref (ad1 87), .ref (ad1 88), .ref (ad1 89), .ref (ad1 95), .ref (ad1 96)]) := e88
      have hne : ¬ (s_err (s_M M i)) 4 = 0 := fun z => by
          have e4 : (s_err (s_M M i)) 4 = M 4 := s_M_4 M i
          rw [e4] at z
          rw [z] at h4
          exact absurd h4 (by decide)
      refine g_iconst C (v := nI 0) dX5_sheet_31 (by decide) ?_
      refine g_istore_n C (lv' := [(3, .int (nI 0)), (2, .int (nI i)), (0, .ref (ad1 85)), (1, .ref (ad1 n))]) dX5_sheet_32 (by decide) rfl ?_
      refine g_lv [0, 2, 3, 1] (lv' := [(3, .int (nI 0)), (0, .ref (ad1 85)), (1, .ref (ad1 n)), (2, .int (nI i))]) rfl ?_
      have hr98 : ArrI V el87 (n + 1 + i) 6 (fun q => if q < 0 then s_stamp (s_err (s_M M i)) St (s_W St We i) pl i q else 0) := (P96.2 i hi).cg (fun q hq => by (try dsimp only); rw [if_neg (by omega), if_neg (by omega)])
      refine g_forE 6 (fun (j : Nat) => [(3, .int (nI j)), (0, .ref (ad1 85)), (1, .ref (ad1 n)), (2, .int (nI i))]) (fun j el2 => ArrI V el2 (n + 1 + i) 6 (fun q => if q < j then s_stamp (s_err (s_M M i)) St (s_W St We i) pl i q else 0) ∧ ∀ j, j ≠ n + 1 + i → el2 j = el87 j) ⟨hr98, fun j _ => rfl⟩ (fun el2 h2 => ?_) (fun j el2 hj h2 jh => ?_)
      · -- loop 33: its end
        obtain ⟨d1, d2⟩ := id h2
        have m99 := (d2 (86) (by omega)).trans m90
        have m100 := (d2 (87) (by omega)).trans m91
        have m101 := (d2 (88) (by omega)).trans m92
        have m102 := (d2 (89) (by omega)).trans m93
        have m103 := (d2 (n) (by omega)).trans m94
        have m104 := (d2 (85) (by omega)).trans hM97
        have P105 := P95.keep (fun j h1 h2 => d2 (j) (by omega))
        obtain ⟨g106, h107, z108⟩ := id d1
        refine g_iload_n C 0 rfl dX5_sheet_33 ?_
        refine g_bipush C (v := nI 6) dX5_sheet_34 (by decide) ?_
        refine g_icmp_ge C (tgt := 134) dX5_sheet_36 (by decide) (fun c36 => ?_) (fun c36 => ?_)
        rotate_left
        · exact absurd c36 (by decide)
        refine g_iconst C (v := nI 0) dX5_sheet_134 (by decide) ?_
        refine g_istore_n C (lv' := [(3, .int (nI 0)), (0, .ref (ad1 85)), (1, .ref (ad1 n)), (2, .int (nI i))]) dX5_sheet_135 (by decide) rfl ?_
        refine g_lv [0, 1, 2, 3] (lv' := [(3, .int (nI 0)), (0, .ref (ad1 85)), (1, .ref (ad1 n)), (2, .int (nI i))]) rfl ?_
        have hmd : RwI V ad1 el2 n (fun j => if j < 6 * (i + 1) then s_fault M St We pl j else 0) := by
          obtain ⟨o1, o2⟩ := P96
          refine ⟨o1.keep (d2 _ (by omega)), fun r hr => ?_⟩
          by_cases e : r = i
          · subst e
            exact d1.cg (fun q hq => by (try dsimp only); rw [if_pos (by omega), if_pos hq, s_fault_at hq])
          · exact ((o2 r hr).keep (d2 _ (by omega))).cg (fun q hq => by
              (try dsimp only)
              by_cases e2 : 6 * r + q < 6 * i
              · rw [if_pos e2, if_pos (by omega)]
              · rw [if_neg e2, if_neg (by omega)])
        have h109 : ArrI V el2 87 7 (s_W St We i) := ⟨_, m100, z77⟩
        have h110 : ArrZ V el2 88 7 (fun q => s_bk (St q) ((s_W St We i) q)) := ⟨_, m101, z80⟩
        refine g_forE 7 (fun (k : Nat) => [(3, .int (nI k)), (0, .ref (ad1 85)), (1, .ref (ad1 n)), (2, .int (nI i))]) (fun k el3 => ArrI V el3 87 7 (fun q => if q < k then s_rowW St (s_W St We i) q else (s_W St We i) q) ∧ ArrZ V el3 88 7 (fun q => if q < k then s_bk (St q) (s_rowW St (s_W St We i) q) else s_bk (St q) ((s_W St We i) q)) ∧ ∀ j, j ≠ 87 → j ≠ 88 → el3 j = el2 j) ⟨h109.cg (fun q hq => if_neg (by omega)), h110.cg (fun q hq => if_neg (by omega)), fun j _ _ => rfl⟩ (fun el3 h3 => ?_) (fun k el3 hk h3 kh => ?_)
        · -- loop 136: its end
          obtain ⟨k1, k2, k3⟩ := id h3
          have m111 := (k3 (86) (by omega) (by omega)).trans m99
          have m112 := (k3 (85) (by omega) (by omega)).trans m104
          refine g_iload_n C 0 rfl dX5_sheet_136 ?_
          refine g_bipush C (v := nI 7) dX5_sheet_137 (by decide) ?_
          refine g_icmp_ge C (tgt := 196) dX5_sheet_139 (by decide) (fun c139 => ?_) (fun c139 => ?_)
          rotate_left
          · exact absurd c139 (by decide)
          refine g_aload_n C 1 rfl dX5_sheet_196 ?_
          refine g_dup C dX5_sheet_197 rfl ?_
          refine g_getf C 85 (by omega) m112 rfl 3 (by decide) (fun w h => (List.mem_cons_of_mem _ (List.mem_append_right _ h))) (List.mem_of_getElem? (i := 11) rfl) rfl rfl dX5_sheet_198 ?_
          refine g_iconst C (v := nI 1) dX5_sheet_201 (by decide) ?_
          refine g_isub C (v := ((s_err (s_M M i)) 3) - 1) dX5_sheet_202 rfl ?_
          refine g_putf C 85 (by omega) m112 rfl 3 (by decide) (fun w h => (List.mem_cons_of_mem _ (List.mem_append_right _ h))) tyX5 tyX5_ok nmX5 (List.mem_of_getElem? (i := 11) rfl) rfl rfl rfl rfl (Nat.le_of_ble_eq_true rfl) dX5_sheet_203 (fun el113 e114 o115 => ?_)
          replace e114 : el113 85 = .inr (5, [.int ((s_err (s_M M i)) 0), .int ((s_err (s_M M i)) 1), .int ((s_err (s_M M i)) 2), .int (((s_err (s_M M i)) 3) - 1), .int ((s_err (s_M M i)) 4), .int ((s_err (s_M M i)) 5), .ref (ad1 86), .ref (ad1 87), .ref (ad1 88), .ref (ad1 89), .ref (ad1 95), .ref (ad1 96)]) := e114
          have m116 := (o115 86 (by omega)).trans m111
          refine g_aload_n C 1 rfl dX5_sheet_206 ?_
          refine g_dup C dX5_sheet_207 rfl ?_
          refine g_getf C 85 (by omega) e114 rfl 5 (by decide) (fun w h => (List.mem_cons_of_mem _ (List.mem_append_right _ h))) (List.mem_of_getElem? (i := 7) rfl) rfl rfl dX5_sheet_208 ?_
          refine g_iconst C (v := nI 1) dX5_sheet_211 (by decide) ?_
          refine g_iadd C (v := ((s_err (s_M M i)) 5) + 1) dX5_sheet_212 rfl ?_
          refine g_putf C 85 (by omega) e114 rfl 5 (by decide) (fun w h => (List.mem_cons_of_mem _ (List.mem_append_right _ h))) tyX5 tyX5_ok nmX5 (List.mem_of_getElem? (i := 7) rfl) rfl rfl rfl rfl (Nat.le_of_ble_eq_true rfl) dX5_sheet_213 (fun el117 e118 o119 => ?_)
          replace e118 : el117 85 = .inr (5, [.int ((s_err (s_M M i)) 0), .int ((s_err (s_M M i)) 1), .int ((s_err (s_M M i)) 2), .int (((s_err (s_M M i)) 3) - 1), .int ((s_err (s_M M i)) 4), .int (((s_err (s_M M i)) 5) + 1), .ref (ad1 86), .ref (ad1 87), .ref (ad1 88), .ref (ad1 89), .ref (ad1 95), .ref (ad1 96)]) := e118
          have m120 := (o119 86 (by omega)).trans m116
          refine g_iinc C 3 rfl (v := nI (i + 1)) (lv' := [(2, .int (nI (i + 1))), (3, .int (nI 7)), (0, .ref (ad1 85)), (1, .ref (ad1 n))]) dX5_sheet_216 (nI_add _ _) (by decide) rfl ?_
          refine g_goto C (tgt := 10) dX5_sheet_219 (by decide) ?_
          refine g_lv [0, 2, 3] (lv' := [(2, .int (nI (i + 1))), (0, .ref (ad1 85)), (1, .ref (ad1 n))]) rfl ?_
          have hW1 : ArrI V el117 87 7 (s_W St We (i + 1)) := (k1.keep ((o119 87 (by omega)).trans (o115 87 (by omega)))).cg (fun q hq => by (try dsimp only); rw [if_pos hq]; rfl)
          have hB1 : ArrZ V el117 88 7 (fun q => s_bk (St q) (s_W St We (i + 1) q)) := (k2.keep ((o119 88 (by omega)).trans (o115 88 (by omega)))).cg (fun q hq => by (try dsimp only); rw [if_pos hq]; rfl)
          have hS1 : SimAt V ad1 el117 B cnt (s_M M (i + 1)) St (s_W St We (i + 1)) pl F T := b1.put hB e118 hW1 hB1 (fun j hj h5 h7 h8 => (o119 j (by omega)).trans ((o115 j (by omega)).trans ((k3 j (by omega) (by omega)).trans ((d2 j (by omega)).trans ((o89 j (by omega)).trans rfl)))))
          exact ih _ ⟨hS1, hmd.keep (fun j h6 h7 => (o119 j (by omega)).trans ((o115 j (by omega)).trans (k3 j (by omega) (by omega)))), fun j hj h5 h7 h8 => (o119 j (by omega)).trans ((o115 j (by omega)).trans ((k3 j (by omega) (by omega)).trans ((d2 j (by omega)).trans ((o89 j (by omega)).trans (b3 j hj h5 h7 h8)))))⟩
        · -- loop 136: its body
          obtain ⟨k1, k2, k3⟩ := id h3
          have m121 := (k3 (86) (by omega) (by omega)).trans m99
          have m122 := (k3 (85) (by omega) (by omega)).trans m104
          obtain ⟨g123, h124, z125⟩ := id k1
          obtain ⟨g126, h127, z128⟩ := id k2
          refine g_iload_n C 0 rfl dX5_sheet_136 ?_
          refine g_bipush C (v := nI 7) dX5_sheet_137 (by decide) ?_
          refine g_icmp_ge C (tgt := 196) dX5_sheet_139 (by decide) (fun c139 => ?_) (fun c139 => ?_)
          · -- 196
            have c139 : 7 ≤ k := (nI_leI (by omega) (by omega)).mp c139
            exact absurd c139 (by omega)
          · -- 142
            have c139 : k < 7 := Nat.lt_of_not_le (fun z => c139 ((nI_leI (by omega) (by omega)).mpr z))
            refine g_aload_n C 1 rfl dX5_sheet_142 ?_
            refine g_getf C 85 (by omega) m122 rfl 8 (by decide) (fun w h => (List.mem_cons_of_mem _ (List.mem_append_right _ h))) (List.mem_of_getElem? (i := 5) rfl) rfl rfl dX5_sheet_143 ?_
            refine g_iload_n C 0 rfl dX5_sheet_146 ?_
            refine g_zald C 88 (by omega) h127 k rfl (by omega) (by decide) dX5_sheet_147 ?_
            refine g_top (((z128 k (by omega)).trans (if_neg (Nat.lt_irrefl k))) : g126 k = s_bk (St k) ((s_W St We i) k)) ?_
            refine g_if_eq C (tgt := 154) dX5_sheet_148 (by decide) (fun c148 => ?_) (fun c148 => ?_)
            · -- 154
              refine g_aload_n C 1 rfl dX5_sheet_154 ?_
              refine g_getf C 85 (by omega) m122 rfl 7 (by decide) (fun w h => (List.mem_cons_of_mem _ (List.mem_append_right _ h))) (List.mem_of_getElem? (i := 9) rfl) rfl rfl dX5_sheet_155 ?_
              refine g_iload_n C 0 rfl dX5_sheet_158 ?_
              refine g_dup2 C dX5_sheet_159 rfl rfl ?_
              refine g_iald C 87 (by omega) h124 k rfl (by omega) (by decide) dX5_sheet_160 ?_
              refine g_top (((z125 k (by omega)).trans (if_neg (Nat.lt_irrefl k))) : g123 k = (s_W St We i) k) ?_
              refine g_iconst C (v := nI 1) dX5_sheet_161 (by decide) ?_
              refine g_iadd C (v := ((s_W St We i) k) + 1) dX5_sheet_162 rfl ?_
              refine g_iast C 87 (by omega) h124 k rfl (by omega) (by decide) dX5_sheet_163 (fun el129 e130 o131 => ?_)
              have m132 := (o131 86 (by omega)).trans m121
              have m133 := (o131 85 (by omega)).trans m122
              have m134 := (o131 88 (by omega)).trans h127
              refine g_aload_n C 1 rfl dX5_sheet_164 ?_
              refine g_getf C 85 (by omega) m133 rfl 8 (by decide) (fun w h => (List.mem_cons_of_mem _ (List.mem_append_right _ h))) (List.mem_of_getElem? (i := 5) rfl) rfl rfl dX5_sheet_165 ?_
              refine g_iload_n C 0 rfl dX5_sheet_168 ?_
              refine g_aload_n C 1 rfl dX5_sheet_169 ?_
              refine g_getf C 85 (by omega) m133 rfl 7 (by decide) (fun w h => (List.mem_cons_of_mem _ (List.mem_append_right _ h))) (List.mem_of_getElem? (i := 9) rfl) rfl rfl dX5_sheet_170 ?_
              refine g_iload_n C 0 rfl dX5_sheet_173 ?_
              refine g_iald C 87 (by omega) e130 k rfl (by omega) (by decide) dX5_sheet_174 ?_
              refine g_top (pk_us : (upd g123 k (((s_W St We i) k) + 1)) k = (s_W St We i) k + 1) ?_
              refine g_aload_n C 1 rfl dX5_sheet_175 ?_
              refine g_getf C 85 (by omega) m133 rfl 6 (by decide) (fun w h => (List.mem_cons_of_mem _ (List.mem_append_right _ h))) (List.mem_of_getElem? (i := 10) rfl) rfl rfl dX5_sheet_176 ?_
              refine g_iload_n C 0 rfl dX5_sheet_179 ?_
              refine g_iald C 86 (by omega) m132 k rfl (by omega) (by decide) dX5_sheet_180 ?_
              refine g_top ((z74 k (by omega)) : g72 k = St k) ?_
              refine g_via (fun v : Int32 => v = s_bk (St k) ((s_W St We i) k + 1)) 189 (fun _ => [(3, .int (nI k)), (0, .ref (ad1 85)), (1, .ref (ad1 n)), (2, .int (nI i))]) (fun v => .int v :: [.int (nI k), .ref (ad1 88)]) (fun v hv => ?_) (fun J => ?_)
              · -- join
                subst hv
                refine g_zast C 88 (by omega) m134 k rfl (by omega) (by decide) (s_bk_nar _ _) dX5_sheet_189 (fun el135 e136 o137 => ?_)
                have m138 := (o137 86 (by omega)).trans m132
                have m139 := (o137 85 (by omega)).trans m133
                have m140 := (o137 87 (by omega)).trans e130
                refine g_iinc C 0 rfl (v := nI (k + 1)) (lv' := [(3, .int (nI (k + 1))), (0, .ref (ad1 85)), (1, .ref (ad1 n)), (2, .int (nI i))]) dX5_sheet_190 (nI_add _ _) (by decide) rfl ?_
                refine g_goto C (tgt := 136) dX5_sheet_193 (by decide) ?_
                refine g_lv [0, 1, 2, 3] (lv' := [(3, .int (nI (k + 1))), (0, .ref (ad1 85)), (1, .ref (ad1 n)), (2, .int (nI i))]) rfl ?_
                have e9 : s_rowW St (s_W St We i) k = (s_W St We i) k + 1 := if_pos (s_bk_0 c148)
                exact kh _ ⟨⟨_, m140, fun q hq => by
                    (try dsimp only)
                    by_cases e : q = k
                    · subst e; rw [pk_us, if_pos (by omega), e9]
                    · rw [pk_un e, z125 q hq]
                      (try dsimp only)
                      by_cases e2 : q < k
                      · rw [if_pos e2, if_pos (by omega)]
                      · rw [if_neg e2, if_neg (by omega)]⟩, ⟨_, e136, fun q hq => by
                    (try dsimp only)
                    by_cases e : q = k
                    · subst e; rw [pk_us, if_pos (by omega), e9]
                    · rw [pk_un e, z128 q hq]
                      (try dsimp only)
                      by_cases e2 : q < k
                      · rw [if_pos e2, if_pos (by omega)]
                      · rw [if_neg e2, if_neg (by omega)]⟩, fun j h7 h8 => (o137 j h8).trans ((o131 j h7).trans (k3 j h7 h8))⟩
              · -- ways
                refine g_icmp_le C (tgt := 188) dX5_sheet_181 (by decide) (fun c181 => ?_) (fun c181 => ?_)
                · -- 188
                  refine g_iconst C (v := nI 0) dX5_sheet_188 (by decide) ?_
                  refine g_lv [0, 1, 2, 3] (lv' := [(3, .int (nI k)), (0, .ref (ad1 85)), (1, .ref (ad1 n)), (2, .int (nI i))]) rfl ?_
                  exact J _ ((if_pos c181).symm)
                · -- 184
                  refine g_iconst C (v := nI 1) dX5_sheet_184 (by decide) ?_
                  refine g_goto C (tgt := 189) dX5_sheet_185 (by decide) ?_
                  refine g_lv [0, 1, 2, 3] (lv' := [(3, .int (nI k)), (0, .ref (ad1 85)), (1, .ref (ad1 n)), (2, .int (nI i))]) rfl ?_
                  exact J _ ((if_neg c181).symm)
            · -- 151
              refine g_goto C (tgt := 190) dX5_sheet_151 (by decide) ?_
              refine g_iinc C 0 rfl (v := nI (k + 1)) (lv' := [(3, .int (nI (k + 1))), (0, .ref (ad1 85)), (1, .ref (ad1 n)), (2, .int (nI i))]) dX5_sheet_190 (nI_add _ _) (by decide) rfl ?_
              refine g_goto C (tgt := 136) dX5_sheet_193 (by decide) ?_
              refine g_lv [0, 1, 2, 3] (lv' := [(3, .int (nI (k + 1))), (0, .ref (ad1 85)), (1, .ref (ad1 n)), (2, .int (nI i))]) rfl ?_
              have e9 : s_rowW St (s_W St We i) k = (s_W St We i) k := if_neg (s_bk_1 c148)
              exact kh _ ⟨⟨_, h124, fun q hq => by
                  (try dsimp only)
                  by_cases e : q = k
                  · subst e; rw [z125 q hq]; (try dsimp only); rw [if_neg (Nat.lt_irrefl q), if_pos (by omega), e9]
                  · rw [z125 q hq]
                    (try dsimp only)
                    by_cases e2 : q < k
                    · rw [if_pos e2, if_pos (by omega)]
                    · rw [if_neg e2, if_neg (by omega)]⟩, ⟨_, h127, fun q hq => by
                  (try dsimp only)
                  by_cases e : q = k
                  · subst e; rw [z128 q hq]; (try dsimp only); rw [if_neg (Nat.lt_irrefl q), if_pos (by omega), e9]
                  · rw [z128 q hq]
                    (try dsimp only)
                    by_cases e2 : q < k
                    · rw [if_pos e2, if_pos (by omega)]
                    · rw [if_neg e2, if_neg (by omega)]⟩, k3⟩
      · -- loop 33: its body
        obtain ⟨d1, d2⟩ := id h2
        have m141 := (d2 (86) (by omega)).trans m90
        have m142 := (d2 (87) (by omega)).trans m91
        have m143 := (d2 (88) (by omega)).trans m92
        have m144 := (d2 (89) (by omega)).trans m93
        have m145 := (d2 (n) (by omega)).trans m94
        have m146 := (d2 (85) (by omega)).trans hM97
        have P147 := P95.keep (fun j h1 h2 => d2 (j) (by omega))
        obtain ⟨g148, h149, z150⟩ := id d1
        refine g_iload_n C 0 rfl dX5_sheet_33 ?_
        refine g_bipush C (v := nI 6) dX5_sheet_34 (by decide) ?_
        refine g_icmp_ge C (tgt := 134) dX5_sheet_36 (by decide) (fun c36 => ?_) (fun c36 => ?_)
        · -- 134
          have c36 : 6 ≤ j := (nI_leI (by omega) (by omega)).mp c36
          exact absurd c36 (by omega)
        · -- 39
          have c36 : j < 6 := Nat.lt_of_not_le (fun z => c36 ((nI_leI (by omega) (by omega)).mpr z))
          refine g_aload_n C 1 rfl dX5_sheet_39 ?_
          refine g_getf C 85 (by omega) m146 rfl 2 (by decide) (fun w h => (List.mem_cons_of_mem _ (List.mem_append_right _ h))) (List.mem_of_getElem? (i := 3) rfl) rfl rfl dX5_sheet_40 ?_
          refine g_bipush C (v := nI 6) dX5_sheet_43 (by decide) ?_
          refine g_via (fun v : Int32 => v = s_offF (s_err (s_M M i))) 62 (fun _ => [(3, .int (nI j)), (0, .ref (ad1 85)), (1, .ref (ad1 n)), (2, .int (nI i))]) (fun v => .int v :: []) (fun v hv => ?_) (fun J => ?_)
          · -- join
            subst hv
            refine g_istore C (lv' := [(4, .int (s_offF (s_err (s_M M i)))), (3, .int (nI j)), (0, .ref (ad1 85)), (1, .ref (ad1 n)), (2, .int (nI i))]) dX5_sheet_62 (by decide) rfl ?_
            refine g_aload_n C 2 rfl dX5_sheet_64 ?_
            refine g_getf C 85 (by omega) m146 rfl 8 (by decide) (fun w h => (List.mem_cons_of_mem _ (List.mem_append_right _ h))) (List.mem_of_getElem? (i := 5) rfl) rfl rfl dX5_sheet_65 ?_
            refine g_iload_n C 1 rfl dX5_sheet_68 ?_
            refine g_zald C 88 (by omega) m143 j rfl (by omega) (by decide) dX5_sheet_69 ?_
            refine g_top ((z80 j (by omega)) : g78 j = s_bk (St j) ((s_W St We i) j)) ?_
            refine g_via (fun v : Int32 => v = s_ad (s_bk (St j) ((s_W St We i) j)) (s_offF (s_err (s_M M i))) 2) 76 (fun v => [(4, .int v), (3, .int (nI j)), (0, .ref (ad1 85)), (1, .ref (ad1 n)), (2, .int (nI i))]) (fun _ => []) (fun v hv => ?_) (fun J => ?_)
            · -- join
              subst hv
              refine g_aload_n C 2 rfl dX5_sheet_76 ?_
              refine g_getf C 85 (by omega) m146 rfl 8 (by decide) (fun w h => (List.mem_cons_of_mem _ (List.mem_append_right _ h))) (List.mem_of_getElem? (i := 5) rfl) rfl rfl dX5_sheet_77 ?_
              refine g_iload_n C 1 rfl dX5_sheet_80 ?_
              refine g_iconst C (v := nI 1) dX5_sheet_81 (by decide) ?_
              refine g_iadd C (v := nI (j + 1)) dX5_sheet_82 (nI_add _ _) ?_
              refine g_zald C 88 (by omega) m143 (j + 1) rfl (by omega) (by decide) dX5_sheet_83 ?_
              refine g_top ((z80 (j + 1) (by omega)) : g78 (j + 1) = s_bk (St (j + 1)) ((s_W St We i) (j + 1))) ?_
              refine g_via (fun v : Int32 => v = s_ad (s_bk (St (j + 1)) ((s_W St We i) (j + 1))) (s_ad (s_bk (St j) ((s_W St We i) j)) (s_offF (s_err (s_M M i))) 2) 4) 90 (fun v => [(4, .int v), (3, .int (nI j)), (0, .ref (ad1 85)), (1, .ref (ad1 n)), (2, .int (nI i))]) (fun _ => []) (fun v hv => ?_) (fun J => ?_)
              · -- join
                subst hv
                refine g_aload_n C 2 rfl dX5_sheet_90 ?_
                refine g_getf C 85 (by omega) m146 rfl 9 (by decide) (fun w h => (List.mem_cons_of_mem _ (List.mem_append_right _ h))) (List.mem_of_getElem? (i := 6) rfl) rfl rfl dX5_sheet_91 ?_
                refine g_iload_n C 4 rfl dX5_sheet_94 ?_
                refine g_aaldA C 89 (by omega) 6 rfl m144 i rfl (by omega) (by decide) (z83 i (by omega)) dX5_sheet_95 ?_
                obtain ⟨g151, h152, z153⟩ := id (P147.2 i (by omega))
                refine g_iload_n C 1 rfl dX5_sheet_96 ?_
                refine g_zald C (90 + i) (by omega) h152 j rfl (by omega) (by decide) dX5_sheet_97 ?_
                refine g_top ((z153 j (by omega)) : g151 j = pl (6 * i + j)) ?_
                refine g_via (fun v : Int32 => v = s_ad (pl (6 * i + j)) (s_ad (s_bk (St (j + 1)) ((s_W St We i) (j + 1))) (s_ad (s_bk (St j) ((s_W St We i) j)) (s_offF (s_err (s_M M i))) 2) 4) 8) 104 (fun v => [(4, .int v), (3, .int (nI j)), (0, .ref (ad1 85)), (1, .ref (ad1 n)), (2, .int (nI i))]) (fun _ => []) (fun v hv => ?_) (fun J => ?_)
                · -- join
                  subst hv
                  refine g_aload_n C 2 rfl dX5_sheet_104 ?_
                  refine g_getf C 85 (by omega) m146 rfl 5 (by decide) (fun w h => (List.mem_cons_of_mem _ (List.mem_append_right _ h))) (List.mem_of_getElem? (i := 7) rfl) rfl rfl dX5_sheet_105 ?_
                  refine g_iload_n C 1 rfl dX5_sheet_108 ?_
                  refine g_iadd C (v := ((s_err (s_M M i)) 5) + (nI j)) dX5_sheet_109 rfl ?_
                  refine g_aload_n C 2 rfl dX5_sheet_110 ?_
                  refine g_getf C 85 (by omega) m146 rfl 4 (by decide) (fun w h => (List.mem_cons_of_mem _ (List.mem_append_right _ h))) (List.mem_of_getElem? (i := 8) rfl) rfl rfl dX5_sheet_111 ?_
                  refine g_irem C (v := (((s_err (s_M M i)) 5) + (nI j)) - (((s_err (s_M M i)) 5) + (nI j)) / ((s_err (s_M M i)) 4) * ((s_err (s_M M i)) 4)) dX5_sheet_114 hne rfl ?_
                  refine g_via (fun v : Int32 => v = s_ad ((((s_err (s_M M i)) 5) + (nI j)) - (((s_err (s_M M i)) 5) + (nI j)) / ((s_err (s_M M i)) 4) * ((s_err (s_M M i)) 4)) (s_ad (pl (6 * i + j)) (s_ad (s_bk (St (j + 1)) ((s_W St We i) (j + 1))) (s_ad (s_bk (St j) ((s_W St We i) j)) (s_offF (s_err (s_M M i))) 2) 4) 8) 16) 121 (fun v => [(4, .int v), (3, .int (nI j)), (0, .ref (ad1 85)), (1, .ref (ad1 n)), (2, .int (nI i))]) (fun _ => []) (fun v hv => ?_) (fun J => ?_)
                  · -- join
                    subst hv
                    refine g_aload_n C 3 rfl dX5_sheet_121 ?_
                    refine g_iload_n C 4 rfl dX5_sheet_122 ?_
                    refine g_aaldA C n (by omega) 5 rfl m145 i rfl (by omega) (by decide) (z86 i (by omega)) dX5_sheet_123 ?_
                    refine g_iload_n C 1 rfl dX5_sheet_124 ?_
                    refine g_iload C 0 rfl dX5_sheet_125 ?_
                    refine g_iast C (n + 1 + i) (by omega) h149 j rfl (by omega) (by decide) dX5_sheet_127 (fun el154 e155 o156 => ?_)
                    have m157 := (o156 86 (by omega)).trans m141
                    have m158 := (o156 87 (by omega)).trans m142
                    have m159 := (o156 88 (by omega)).trans m143
                    have m160 := (o156 89 (by omega)).trans m144
                    have m161 := (o156 n (by omega)).trans m145
                    have m162 := (o156 85 (by omega)).trans m146
                    have m163 := (o156 (90 + i) (by omega)).trans h152
                    have P164 := P147.keep (fun j h1 h2 => o156 j (by omega))
                    refine g_iinc C 1 rfl (v := nI (j + 1)) (lv' := [(3, .int (nI (j + 1))), (4, .int (s_ad ((((s_err (s_M M i)) 5) + (nI j)) - (((s_err (s_M M i)) 5) + (nI j)) / ((s_err (s_M M i)) 4) * ((s_err (s_M M i)) 4)) (s_ad (pl (6 * i + j)) (s_ad (s_bk (St (j + 1)) ((s_W St We i) (j + 1))) (s_ad (s_bk (St j) ((s_W St We i) j)) (s_offF (s_err (s_M M i))) 2) 4) 8) 16)), (0, .ref (ad1 85)), (1, .ref (ad1 n)), (2, .int (nI i))]) dX5_sheet_128 (nI_add _ _) (by decide) rfl ?_
                    refine g_goto C (tgt := 33) dX5_sheet_131 (by decide) ?_
                    refine g_lv [0, 2, 3, 4] (lv' := [(3, .int (nI (j + 1))), (0, .ref (ad1 85)), (1, .ref (ad1 n)), (2, .int (nI i))]) rfl ?_
                    have e9 : (s_ad ((((s_err (s_M M i)) 5) + (nI j)) - (((s_err (s_M M i)) 5) + (nI j)) / ((s_err (s_M M i)) 4) * ((s_err (s_M M i)) 4)) (s_ad (pl (6 * i + j)) (s_ad (s_bk (St (j + 1)) ((s_W St We i) (j + 1))) (s_ad (s_bk (St j) ((s_W St We i) j)) (s_offF (s_err (s_M M i))) 2) 4) 8) 16) = s_stamp (s_err (s_M M i)) St (s_W St We i) pl i j := s_stamp_ad (s_err (s_M M i)) St (s_W St We i) pl i j (by rw [show (s_err (s_M M i)) 4 = M 4 from s_M_4 M i]; exact h4)
                    exact jh _ ⟨⟨_, e155, fun q hq => by
                        (try dsimp only)
                        by_cases e : q = j
                        · subst e; rw [pk_us, if_pos (by omega)]; exact e9
                        · rw [pk_un e, z150 q hq]
                          (try dsimp only)
                          by_cases e2 : q < j
                          · rw [if_pos e2, if_pos (by omega)]
                          · rw [if_neg e2, if_neg (by omega)]⟩, fun k hk => (o156 k hk).trans (d2 k hk)⟩
                  · -- ways
                    refine g_if_eq C (tgt := 121) dX5_sheet_115 (by decide) (fun c115 => ?_) (fun c115 => ?_)
                    · -- 121
                      refine g_lv [0, 1, 2, 3, 4] (lv' := [(4, .int (s_ad (pl (6 * i + j)) (s_ad (s_bk (St (j + 1)) ((s_W St We i) (j + 1))) (s_ad (s_bk (St j) ((s_W St We i) j)) (s_offF (s_err (s_M M i))) 2) 4) 8)), (3, .int (nI j)), (0, .ref (ad1 85)), (1, .ref (ad1 n)), (2, .int (nI i))]) rfl ?_
                      exact J _ ((if_pos c115).symm)
                    · -- 118
                      refine g_iinc C 0 rfl (v := (s_ad (pl (6 * i + j)) (s_ad (s_bk (St (j + 1)) ((s_W St We i) (j + 1))) (s_ad (s_bk (St j) ((s_W St We i) j)) (s_offF (s_err (s_M M i))) 2) 4) 8) + 16) (lv' := [(4, .int ((s_ad (pl (6 * i + j)) (s_ad (s_bk (St (j + 1)) ((s_W St We i) (j + 1))) (s_ad (s_bk (St j) ((s_W St We i) j)) (s_offF (s_err (s_M M i))) 2) 4) 8) + 16)), (3, .int (nI j)), (0, .ref (ad1 85)), (1, .ref (ad1 n)), (2, .int (nI i))]) dX5_sheet_118 rfl (by decide) rfl ?_
                      refine g_lv [0, 1, 2, 3, 4] (lv' := [(4, .int ((s_ad (pl (6 * i + j)) (s_ad (s_bk (St (j + 1)) ((s_W St We i) (j + 1))) (s_ad (s_bk (St j) ((s_W St We i) j)) (s_offF (s_err (s_M M i))) 2) 4) 8) + 16)), (3, .int (nI j)), (0, .ref (ad1 85)), (1, .ref (ad1 n)), (2, .int (nI i))]) rfl ?_
                      exact J _ ((if_neg c115).symm)
                · -- ways
                  refine g_if_eq C (tgt := 104) dX5_sheet_98 (by decide) (fun c98 => ?_) (fun c98 => ?_)
                  · -- 104
                    refine g_lv [0, 1, 2, 3, 4] (lv' := [(4, .int (s_ad (s_bk (St (j + 1)) ((s_W St We i) (j + 1))) (s_ad (s_bk (St j) ((s_W St We i) j)) (s_offF (s_err (s_M M i))) 2) 4)), (3, .int (nI j)), (0, .ref (ad1 85)), (1, .ref (ad1 n)), (2, .int (nI i))]) rfl ?_
                    exact J _ ((if_pos c98).symm)
                  · -- 101
                    refine g_iinc C 0 rfl (v := (s_ad (s_bk (St (j + 1)) ((s_W St We i) (j + 1))) (s_ad (s_bk (St j) ((s_W St We i) j)) (s_offF (s_err (s_M M i))) 2) 4) + 8) (lv' := [(4, .int ((s_ad (s_bk (St (j + 1)) ((s_W St We i) (j + 1))) (s_ad (s_bk (St j) ((s_W St We i) j)) (s_offF (s_err (s_M M i))) 2) 4) + 8)), (3, .int (nI j)), (0, .ref (ad1 85)), (1, .ref (ad1 n)), (2, .int (nI i))]) dX5_sheet_101 rfl (by decide) rfl ?_
                    refine g_lv [0, 1, 2, 3, 4] (lv' := [(4, .int ((s_ad (s_bk (St (j + 1)) ((s_W St We i) (j + 1))) (s_ad (s_bk (St j) ((s_W St We i) j)) (s_offF (s_err (s_M M i))) 2) 4) + 8)), (3, .int (nI j)), (0, .ref (ad1 85)), (1, .ref (ad1 n)), (2, .int (nI i))]) rfl ?_
                    exact J _ ((if_neg c98).symm)
              · -- ways
                refine g_if_eq C (tgt := 90) dX5_sheet_84 (by decide) (fun c84 => ?_) (fun c84 => ?_)
                · -- 90
                  refine g_lv [0, 1, 2, 3, 4] (lv' := [(4, .int (s_ad (s_bk (St j) ((s_W St We i) j)) (s_offF (s_err (s_M M i))) 2)), (3, .int (nI j)), (0, .ref (ad1 85)), (1, .ref (ad1 n)), (2, .int (nI i))]) rfl ?_
                  exact J _ ((if_pos c84).symm)
                · -- 87
                  refine g_iinc C 0 rfl (v := (s_ad (s_bk (St j) ((s_W St We i) j)) (s_offF (s_err (s_M M i))) 2) + 4) (lv' := [(4, .int ((s_ad (s_bk (St j) ((s_W St We i) j)) (s_offF (s_err (s_M M i))) 2) + 4)), (3, .int (nI j)), (0, .ref (ad1 85)), (1, .ref (ad1 n)), (2, .int (nI i))]) dX5_sheet_87 rfl (by decide) rfl ?_
                  refine g_lv [0, 1, 2, 3, 4] (lv' := [(4, .int ((s_ad (s_bk (St j) ((s_W St We i) j)) (s_offF (s_err (s_M M i))) 2) + 4)), (3, .int (nI j)), (0, .ref (ad1 85)), (1, .ref (ad1 n)), (2, .int (nI i))]) rfl ?_
                  exact J _ ((if_neg c84).symm)
            · -- ways
              refine g_if_eq C (tgt := 76) dX5_sheet_70 (by decide) (fun c70 => ?_) (fun c70 => ?_)
              · -- 76
                refine g_lv [0, 1, 2, 3, 4] (lv' := [(4, .int (s_offF (s_err (s_M M i)))), (3, .int (nI j)), (0, .ref (ad1 85)), (1, .ref (ad1 n)), (2, .int (nI i))]) rfl ?_
                exact J _ ((if_pos c70).symm)
              · -- 73
                refine g_iinc C 0 rfl (v := (s_offF (s_err (s_M M i))) + 2) (lv' := [(4, .int ((s_offF (s_err (s_M M i))) + 2)), (3, .int (nI j)), (0, .ref (ad1 85)), (1, .ref (ad1 n)), (2, .int (nI i))]) dX5_sheet_73 rfl (by decide) rfl ?_
                refine g_lv [0, 1, 2, 3, 4] (lv' := [(4, .int ((s_offF (s_err (s_M M i))) + 2)), (3, .int (nI j)), (0, .ref (ad1 85)), (1, .ref (ad1 n)), (2, .int (nI i))]) rfl ?_
                exact J _ ((if_neg c70).symm)
          · -- ways
            refine g_icmp_gt C (tgt := 57) dX5_sheet_45 (by decide) (fun c45 => ?_) (fun c45 => ?_)
            · -- 57
              refine g_iconst C (v := nI 1) dX5_sheet_57 (by decide) ?_
              refine g_goto C (tgt := 62) dX5_sheet_58 (by decide) ?_
              refine g_lv [0, 1, 2, 3] (lv' := [(3, .int (nI j)), (0, .ref (ad1 85)), (1, .ref (ad1 n)), (2, .int (nI i))]) rfl ?_
              exact J _ ((s_offF_hi c45).symm)
            · -- 48
              refine g_aload_n C 1 rfl dX5_sheet_48 ?_
              refine g_getf C 85 (by omega) m146 rfl 2 (by decide) (fun w h => (List.mem_cons_of_mem _ (List.mem_append_right _ h))) (List.mem_of_getElem? (i := 3) rfl) rfl rfl dX5_sheet_49 ?_
              refine g_bipush C (v := (-6)) dX5_sheet_52 (by decide) ?_
              refine g_icmp_ge C (tgt := 61) dX5_sheet_54 (by decide) (fun c54 => ?_) (fun c54 => ?_)
              · -- 61
                refine g_iconst C (v := nI 0) dX5_sheet_61 (by decide) ?_
                refine g_lv [0, 1, 2, 3] (lv' := [(3, .int (nI j)), (0, .ref (ad1 85)), (1, .ref (ad1 n)), (2, .int (nI i))]) rfl ?_
                exact J _ ((s_offF_mid c54 c45).symm)
              · -- 57
                refine g_iconst C (v := nI 1) dX5_sheet_57 (by decide) ?_
                refine g_goto C (tgt := 62) dX5_sheet_58 (by decide) ?_
                refine g_lv [0, 1, 2, 3] (lv' := [(3, .int (nI j)), (0, .ref (ad1 85)), (1, .ref (ad1 n)), (2, .int (nI i))]) rfl ?_
                exact J _ ((s_offF_lo c54).symm)
