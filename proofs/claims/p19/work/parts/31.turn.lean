/-! ===== the law: the first half of a turn ===== -/
set_option maxHeartbeats 8000000 in
set_option maxRecDepth 100000 in
theorem law_turn {p : Program} {l : Launch} {e : Env} {s : State} {m : MethodId} {below : List Frame} {meth : Method} {c : Code} {V : gT} {Q : State → Prop} (C : CX V (AL s) RL cL_law 23 (some .boolean) wsL_law p s m #[Value.ref (g_b V)] meth c) {n : Nat} {ad : Nat → Nat} {el : Nat → va_E} {cnt : Nat} {M St We pl : Nat → Int32} {F T : Nat → Nat → Int32} (hI : Inv V n ad el 97 cnt M St We pl F T) (t : Nat) (ht : t < 30) (ih : ∀ (n2 : Nat) (ad2 : Nat → Nat) (el2 : Nat → va_E), (∃ (cnt2 : Nat) (M2 St2 We2 pl2 : Nat → Int32) (F2 T2 : Nat → Nat → Int32), Inv V n2 ad2 el2 97 cnt2 M2 St2 We2 pl2 F2 T2) → GW p l e room_1 s m #[Value.ref (g_b V)] below meth c V (AL s) 23 Q n2 ad2 el2 (1000 + 40 * (t + 1)) (8000 + 300 * (t + 1)) 22 [(3, .int (nI (t + 1))), (2, .ref (ad2 85)), (1, .ref (ad2 0)), (0, .ref (g_b V))] []) : GW p l e room_1 s m #[Value.ref (g_b V)] below meth c V (AL s) 23 Q n ad el (1000 + 40 * t) (8000 + 300 * t) 22 [(3, .int (nI t)), (2, .ref (ad 85)), (1, .ref (ad 0)), (0, .ref (g_b V))] [] := by
  obtain ⟨hB, hc, hn, h, hs, hP⟩ := id hI
  refine g_iload_n C 0 rfl dL_law_22 ?_
  refine g_bipush C (v := nI 30) dL_law_23 (by decide) ?_
  refine g_icmp_ge C (tgt := 843) dL_law_25 (by decide) (fun c25 => ?_) (fun c25 => ?_)
  · -- 843
    have c25 : 30 ≤ t := (nI_leI (by omega) (by omega)).mp c25
    exact absurd c25 (by omega)
  · -- 28
    have c25 : t < 30 := Nat.lt_of_not_le (fun z => c25 ((nI_leI (by omega) (by omega)).mpr z))
    refine g_aload_n C 3 rfl dL_law_28 ?_
    refine g_iload_n C 0 rfl dL_law_29 ?_
    refine g_bipush C (v := nI 16) dL_law_30 (by decide) ?_
    refine g_irem C (v := nI (t % 16)) dL_law_32 (by decide) (pk_rem (by omega) (by omega) (by omega)) ?_
    refine g_calli C (r_S C (st := []) (c_L_cell l V (t % 16) (by omega)) (va_cwS 2 C.ts gL_law_L_cell rfl rfl rfl (by decide +kernel) ⟨(Nat.le_of_ble_eq_true rfl), (Nat.le_of_ble_eq_true rfl)⟩) rfl rfl (Nat.le_of_ble_eq_true rfl) dL_law_33 ⟨(by show _ ≤ 600130; omega), (by show _ ≤ 7301080; omega)⟩) (fun r u hu => ?_)
    generalize r = x1
    refine g_iload_n C 0 rfl dL_law_36 ?_
    refine g_bipush C (v := nI 16) dL_law_37 (by decide) ?_
    refine g_idiv C (v := nI (t / 16)) dL_law_39 (by decide) (pk_div (by omega) (by omega) (by omega)) ?_
    refine g_iconst C (v := nI 3) dL_law_40 (by decide) ?_
    refine g_imul C (v := nI ((t / 16) * 3)) dL_law_41 (pk_mul _ _) ?_
    refine g_ishr C (v := x1 >>> ((nI ((t / 16) * 3)) &&& 31)) dL_law_42 rfl ?_
    refine g_sipush C (v := nI 167) dL_law_43 (by decide) ?_
    refine g_iload_n C 0 rfl dL_law_46 ?_
    refine g_imul C (v := nI (167 * t)) dL_law_47 (pk_mul _ _) ?_
    refine g_iadd C (v := (x1 >>> ((nI ((t / 16) * 3)) &&& 31)) + (nI (167 * t))) dL_law_48 rfl ?_
    refine g_via (fun _ : Int32 => True) 49 (fun _ => [(3, .int (nI t)), (2, .ref (ad 85)), (1, .ref (ad 0)), (0, .ref (g_b V))]) (fun v => [.int v]) (fun x9 _ => ?_) (fun J => J _ trivial)
    refine g_istore C (lv' := [(4, .int x9), (3, .int (nI t)), (2, .ref (ad 85)), (1, .ref (ad 0)), (0, .ref (g_b V))]) dL_law_49 (by decide) rfl ?_
    refine g_aload_n C 3 rfl dL_law_51 ?_
    refine g_iconst C (v := nI 0) dL_law_52 (by decide) ?_
    refine g_calli C (r_V C (st := []) (c_X4_count l V (by omega) hc h 0 (by omega)) (cwV 1 C.ts gL_law_X4_count rfl rfl rfl (by decide +kernel) ⟨(Nat.le_of_ble_eq_true rfl), (Nat.le_of_ble_eq_true rfl)⟩) (by omega) h.1 rfl rfl rfl (Nat.le_of_ble_eq_true rfl) dL_law_53 ⟨(by show _ ≤ 600130; omega), (by show _ ≤ 7301080; omega)⟩) (fun r u hu => ?_)
    subst hu
    refine g_top (rfl : s_cnt cnt M St We pl F T (nI 0) = nI cnt) ?_
    refine g_istore C (lv' := [(5, .int (nI cnt)), (4, .int x9), (3, .int (nI t)), (2, .ref (ad 85)), (1, .ref (ad 0)), (0, .ref (g_b V))]) dL_law_56 (by decide) rfl ?_
    refine g_iload C 0 rfl dL_law_58 ?_
    refine g_via (fun v : Int32 => v = -1 ∨ ∃ q, q < cnt ∧ v = nI q) 76 (fun _ => [(5, .int (nI cnt)), (4, .int x9), (3, .int (nI t)), (2, .ref (ad 85)), (1, .ref (ad 0)), (0, .ref (g_b V))]) (fun v => .int v :: []) (fun wv hwv => ?_) (fun J => ?_)
    · -- join
      refine g_istore C (lv' := [(6, .int wv), (5, .int (nI cnt)), (4, .int x9), (3, .int (nI t)), (2, .ref (ad 85)), (1, .ref (ad 0)), (0, .ref (g_b V))]) dL_law_76 (by decide) rfl ?_
      refine g_bipush C (v := nI 30) dL_law_78 (by decide) ?_
      refine g_newa C 0 (List.mem_of_getElem? (i := 3) rfl) (ty := .int) rfl rfl (N := 30) (a0 := (30, .inl (fun _ => 0))) (fun cA => rfl) (by decide) (by decide) (by decide) (by show _ ≤ 600130; omega) (by show _ ≤ 7301080; omega) dL_law_80 (fun ad2 el3 ha4 he5 hb6 => ?_)
      refine g_lveq (lv' := [(6, .int wv), (5, .int (nI cnt)), (4, .int x9), (3, .int (nI t)), (2, .ref (ad2 85)), (1, .ref (ad2 0)), (0, .ref (g_b V))]) (by rw [ha4 0 (by omega), ha4 85 (by omega)]) ?_
      have m7 : el3 0 = .inr (4, [.ref (ad2 1), .ref (ad2 10), .ref (ad2 23), .ref (ad2 24), .int (nI cnt)]) := by rw [hb6 0 (by omega), h.1, ha4 1 (by omega), ha4 10 (by omega), ha4 23 (by omega), ha4 24 (by omega)]
      refine g_astore C (lv' := [(7, .ref (ad2 n)), (6, .int wv), (5, .int (nI cnt)), (4, .int x9), (3, .int (nI t)), (2, .ref (ad2 85)), (1, .ref (ad2 0)), (0, .ref (g_b V))]) dL_law_82 (by decide) rfl ?_
      have hx1 : X4At V ad2 el3 cnt M St We pl F T := (h.keep (fun j hj => hb6 j (by omega))).adr (fun j hj => ha4 j (by omega))
      refine g_viaE (fun e1 => ∃ x : Nat → Int32, e1 n = .inl (V.2 0, 30, .inl x) ∧ (∀ q, q < cnt → wv = nI q → ∀ k, k < 30 → x k = F q k) ∧ ∀ j, j < n → e1 j = el3 j) 126 [(7, .ref (ad2 n)), (6, .int wv), (5, .int (nI cnt)), (4, .int x9), (3, .int (nI t)), (2, .ref (ad2 85)), (1, .ref (ad2 0)), (0, .ref (g_b V))] [] (fun el9 h9 => ?_) (fun J126 => ?_)
      · -- from 126
        obtain ⟨was, w1, w2, w3⟩ := h9
        have hx2 : X4At V ad2 el9 cnt M St We pl F T := hx1.keep (fun j hj => w3 j (by omega))
        have had1 : ∀ j, j < n → ad2 j = ad j := ha4
        have hel1 : ∀ j, j < n → el9 j = el j := fun j hj => (w3 j hj).trans (hb6 j hj)
        refine g_bipush C (v := nI 7) dL_law_126 (by decide) ?_
        refine g_newa C 0 (List.mem_of_getElem? (i := 3) rfl) (ty := .int) rfl rfl (N := 7) (a0 := (7, .inl (fun _ => 0))) (fun cA => rfl) (by decide) (by decide) (by decide) (by show _ ≤ 600130; omega) (by show _ ≤ 7301080; omega) dL_law_128 (fun ad8 el9 ha10 he11 hb12 => ?_)
        refine g_lveq (lv' := [(7, .ref (ad8 n)), (6, .int wv), (5, .int (nI cnt)), (4, .int x9), (3, .int (nI t)), (2, .ref (ad8 85)), (1, .ref (ad8 0)), (0, .ref (g_b V))]) (by rw [ha10 0 (by omega), ha10 85 (by omega), ha10 n (by omega)]) ?_
        have m13 : el9 0 = .inr (4, [.ref (ad8 1), .ref (ad8 10), .ref (ad8 23), .ref (ad8 24), .int (nI cnt)]) := by rw [hb12 0 (by omega), hx2.1, ha10 1 (by omega), ha10 10 (by omega), ha10 23 (by omega), ha10 24 (by omega)]
        have m14 := (hb12 n (by omega)).trans w1
        have hx4 : X4At V ad8 el9 cnt M St We pl F T := (hx2.keep (fun j hj => hb12 j (by omega))).adr (fun j hj => ha10 j (by omega))
        have had2 : ∀ j, j < n → ad8 j = ad j := fun j hj => (ha10 j (by omega)).trans (had1 j hj)
        have hel2 : ∀ j, j < n → el9 j = el j := fun j hj => (hb12 j (by omega)).trans (hel1 j hj)
        refine g_astore C (lv' := [(8, .ref (ad8 (n + 1))), (7, .ref (ad8 n)), (6, .int wv), (5, .int (nI cnt)), (4, .int x9), (3, .int (nI t)), (2, .ref (ad8 85)), (1, .ref (ad8 0)), (0, .ref (g_b V))]) dL_law_130 (by decide) rfl ?_
        refine g_iconst C (v := nI 0) dL_law_132 (by decide) ?_
        refine g_istore C (lv' := [(9, .int (nI 0)), (8, .ref (ad8 (n + 1))), (7, .ref (ad8 n)), (6, .int wv), (5, .int (nI cnt)), (4, .int x9), (3, .int (nI t)), (2, .ref (ad8 85)), (1, .ref (ad8 0)), (0, .ref (g_b V))]) dL_law_133 (by decide) rfl ?_
        refine g_lv [0, 1, 2, 3, 4, 5, 6, 7, 8, 9] (lv' := [(9, .int (nI 0)), (8, .ref (ad8 (n + 1))), (7, .ref (ad8 n)), (6, .int wv), (5, .int (nI cnt)), (4, .int x9), (3, .int (nI t)), (2, .ref (ad8 85)), (1, .ref (ad8 0)), (0, .ref (g_b V))]) rfl ?_
        have hwn := m14
        refine g_forE 7 (fun (k : Nat) => [(9, .int (nI k)), (8, .ref (ad8 (n + 1))), (7, .ref (ad8 n)), (6, .int wv), (5, .int (nI cnt)), (4, .int x9), (3, .int (nI t)), (2, .ref (ad8 85)), (1, .ref (ad8 0)), (0, .ref (g_b V))]) (fun k el1 => (∃ y : Nat → Int32, el1 (n + 1) = .inl (V.2 0, 7, .inl y) ∧ ∀ j, j < k → y j = s_pin (St j) (We j) (nI 3)) ∧ ∀ j, j < n + 1 → el1 j = el9 j) ⟨⟨_, he11, fun j hj => absurd hj (by omega)⟩, fun j _ => rfl⟩ (fun el1 h1 => ?_) (fun k el1 hk h1 kh => ?_)
        · -- loop 135: its end
          obtain ⟨⟨y1, b1, b2⟩, b3⟩ := id h1
          have hx5 : X4At V ad8 el1 cnt M St We pl F T := hx4.keep (fun j hj => b3 j (by omega))
          refine g_iload C 0 rfl dL_law_135 ?_
          refine g_bipush C (v := nI 7) dL_law_137 (by decide) ?_
          refine g_icmp_ge C (tgt := 160) dL_law_139 (by decide) (fun c139 => ?_) (fun c139 => ?_)
          rotate_left
          · exact absurd c139 (by decide)
          obtain ⟨ad9, h9a⟩ : ∃ a : Nat → Nat, a = fun j => ad8 (s_up n j) := ⟨_, rfl⟩
          obtain ⟨elA, h9e⟩ : ∃ a : Nat → va_E, a = fun j => el1 (s_up n j) := ⟨_, rfl⟩
          have u1 : ∀ j, j < 97 → s_up n j = j := fun j hj => by rw [s_up, if_neg (by omega), if_neg (by omega), if_pos hj]
          have u2 : ∀ j, j < 12 * cnt → s_up n (99 + j) = 97 + j := fun j hj => by rw [s_up, if_neg (by omega), if_neg (by omega), if_neg (by omega)]; omega
          have hIn : Inv V n ad8 el1 97 cnt M St We pl F T := ⟨hB, hc, hn, hx5, (hs.keep (fun j hj => (b3 j (by omega)).trans (hel2 j (by omega)))).adr (fun j hj => had2 j (by omega)), hP⟩
          have hI9 : Inv V (n + 2) ad9 elA 99 cnt M St We pl F T := by
            rw [h9a, h9e]
            exact hIn.sh (s_up n) (by omega) (by omega) u1 u2
          have a0 : ad9 0 = ad8 0 := by rw [h9a]; exact congrArg ad8 (u1 0 (by omega))
          have a85 : ad9 85 = ad8 85 := by rw [h9a]; exact congrArg ad8 (u1 85 (by omega))
          have a97 : ad9 97 = ad8 n := by rw [h9a]; exact congrArg ad8 (if_pos rfl)
          have a98 : ad9 98 = ad8 (n + 1) := by rw [h9a]; exact congrArg ad8 (by rw [s_up, if_neg (by omega), if_pos rfl])
          have v97 : elA 97 = .inl (V.2 0, 30, .inl was) := by rw [h9e]; exact (congrArg el1 (if_pos rfl)).trans ((b3 n (by omega)).trans hwn)
          have v98 : elA 98 = .inl (V.2 0, 7, .inl y1) := by rw [h9e]; exact (congrArg el1 (by rw [s_up, if_neg (by omega), if_pos rfl])).trans b1
          refine g_lv [1, 2, 3, 4, 5, 6, 7, 8, 9] (lv' := [(8, .ref (ad8 (n + 1))), (7, .ref (ad8 n)), (6, .int wv), (5, .int (nI cnt)), (4, .int x9), (3, .int (nI t)), (2, .ref (ad8 85)), (1, .ref (ad8 0)), (0, .ref (g_b V))]) rfl ?_
          refine g_perm (s_up n) (n' := n + 2) (ad' := ad9) (el' := elA) (fun k hk => by unfold s_up; split <;> (try split) <;> (try split) <;> omega) (fun i j hi hj e => by unfold s_up at e; split at e <;> (try split at e) <;> (try split at e) <;> (try split at e) <;> (try split at e) <;> (try split at e) <;> omega) (fun k _ => by rw [h9a]) (fun k _ => by rw [h9e]) ?_
          refine g_lveq (lv' := [(8, .ref (ad9 98)), (7, .ref (ad9 97)), (6, .int wv), (5, .int (nI cnt)), (4, .int x9), (3, .int (nI t)), (2, .ref (ad9 85)), (1, .ref (ad9 0)), (0, .ref (g_b V))]) (by rw [a98, a97, a85, a0]) ?_
          obtain ⟨hB9, -, hn9, hx9, hs9, -⟩ := id hI9
          refine g_aload_n C 7 rfl dL_law_160 ?_
          refine g_iconst C (v := nI 4) dL_law_161 (by decide) ?_
          refine g_calli C (r_V C (st := []) (c_X4_count l V (by omega) hc hx9 4 (by omega)) (cwV 1 C.ts gL_law_X4_count rfl rfl rfl (by decide +kernel) ⟨(Nat.le_of_ble_eq_true rfl), (Nat.le_of_ble_eq_true rfl)⟩) (by omega) hx9.1 rfl rfl rfl (Nat.le_of_ble_eq_true rfl) dL_law_162 ⟨(by show _ ≤ 600130; omega), (by show _ ≤ 7301080; omega)⟩) (fun r u hu => ?_)
          subst hu
          refine g_top (rfl : s_cnt cnt M St We pl F T (nI 4) = M 3) ?_
          refine g_istore C (lv' := [(9, .int (M 3)), (8, .ref (ad9 98)), (7, .ref (ad9 97)), (6, .int wv), (5, .int (nI cnt)), (4, .int x9), (3, .int (nI t)), (2, .ref (ad9 85)), (1, .ref (ad9 0)), (0, .ref (g_b V))]) dL_law_165 (by decide) rfl ?_
          refine g_aload_n C 8 rfl dL_law_167 ?_
          refine g_bipush C (v := nI 6) dL_law_168 (by decide) ?_
          refine g_calli C (r_V C (st := []) (c_X4_count l V (by omega) hc hx9 6 (by omega)) (cwV 1 C.ts gL_law_X4_count rfl rfl rfl (by decide +kernel) ⟨(Nat.le_of_ble_eq_true rfl), (Nat.le_of_ble_eq_true rfl)⟩) (by omega) hx9.1 rfl rfl rfl (Nat.le_of_ble_eq_true rfl) dL_law_170 ⟨(by show _ ≤ 600130; omega), (by show _ ≤ 7301080; omega)⟩) (fun r u hu => ?_)
          subst hu
          refine g_top (rfl : s_cnt cnt M St We pl F T (nI 6) = M 5) ?_
          refine g_istore C (lv' := [(10, .int (M 5)), (9, .int (M 3)), (8, .ref (ad9 98)), (7, .ref (ad9 97)), (6, .int wv), (5, .int (nI cnt)), (4, .int x9), (3, .int (nI t)), (2, .ref (ad9 85)), (1, .ref (ad9 0)), (0, .ref (g_b V))]) dL_law_173 (by decide) rfl ?_
          refine g_iload_n C 7 rfl dL_law_175 ?_
          refine g_iconst C (v := nI 2) dL_law_176 (by decide) ?_
          refine g_irem C (v := nI (t % 2)) dL_law_177 (by decide) (pk_rem (by omega) (by omega) (by omega)) ?_
          refine g_iconst C (v := nI 1) dL_law_178 (by decide) ?_
          refine g_via (fun v : Int32 => v = nI 0 ∨ (v = nI 1 ∧ 5 ≤ M 3 ∧ cnt < 20)) 200 (fun _ => [(10, .int (M 5)), (9, .int (M 3)), (8, .ref (ad9 98)), (7, .ref (ad9 97)), (6, .int wv), (5, .int (nI cnt)), (4, .int x9), (3, .int (nI t)), (2, .ref (ad9 85)), (1, .ref (ad9 0)), (0, .ref (g_b V))]) (fun v => .int v :: []) (fun vr hvr => ?_) (fun J => ?_)
          · -- join
            refine g_istore C (lv' := [(11, .int vr), (10, .int (M 5)), (9, .int (M 3)), (8, .ref (ad9 98)), (7, .ref (ad9 97)), (6, .int wv), (5, .int (nI cnt)), (4, .int x9), (3, .int (nI t)), (2, .ref (ad9 85)), (1, .ref (ad9 0)), (0, .ref (g_b V))]) dL_law_200 (by decide) rfl ?_
            refine g_aload_n C 10 rfl dL_law_202 ?_
            refine g_iconst C (v := nI 1) dL_law_203 (by decide) ?_
            refine g_iconst C (v := nI 0) dL_law_204 (by decide) ?_
            refine g_calli C (r_V C (st := []) (c_X4_foresee l V (by omega) hc hx9 1 (by omega) (by omega) 0 (by omega)) (cwV 2 C.ts gL_law_X4_foresee rfl rfl rfl (by decide +kernel) ⟨(Nat.le_of_ble_eq_true rfl), (Nat.le_of_ble_eq_true rfl)⟩) (by omega) hx9.1 rfl rfl rfl (Nat.le_of_ble_eq_true rfl) dL_law_205 ⟨(by show _ ≤ 600130; omega), (by show _ ≤ 7301080; omega)⟩) (fun r u15 hu => ?_)
            obtain ⟨hr16, hx17, hf18⟩ := hu
            subst hr16
            have hs19 := hs9.keep (el' := u15) (fun j hj => hf18 j (by omega))
            have v20 := (hf18 97 (by omega)).trans v97
            have v21 := (hf18 98 (by omega)).trans v98
            refine g_istore C (lv' := [(12, .int (s_fore M St We pl 1 (nI 0))), (11, .int vr), (10, .int (M 5)), (9, .int (M 3)), (8, .ref (ad9 98)), (7, .ref (ad9 97)), (6, .int wv), (5, .int (nI cnt)), (4, .int x9), (3, .int (nI t)), (2, .ref (ad9 85)), (1, .ref (ad9 0)), (0, .ref (g_b V))]) dL_law_208 (by decide) rfl ?_
            refine g_aload_n C 11 rfl dL_law_210 ?_
            refine g_iconst C (v := nI 1) dL_law_211 (by decide) ?_
            refine g_iconst C (v := nI 1) dL_law_212 (by decide) ?_
            refine g_calli C (r_V C (st := []) (c_X4_foresee l V (by omega) hc hx17 1 (by omega) (by omega) 1 (by omega)) (cwV 2 C.ts gL_law_X4_foresee rfl rfl rfl (by decide +kernel) ⟨(Nat.le_of_ble_eq_true rfl), (Nat.le_of_ble_eq_true rfl)⟩) (by omega) hx17.1 rfl rfl rfl (Nat.le_of_ble_eq_true rfl) dL_law_213 ⟨(by show _ ≤ 600130; omega), (by show _ ≤ 7301080; omega)⟩) (fun r u22 hu => ?_)
            obtain ⟨hr23, hx24, hf25⟩ := hu
            subst hr23
            have hs26 := hs19.keep (el' := u22) (fun j hj => hf25 j (by omega))
            have v27 := (hf25 97 (by omega)).trans v20
            have v28 := (hf25 98 (by omega)).trans v21
            refine g_istore C (lv' := [(13, .int (s_fore M St We pl 1 (nI 1))), (12, .int (s_fore M St We pl 1 (nI 0))), (11, .int vr), (10, .int (M 5)), (9, .int (M 3)), (8, .ref (ad9 98)), (7, .ref (ad9 97)), (6, .int wv), (5, .int (nI cnt)), (4, .int x9), (3, .int (nI t)), (2, .ref (ad9 85)), (1, .ref (ad9 0)), (0, .ref (g_b V))]) dL_law_216 (by decide) rfl ?_
            refine g_aload_n C 12 rfl dL_law_218 ?_
            refine g_iconst C (v := nI 1) dL_law_219 (by decide) ?_
            refine g_iconst C (v := nI 2) dL_law_220 (by decide) ?_
            refine g_calli C (r_V C (st := []) (c_X4_foresee l V (by omega) hc hx24 1 (by omega) (by omega) 2 (by omega)) (cwV 2 C.ts gL_law_X4_foresee rfl rfl rfl (by decide +kernel) ⟨(Nat.le_of_ble_eq_true rfl), (Nat.le_of_ble_eq_true rfl)⟩) (by omega) hx24.1 rfl rfl rfl (Nat.le_of_ble_eq_true rfl) dL_law_221 ⟨(by show _ ≤ 600130; omega), (by show _ ≤ 7301080; omega)⟩) (fun r u29 hu => ?_)
            obtain ⟨hr30, hx31, hf32⟩ := hu
            subst hr30
            have hs33 := hs26.keep (el' := u29) (fun j hj => hf32 j (by omega))
            have v34 := (hf32 97 (by omega)).trans v27
            have v35 := (hf32 98 (by omega)).trans v28
            refine g_istore C (lv' := [(14, .int (s_fore M St We pl 1 (nI 2))), (13, .int (s_fore M St We pl 1 (nI 1))), (12, .int (s_fore M St We pl 1 (nI 0))), (11, .int vr), (10, .int (M 5)), (9, .int (M 3)), (8, .ref (ad9 98)), (7, .ref (ad9 97)), (6, .int wv), (5, .int (nI cnt)), (4, .int x9), (3, .int (nI t)), (2, .ref (ad9 85)), (1, .ref (ad9 0)), (0, .ref (g_b V))]) dL_law_224 (by decide) rfl ?_
            refine g_aload_n C 13 rfl dL_law_226 ?_
            refine g_iconst C (v := nI 1) dL_law_227 (by decide) ?_
            refine g_iconst C (v := nI 3) dL_law_228 (by decide) ?_
            refine g_calli C (r_V C (st := []) (c_X4_foresee l V (by omega) hc hx31 1 (by omega) (by omega) 3 (by omega)) (cwV 2 C.ts gL_law_X4_foresee rfl rfl rfl (by decide +kernel) ⟨(Nat.le_of_ble_eq_true rfl), (Nat.le_of_ble_eq_true rfl)⟩) (by omega) hx31.1 rfl rfl rfl (Nat.le_of_ble_eq_true rfl) dL_law_229 ⟨(by show _ ≤ 600130; omega), (by show _ ≤ 7301080; omega)⟩) (fun r u36 hu => ?_)
            obtain ⟨hr37, hx38, hf39⟩ := hu
            subst hr37
            have hs40 := hs33.keep (el' := u36) (fun j hj => hf39 j (by omega))
            have v41 := (hf39 97 (by omega)).trans v34
            have v42 := (hf39 98 (by omega)).trans v35
            refine g_istore C (lv' := [(15, .int (s_fore M St We pl 1 (nI 3))), (14, .int (s_fore M St We pl 1 (nI 2))), (13, .int (s_fore M St We pl 1 (nI 1))), (12, .int (s_fore M St We pl 1 (nI 0))), (11, .int vr), (10, .int (M 5)), (9, .int (M 3)), (8, .ref (ad9 98)), (7, .ref (ad9 97)), (6, .int wv), (5, .int (nI cnt)), (4, .int x9), (3, .int (nI t)), (2, .ref (ad9 85)), (1, .ref (ad9 0)), (0, .ref (g_b V))]) dL_law_232 (by decide) rfl ?_
            have J415 : ∀ (n2 : Nat) (ad2 : Nat → Nat) (el2 : Nat → va_E) (cnt2 : Nat) (M2 St2 We2 pl2 : Nat → Int32) (F2 T2 : Nat → Nat → Int32), Inv V n2 ad2 el2 99 cnt2 M2 St2 We2 pl2 F2 T2 → cnt ≤ cnt2 → (∀ q, q < cnt → ∀ j, j < 30 → F2 q j = F q j) → el2 97 = .inl (V.2 0, 30, .inl was) → GW p l e room_1 s m #[Value.ref (g_b V)] below meth c V (AL s) 23 Q n2 ad2 el2 (1000 + 40 * (t + 1)) (8000 + 300 * (t + 1)) 415 [(3, .int (nI t)), (2, .ref (ad2 85)), (1, .ref (ad2 0)), (0, .ref (g_b V)), (6, .int wv), (7, .ref (ad2 97))] [] := by
              intro n2 ad2 el2 cnt2 M2 St2 We2 pl2 F2 T2 hI2 hle hF2 hw2
              refine law_tail C (by omega) (by omega) hI2 t hw2 wv (hwv.imp id (fun ⟨q, hq, e⟩ => ⟨q, by omega, e, fun k hk => (w2 q hq e k hk).trans (hF2 q hq k hk).symm⟩)) ?_
              refine g_iinc C 0 rfl (v := nI (t + 1)) (lv' := [(3, .int (nI (t + 1))), (2, .ref (ad2 85)), (1, .ref (ad2 0)), (0, .ref (g_b V))]) dL_law_837 (nI_add _ _) (by decide) rfl ?_
              refine g_goto C (tgt := 22) dL_law_840 (by decide) ?_
              obtain ⟨-, -, hn2, -⟩ := id hI2
              have d1 : ∀ j, j < 97 → s_dn j = j := fun j hj => if_pos hj
              have d2 : ∀ j, j < 12 * cnt2 → s_dn (97 + j) = 99 + j := fun j hj => by rw [s_dn, if_neg (by omega)]; omega
              refine g_perm s_dn (n' := 97 + 12 * cnt2) (ad' := fun j => ad2 (s_dn j)) (el' := fun j => el2 (s_dn j)) (fun k hk => by unfold s_dn; split <;> omega) (fun i j hi hj e => by unfold s_dn at e; split at e <;> split at e <;> omega) (fun _ _ => rfl) (fun _ _ => rfl) ?_
              exact ih _ _ _ ⟨cnt2, M2, St2, We2, pl2, F2, T2, hI2.sh s_dn (by omega) rfl d1 d2⟩
            rcases hvr with rfl | ⟨rfl, h5, hcl⟩
            · -- something else is done
              refine g_iload C 4 rfl dL_law_234 ?_
              refine g_if_eq C (tgt := 403) dL_law_236 (by decide) (fun c236 => ?_) (fun c236 => ?_)
              rotate_left
              · exact absurd c236 (by decide)
              refine g_aload_n C 14 rfl dL_law_403 ?_
              refine g_aload_n C 13 rfl dL_law_404 ?_
              refine g_iload C 11 rfl dL_law_405 ?_
              have hIc : Inv V (n + 2) ad9 u36 99 cnt M St We pl F T := ⟨hB9, hc, hn9, hx38, hs40, hP⟩
              refine g_calli C (r_S C (st := []) (c_L_act l V hIc x9) (va_cwS 3 C.ts gL_law_L_act rfl rfl rfl (by decide +kernel) ⟨(Nat.le_of_ble_eq_true rfl), (Nat.le_of_ble_eq_true rfl)⟩) rfl rfl (Nat.le_of_ble_eq_true rfl) dL_law_407 ⟨(by show _ ≤ 600130; omega), (by show _ ≤ 7301080; omega)⟩) (fun r u hu => ?_)
              obtain ⟨n4, ad4, el4⟩ := u
              obtain ⟨hr4, ⟨cnt4, M4, St4, We4, pl4, F4, T4, hI4, hle4, hF4⟩, had4, hel4⟩ := hu
              dsimp only at hr4 hI4 had4 hel4 ⊢
              subst hr4
              have w97 := (hel4 97 (by omega) (by omega)).trans v41
              refine g_lveq (lv' := [(15, .int (s_fore M St We pl 1 (nI 3))), (14, .int (s_fore M St We pl 1 (nI 2))), (13, .int (s_fore M St We pl 1 (nI 1))), (12, .int (s_fore M St We pl 1 (nI 0))), (11, .int (nI 0)), (10, .int (M 5)), (9, .int (M 3)), (8, .ref (ad4 98)), (7, .ref (ad4 97)), (6, .int wv), (5, .int (nI cnt)), (4, .int x9), (3, .int (nI t)), (2, .ref (ad4 85)), (1, .ref (ad4 0)), (0, .ref (g_b V))]) (by rw [had4 0 (by omega), had4 85 (by omega), had4 97 (by omega), had4 98 (by omega)]) ?_
              refine g_if_ne C (tgt := 415) dL_law_410 (by decide) (fun c410 => ?_) (fun c410 => ?_)
              rotate_left
              · exact absurd c410 (by decide)
              refine g_lv [12, 13, 14, 15, 9, 8] (lv' := [(3, .int (nI t)), (2, .ref (ad4 85)), (1, .ref (ad4 0)), (0, .ref (g_b V)), (6, .int wv), (7, .ref (ad4 97))]) rfl ?_
              refine g_widen (k := (1000 + 40 * (t + 1))) (j := (8000 + 300 * (t + 1))) (by omega) (by omega) ?_
              exact J415 n4 ad4 el4 cnt4 M4 St4 We4 pl4 F4 T4 hI4 hle4 hF4 w97
            · -- it runs
              refine g_iload C 4 rfl dL_law_234 ?_
              refine g_if_eq C (tgt := 403) dL_law_236 (by decide) (fun c236 => ?_) (fun c236 => ?_)
              · exact absurd c236 (by decide)
              refine g_aload_n C 14 rfl dL_law_239 ?_
              refine g_calli C (r_V C (st := []) (c_X4_run l V (by omega) hc hx38 ⟨hcl, h5⟩) (cwV 0 C.ts gL_law_X4_run rfl rfl rfl (by decide +kernel) ⟨(Nat.le_of_ble_eq_true rfl), (Nat.le_of_ble_eq_true rfl)⟩) (by omega) hx38.1 rfl rfl rfl (Nat.le_of_ble_eq_true rfl) dL_law_240 ⟨(by show _ ≤ 600130; omega), (by show _ ≤ 7301080; omega)⟩) (fun r uR hu => ?_)
              obtain ⟨hr, ⟨f1, hf1, hxR⟩, hfR⟩ := hu
              subst hr
              have hsR := hs40.keep (el' := uR) (fun j hj => hfR j (by omega))
              have v97R := (hfR 97 (by omega)).trans v41
              have v98R := (hfR 98 (by omega)).trans v42
              have hc1 : cnt + 1 ≤ 20 := by omega
              have hT0 : ∀ j, j < 30 → T cnt j = 0 := hP.2.2.1 cnt (Nat.le_refl _)
              have hf2 : ∀ j, j < 30 → va_up F cnt f1 cnt j = s_fault M St We pl j := fun j hj => by rw [va_up_self]; exact hf1 j hj
              refine g_iload C 10 rfl dL_law_243 ?_
              refine g_icmp_ne C (tgt := 330) dL_law_245 (by decide) (fun c245 => ?_) (fun c245 => ?_)
              · -- 330
                exact absurd rfl c245
              · -- 248
                refine g_aload_n C 14 rfl dL_law_248 ?_
                refine g_iload C 10 rfl dL_law_249 ?_
                refine g_iconst C (v := nI 0) dL_law_251 (by decide) ?_
                refine g_calli C (r_V C (st := []) (c_X4_sheet l V (by omega) hc1 hxR cnt (by omega) 0 (by omega)) (cwV 2 C.ts gL_law_X4_sheet rfl rfl rfl (by decide +kernel) ⟨(Nat.le_of_ble_eq_true rfl), (Nat.le_of_ble_eq_true rfl)⟩) (by omega) hxR.1 rfl rfl rfl (Nat.le_of_ble_eq_true rfl) dL_law_252 ⟨(by show _ ≤ 600130; omega), (by show _ ≤ 7301080; omega)⟩) (fun r u hu => ?_)
                subst hu
                refine g_top (left_30 hT0 : s_sheet (va_up F cnt f1 cnt) (T cnt) (nI 0) = nI 30) ?_
                refine g_bipush C (v := nI 30) dL_law_255 (by decide) ?_
                refine g_icmp_ne C (tgt := 330) dL_law_257 (by decide) (fun c257 => ?_) (fun c257 => ?_)
                · exact absurd c257 (by decide)
                refine g_aload_n C 14 rfl dL_law_260 ?_
                refine g_iload C 10 rfl dL_law_261 ?_
                refine g_iconst C (v := nI 1) dL_law_263 (by decide) ?_
                refine g_calli C (r_V C (st := []) (c_X4_sheet l V (by omega) hc1 hxR cnt (by omega) 1 (by omega)) (cwV 2 C.ts gL_law_X4_sheet rfl rfl rfl (by decide +kernel) ⟨(Nat.le_of_ble_eq_true rfl), (Nat.le_of_ble_eq_true rfl)⟩) (by omega) hxR.1 rfl rfl rfl (Nat.le_of_ble_eq_true rfl) dL_law_264 ⟨(by show _ ≤ 600130; omega), (by show _ ≤ 7301080; omega)⟩) (fun r u hu => ?_)
                subst hu
                refine g_top (fore_0 hf2 hT0 : s_sheet (va_up F cnt f1 cnt) (T cnt) (nI 1) = s_fore M St We pl 1 (nI 0)) ?_
                refine g_iload C 3 rfl dL_law_267 ?_
                refine g_icmp_ne C (tgt := 330) dL_law_269 (by decide) (fun c269 => ?_) (fun c269 => ?_)
                · -- 330
                  exact absurd rfl c269
                · -- 272
                  refine g_aload_n C 14 rfl dL_law_272 ?_
                  refine g_iload C 10 rfl dL_law_273 ?_
                  refine g_iconst C (v := nI 2) dL_law_275 (by decide) ?_
                  refine g_calli C (r_V C (st := []) (c_X4_sheet l V (by omega) hc1 hxR cnt (by omega) 2 (by omega)) (cwV 2 C.ts gL_law_X4_sheet rfl rfl rfl (by decide +kernel) ⟨(Nat.le_of_ble_eq_true rfl), (Nat.le_of_ble_eq_true rfl)⟩) (by omega) hxR.1 rfl rfl rfl (Nat.le_of_ble_eq_true rfl) dL_law_276 ⟨(by show _ ≤ 600130; omega), (by show _ ≤ 7301080; omega)⟩) (fun r u hu => ?_)
                  subst hu
                  refine g_top (fore_1 hf2 hT0 : s_sheet (va_up F cnt f1 cnt) (T cnt) (nI 2) = s_fore M St We pl 1 (nI 1)) ?_
                  refine g_iload C 2 rfl dL_law_279 ?_
                  refine g_icmp_ne C (tgt := 330) dL_law_281 (by decide) (fun c281 => ?_) (fun c281 => ?_)
                  · -- 330
                    exact absurd rfl c281
                  · -- 284
                    refine g_aload_n C 14 rfl dL_law_284 ?_
                    refine g_bipush C (v := nI 7) dL_law_285 (by decide) ?_
                    refine g_calli C (r_V C (st := []) (c_X4_count l V (by omega) hc1 hxR 7 (by omega)) (cwV 1 C.ts gL_law_X4_count rfl rfl rfl (by decide +kernel) ⟨(Nat.le_of_ble_eq_true rfl), (Nat.le_of_ble_eq_true rfl)⟩) (by omega) hxR.1 rfl rfl rfl (Nat.le_of_ble_eq_true rfl) dL_law_287 ⟨(by show _ ≤ 600130; omega), (by show _ ≤ 7301080; omega)⟩) (fun r u hu => ?_)
                    subst hu
                    refine g_top (fore_2 M St We pl : s_cnt (cnt + 1) (s_end M) St (s_W St We 5) pl (va_up F cnt f1) T (nI 7) = s_fore M St We pl 1 (nI 2)) ?_
                    refine g_iload C 1 rfl dL_law_290 ?_
                    refine g_icmp_ne C (tgt := 330) dL_law_292 (by decide) (fun c292 => ?_) (fun c292 => ?_)
                    · -- 330
                      exact absurd rfl c292
                    · -- 295
                      refine g_aload_n C 14 rfl dL_law_295 ?_
                      refine g_iconst C (v := nI 3) dL_law_296 (by decide) ?_
                      refine g_calli C (r_V C (st := []) (c_X4_count l V (by omega) hc1 hxR 3 (by omega)) (cwV 1 C.ts gL_law_X4_count rfl rfl rfl (by decide +kernel) ⟨(Nat.le_of_ble_eq_true rfl), (Nat.le_of_ble_eq_true rfl)⟩) (by omega) hxR.1 rfl rfl rfl (Nat.le_of_ble_eq_true rfl) dL_law_297 ⟨(by show _ ≤ 600130; omega), (by show _ ≤ 7301080; omega)⟩) (fun r u hu => ?_)
                      subst hu
                      refine g_top (fore_3 M St We pl : s_cnt (cnt + 1) (s_end M) St (s_W St We 5) pl (va_up F cnt f1) T (nI 3) = s_fore M St We pl 1 (nI 3)) ?_
                      refine g_iload C 0 rfl dL_law_300 ?_
                      refine g_icmp_ne C (tgt := 330) dL_law_302 (by decide) (fun c302 => ?_) (fun c302 => ?_)
                      · -- 330
                        exact absurd rfl c302
                      · -- 305
                        refine g_aload_n C 14 rfl dL_law_305 ?_
                        refine g_iconst C (v := nI 4) dL_law_306 (by decide) ?_
                        refine g_calli C (r_V C (st := []) (c_X4_count l V (by omega) hc1 hxR 4 (by omega)) (cwV 1 C.ts gL_law_X4_count rfl rfl rfl (by decide +kernel) ⟨(Nat.le_of_ble_eq_true rfl), (Nat.le_of_ble_eq_true rfl)⟩) (by omega) hxR.1 rfl rfl rfl (Nat.le_of_ble_eq_true rfl) dL_law_307 ⟨(by show _ ≤ 600130; omega), (by show _ ≤ 7301080; omega)⟩) (fun r u hu => ?_)
                        subst hu
                        refine g_top (end_3 M : s_cnt (cnt + 1) (s_end M) St (s_W St We 5) pl (va_up F cnt f1) T (nI 4) = M 3 - 5) ?_
                        refine g_iload C 6 rfl dL_law_310 ?_
                        refine g_iconst C (v := nI 5) dL_law_312 (by decide) ?_
                        refine g_isub C (v := (M 3) - 5) dL_law_313 rfl ?_
                        refine g_icmp_ne C (tgt := 330) dL_law_314 (by decide) (fun c314 => ?_) (fun c314 => ?_)
                        · -- 330
                          exact absurd rfl c314
                        · -- 317
                          refine g_aload_n C 14 rfl dL_law_317 ?_
                          refine g_bipush C (v := nI 6) dL_law_318 (by decide) ?_
                          refine g_calli C (r_V C (st := []) (c_X4_count l V (by omega) hc1 hxR 6 (by omega)) (cwV 1 C.ts gL_law_X4_count rfl rfl rfl (by decide +kernel) ⟨(Nat.le_of_ble_eq_true rfl), (Nat.le_of_ble_eq_true rfl)⟩) (by omega) hxR.1 rfl rfl rfl (Nat.le_of_ble_eq_true rfl) dL_law_320 ⟨(by show _ ≤ 600130; omega), (by show _ ≤ 7301080; omega)⟩) (fun r u hu => ?_)
                          subst hu
                          refine g_top (end_5 M : s_cnt (cnt + 1) (s_end M) St (s_W St We 5) pl (va_up F cnt f1) T (nI 6) = M 5 + 5) ?_
                          refine g_iload C 5 rfl dL_law_323 ?_
                          refine g_iconst C (v := nI 5) dL_law_325 (by decide) ?_
                          refine g_iadd C (v := (M 5) + 5) dL_law_326 rfl ?_
                          refine g_icmp_eq C (tgt := 332) dL_law_327 (by decide) (fun c327 => ?_) (fun c327 => ?_)
                          · -- 332
                            refine g_aload_n C 13 rfl dL_law_332 ?_
                            refine g_calli C (r_V C (st := []) (c_X5_run l V hB9 hcl hn9 hsR hP.1) (cwV 0 C.ts gL_law_X5_run rfl rfl rfl (by decide +kernel) ⟨(Nat.le_of_ble_eq_true rfl), (Nat.le_of_ble_eq_true rfl)⟩) (by omega) hsR.1 rfl rfl rfl (Nat.le_of_ble_eq_true rfl) dL_law_333 ⟨(by show _ ≤ 600130; omega), (by show _ ≤ 7301080; omega)⟩) (fun r9 v9 hv9 => ?_)
                            obtain ⟨nS, adS, elS⟩ := v9
                            obtain ⟨hrS, hnS, hadS, hsS, helS⟩ := hv9
                            dsimp only at hrS hnS hadS hsS helS ⊢
                            subst hrS
                            have hadW : ∀ j, j < 95 ∨ (97 ≤ j ∧ j < 99) → adS j = ad9 j := fun j hj => hadS j (by omega) (by omega) (by omega)
                            have hxS : X4At V adS elS (cnt + 1) (s_end M) St (s_W St We 5) pl (va_up F cnt f1) T := (hxR.keep (fun j hj => helS j (by omega) (Or.inl hj))).adr (fun j hj => hadW j (by omega))
                            have hsT : SimAt V adS elS 99 (cnt + 1) (s_end M) St (s_W St We 5) pl (va_up F cnt f1) T := hsS.cg (fun _ _ => rfl) (fun _ _ => rfl) (fun _ _ => rfl) (fun _ _ => rfl) (fun k hk j hj => by
                              by_cases e : k = cnt
                              · subst e; rw [va_up_self, va_up_self]; exact hf1 j hj
                              · rw [va_up_ne _ _ e, va_up_ne _ _ e]) (fun k hk j hj => by
                              by_cases e : k = cnt
                              · subst e; rw [va_up_self]; exact hT0 j hj
                              · rw [va_up_ne _ _ e])
                            have hIS : Inv V nS adS elS 99 (cnt + 1) (s_end M) St (s_W St We 5) pl (va_up F cnt f1) T := ⟨hB9, hc1, hnS, hxS, hsT, hP.run hf1⟩
                            have v97S := (helS 97 (by omega) (Or.inr (by omega))).trans v97R
                            have v98S := (helS 98 (by omega) (Or.inr (by omega))).trans v98R
                            obtain ⟨-, -, hnSS, -⟩ := id hIS
                            refine g_lveq (lv' := [(15, .int (s_fore M St We pl 1 (nI 3))), (14, .int (s_fore M St We pl 1 (nI 2))), (13, .int (s_fore M St We pl 1 (nI 1))), (12, .int (s_fore M St We pl 1 (nI 0))), (11, .int (nI 1)), (10, .int (M 5)), (9, .int (M 3)), (8, .ref (adS 98)), (7, .ref (adS 97)), (6, .int wv), (5, .int (nI cnt)), (4, .int x9), (3, .int (nI t)), (2, .ref (adS 85)), (1, .ref (adS 0)), (0, .ref (g_b V))]) (by rw [hadW 0 (by omega), hadW 85 (by omega), hadW 97 (by omega), hadW 98 (by omega)]) ?_
                            refine g_pop C dL_law_336 rfl ?_
                            refine g_iconst C (v := nI 0) dL_law_337 (by decide) ?_
                            refine g_istore C (lv' := [(16, .int (nI 0)), (15, .int (s_fore M St We pl 1 (nI 3))), (14, .int (s_fore M St We pl 1 (nI 2))), (13, .int (s_fore M St We pl 1 (nI 1))), (12, .int (s_fore M St We pl 1 (nI 0))), (11, .int (nI 1)), (10, .int (M 5)), (9, .int (M 3)), (8, .ref (adS 98)), (7, .ref (adS 97)), (6, .int wv), (5, .int (nI cnt)), (4, .int x9), (3, .int (nI t)), (2, .ref (adS 85)), (1, .ref (adS 0)), (0, .ref (g_b V))]) dL_law_338 (by decide) rfl ?_
                            refine g_lv [0, 8, 9, 10, 13, 14, 15, 16] (lv' := [(16, .int (nI 0)), (8, .ref (adS 98)), (7, .ref (adS 97)), (6, .int wv), (3, .int (nI t)), (2, .ref (adS 85)), (1, .ref (adS 0)), (0, .ref (g_b V))]) rfl ?_
                            refine g_for 7 (fun (k : Nat) => [(16, .int (nI k)), (8, .ref (adS 98)), (7, .ref (adS 97)), (6, .int wv), (3, .int (nI t)), (2, .ref (adS 85)), (1, .ref (adS 0)), (0, .ref (g_b V))]) ?_ (fun k hk kh => ?_)
                            · -- loop 340: its end
                              refine g_iload C 0 rfl dL_law_340 ?_
                              refine g_bipush C (v := nI 7) dL_law_342 (by decide) ?_
                              refine g_icmp_ge C (tgt := 400) dL_law_344 (by decide) (fun c344 => ?_) (fun c344 => ?_)
                              rotate_left
                              · exact absurd c344 (by decide)
                              refine g_goto C (tgt := 415) dL_law_400 (by decide) ?_
                              refine g_lv [4, 5, 6, 7, 3, 2] (lv' := [(3, .int (nI t)), (2, .ref (adS 85)), (1, .ref (adS 0)), (0, .ref (g_b V)), (6, .int wv), (7, .ref (adS 97))]) rfl ?_
                              refine g_widen (k := (1000 + 40 * (t + 1))) (j := (8000 + 300 * (t + 1))) (by omega) (by omega) ?_
                              exact J415 nS adS elS (cnt + 1) _ _ _ _ _ _ hIS (Nat.le_succ _) (fun q hq j hj => by rw [va_up_ne _ _ (by omega)]) v97S
                            · -- loop 340: its body
                              refine g_iload C 0 rfl dL_law_340 ?_
                              refine g_bipush C (v := nI 7) dL_law_342 (by decide) ?_
                              refine g_icmp_ge C (tgt := 400) dL_law_344 (by decide) (fun c344 => ?_) (fun c344 => ?_)
                              · -- 400
                                have c344 : 7 ≤ k := (nI_leI (by omega) (by omega)).mp c344
                                exact absurd c344 (by omega)
                              · -- 347
                                have c344 : k < 7 := Nat.lt_of_not_le (fun z => c344 ((nI_leI (by omega) (by omega)).mpr z))
                                refine g_aload_n C 6 rfl dL_law_347 ?_
                                refine g_iload C 0 rfl dL_law_348 ?_
                                refine g_iconst C (v := nI 3) dL_law_350 (by decide) ?_
                                refine g_calli C (r_V C (st := []) (c_X4_pin l V (by omega) hc1 hxS k (by omega) 3 (by omega)) (cwV 2 C.ts gL_law_X4_pin rfl rfl rfl (by decide +kernel) ⟨(Nat.le_of_ble_eq_true rfl), (Nat.le_of_ble_eq_true rfl)⟩) (by omega) hxS.1 rfl rfl rfl (Nat.le_of_ble_eq_true rfl) dL_law_351 ⟨(by show _ ≤ 600130; omega), (by show _ ≤ 7301080; omega)⟩) (fun r u hu => ?_)
                                subst hu
                                refine g_top ((pin_run (hP.2.2.2.1 k (by omega))).1 : s_pin (St k) (s_W St We 5 k) (nI 3) = s_max 0 (s_pin (St k) (We k) (nI 3) - 5)) ?_
                                refine g_iconst C (v := nI 0) dL_law_354 (by decide) ?_
                                refine g_aload C 1 rfl dL_law_355 ?_
                                refine g_iload C 0 rfl dL_law_357 ?_
                                refine g_iald C 98 (by omega) v98S k rfl (by omega) (by decide) dL_law_359 ?_
                                refine g_top ((b2 k (by omega)) : y1 k = s_pin (St k) (We k) (nI 3)) ?_
                                refine g_iconst C (v := nI 5) dL_law_360 (by decide) ?_
                                refine g_isub C (v := (s_pin (St k) (We k) (nI 3)) - 5) dL_law_361 rfl ?_
                                refine g_mmax C (v := s_max 0 ((s_pin (St k) (We k) (nI 3)) - 5)) rfl (List.mem_of_getElem? (i := 4) rfl) (List.mem_of_getElem? (i := 5) rfl) (List.mem_of_getElem? (i := 6) rfl) (List.mem_of_getElem? (i := 7) rfl) (Nat.le_of_ble_eq_true rfl) (Nat.le_of_ble_eq_true rfl) (by show _ ≤ 600130; omega) (by show _ ≤ 7301080; omega) dL_law_362 ?_
                                refine g_icmp_ne C (tgt := 392) dL_law_365 (by decide) (fun c365 => ?_) (fun c365 => ?_)
                                · -- 392
                                  exact absurd rfl c365
                                · -- 368
                                  refine g_aload_n C 6 rfl dL_law_368 ?_
                                  refine g_iload C 0 rfl dL_law_369 ?_
                                  refine g_iconst C (v := nI 2) dL_law_371 (by decide) ?_
                                  refine g_calli C (r_V C (st := []) (c_X4_pin l V (by omega) hc1 hxS k (by omega) 2 (by omega)) (cwV 2 C.ts gL_law_X4_pin rfl rfl rfl (by decide +kernel) ⟨(Nat.le_of_ble_eq_true rfl), (Nat.le_of_ble_eq_true rfl)⟩) (by omega) hxS.1 rfl rfl rfl (Nat.le_of_ble_eq_true rfl) dL_law_372 ⟨(by show _ ≤ 600130; omega), (by show _ ≤ 7301080; omega)⟩) (fun r u hu => ?_)
                                  subst hu
                                  refine g_top ((pin_run (hP.2.2.2.1 k (by omega))).2 : s_pin (St k) (s_W St We 5 k) (nI 2) = if 5 < s_pin (St k) (We k) (nI 3) then 1 else 0) ?_
                                  refine g_aload C 1 rfl dL_law_375 ?_
                                  refine g_iload C 0 rfl dL_law_377 ?_
                                  refine g_iald C 98 (by omega) v98S k rfl (by omega) (by decide) dL_law_379 ?_
                                  refine g_top ((b2 k (by omega)) : y1 k = s_pin (St k) (We k) (nI 3)) ?_
                                  refine g_iconst C (v := nI 5) dL_law_380 (by decide) ?_
                                  refine g_via (fun v : Int32 => v = if 5 < s_pin (St k) (We k) (nI 3) then 1 else 0) 389 (fun _ => [(16, .int (nI k)), (8, .ref (adS 98)), (7, .ref (adS 97)), (6, .int wv), (3, .int (nI t)), (2, .ref (adS 85)), (1, .ref (adS 0)), (0, .ref (g_b V))]) (fun v => .int v :: [.int (if 5 < s_pin (St k) (We k) (nI 3) then 1 else 0)]) (fun v hv => ?_) (fun J => ?_)
                                  · -- join
                                    subst hv
                                    refine g_icmp_eq C (tgt := 394) dL_law_389 (by decide) (fun c389 => ?_) (fun c389 => ?_)
                                    · -- 394
                                      refine g_iinc C 0 rfl (v := nI (k + 1)) (lv' := [(16, .int (nI (k + 1))), (8, .ref (adS 98)), (7, .ref (adS 97)), (6, .int wv), (3, .int (nI t)), (2, .ref (adS 85)), (1, .ref (adS 0)), (0, .ref (g_b V))]) dL_law_394 (nI_add _ _) (by decide) rfl ?_
                                      refine g_goto C (tgt := 340) dL_law_397 (by decide) ?_
                                      refine g_lv [0, 1, 2, 3, 4, 5, 6, 7] (lv' := [(16, .int (nI (k + 1))), (8, .ref (adS 98)), (7, .ref (adS 97)), (6, .int wv), (3, .int (nI t)), (2, .ref (adS 85)), (1, .ref (adS 0)), (0, .ref (g_b V))]) rfl ?_
                                      exact kh
                                    · -- 392
                                      exact absurd rfl c389
                                  · -- ways
                                    refine g_icmp_le C (tgt := 388) dL_law_381 (by decide) (fun c381 => ?_) (fun c381 => ?_)
                                    · -- 388
                                      refine g_iconst C (v := nI 0) dL_law_388 (by decide) ?_
                                      refine g_lv [0, 1, 2, 3, 4, 5, 6, 7] (lv' := [(16, .int (nI k)), (8, .ref (adS 98)), (7, .ref (adS 97)), (6, .int wv), (3, .int (nI t)), (2, .ref (adS 85)), (1, .ref (adS 0)), (0, .ref (g_b V))]) rfl ?_
                                      exact J _ ((if_neg (i_nlt c381)).symm)
                                    · -- 384
                                      refine g_iconst C (v := nI 1) dL_law_384 (by decide) ?_
                                      refine g_goto C (tgt := 389) dL_law_385 (by decide) ?_
                                      refine g_lv [0, 1, 2, 3, 4, 5, 6, 7] (lv' := [(16, .int (nI k)), (8, .ref (adS 98)), (7, .ref (adS 97)), (6, .int wv), (3, .int (nI t)), (2, .ref (adS 85)), (1, .ref (adS 0)), (0, .ref (g_b V))]) rfl ?_
                                      exact J _ ((if_pos (i_gt c381)).symm)
                          · -- 330
                            exact absurd rfl c327
          · -- ways
            refine g_icmp_ne C (tgt := 199) dL_law_179 (by decide) (fun c179 => ?_) (fun c179 => ?_)
            · -- 199
              refine g_iconst C (v := nI 0) dL_law_199 (by decide) ?_
              refine g_lv [0, 1, 2, 3, 4, 5, 6, 7, 8, 9, 10] (lv' := [(10, .int (M 5)), (9, .int (M 3)), (8, .ref (ad9 98)), (7, .ref (ad9 97)), (6, .int wv), (5, .int (nI cnt)), (4, .int x9), (3, .int (nI t)), (2, .ref (ad9 85)), (1, .ref (ad9 0)), (0, .ref (g_b V))]) rfl ?_
              exact J _ (Or.inl rfl)
            · -- 182
              refine g_iload C 1 rfl dL_law_182 ?_
              refine g_iconst C (v := nI 5) dL_law_184 (by decide) ?_
              refine g_icmp_lt C (tgt := 199) dL_law_185 (by decide) (fun c185 => ?_) (fun c185 => ?_)
              · -- 199
                refine g_iconst C (v := nI 0) dL_law_199 (by decide) ?_
                refine g_lv [0, 1, 2, 3, 4, 5, 6, 7, 8, 9, 10] (lv' := [(10, .int (M 5)), (9, .int (M 3)), (8, .ref (ad9 98)), (7, .ref (ad9 97)), (6, .int wv), (5, .int (nI cnt)), (4, .int x9), (3, .int (nI t)), (2, .ref (ad9 85)), (1, .ref (ad9 0)), (0, .ref (g_b V))]) rfl ?_
                exact J _ (Or.inl rfl)
              · -- 188
                refine g_iload C 5 rfl dL_law_188 ?_
                refine g_bipush C (v := nI 20) dL_law_190 (by decide) ?_
                refine g_icmp_ge C (tgt := 199) dL_law_192 (by decide) (fun c192 => ?_) (fun c192 => ?_)
                · -- 199
                  have c192 : 20 ≤ cnt := (nI_leI (by omega) (by omega)).mp c192
                  refine g_iconst C (v := nI 0) dL_law_199 (by decide) ?_
                  refine g_lv [0, 1, 2, 3, 4, 5, 6, 7, 8, 9, 10] (lv' := [(10, .int (M 5)), (9, .int (M 3)), (8, .ref (ad9 98)), (7, .ref (ad9 97)), (6, .int wv), (5, .int (nI cnt)), (4, .int x9), (3, .int (nI t)), (2, .ref (ad9 85)), (1, .ref (ad9 0)), (0, .ref (g_b V))]) rfl ?_
                  exact J _ (Or.inl rfl)
                · -- 195
                  have c192 : cnt < 20 := Nat.lt_of_not_le (fun z => c192 ((nI_leI (by omega) (by omega)).mpr z))
                  refine g_iconst C (v := nI 1) dL_law_195 (by decide) ?_
                  refine g_goto C (tgt := 200) dL_law_196 (by decide) ?_
                  refine g_lv [0, 1, 2, 3, 4, 5, 6, 7, 8, 9, 10] (lv' := [(10, .int (M 5)), (9, .int (M 3)), (8, .ref (ad9 98)), (7, .ref (ad9 97)), (6, .int wv), (5, .int (nI cnt)), (4, .int x9), (3, .int (nI t)), (2, .ref (ad9 85)), (1, .ref (ad9 0)), (0, .ref (g_b V))]) rfl ?_
                  exact J _ (Or.inr ⟨rfl, i_ge c185, by omega⟩)
        · -- loop 135: its body
          obtain ⟨⟨y1, b1, b2⟩, b3⟩ := id h1
          have hx5 : X4At V ad8 el1 cnt M St We pl F T := hx4.keep (fun j hj => b3 j (by omega))
          refine g_iload C 0 rfl dL_law_135 ?_
          refine g_bipush C (v := nI 7) dL_law_137 (by decide) ?_
          refine g_icmp_ge C (tgt := 160) dL_law_139 (by decide) (fun c139 => ?_) (fun c139 => ?_)
          · -- 160
            have c139 : 7 ≤ k := (nI_leI (by omega) (by omega)).mp c139
            exact absurd c139 (by omega)
          · -- 142
            have c139 : k < 7 := Nat.lt_of_not_le (fun z => c139 ((nI_leI (by omega) (by omega)).mpr z))
            refine g_aload C 1 rfl dL_law_142 ?_
            refine g_iload C 0 rfl dL_law_144 ?_
            refine g_aload_n C 8 rfl dL_law_146 ?_
            refine g_iload C 0 rfl dL_law_147 ?_
            refine g_iconst C (v := nI 3) dL_law_149 (by decide) ?_
            refine g_calli C (r_V C (st := [.int (nI k), .ref (ad8 (n + 1))]) (c_X4_pin l V (by omega) hc hx5 k (by omega) 3 (by omega)) (cwV 2 C.ts gL_law_X4_pin rfl rfl rfl (by decide +kernel) ⟨(Nat.le_of_ble_eq_true rfl), (Nat.le_of_ble_eq_true rfl)⟩) (by omega) hx5.1 rfl rfl rfl (Nat.le_of_ble_eq_true rfl) dL_law_150 ⟨(by show _ ≤ 600130; omega), (by show _ ≤ 7301080; omega)⟩) (fun r u hu => ?_)
            subst hu
            refine g_iast C (n + 1) (by omega) b1 k rfl (by omega) (by decide) dL_law_153 (fun el43 e44 o45 => ?_)
            have m46 := (o45 0 (by omega)).trans hx5.1
            refine g_iinc C 0 rfl (v := nI (k + 1)) (lv' := [(9, .int (nI (k + 1))), (8, .ref (ad8 (n + 1))), (7, .ref (ad8 n)), (6, .int wv), (5, .int (nI cnt)), (4, .int x9), (3, .int (nI t)), (2, .ref (ad8 85)), (1, .ref (ad8 0)), (0, .ref (g_b V))]) dL_law_154 (nI_add _ _) (by decide) rfl ?_
            refine g_goto C (tgt := 135) dL_law_157 (by decide) ?_
            refine g_lv [0, 1, 2, 3, 4, 5, 6, 7, 8, 9] (lv' := [(9, .int (nI (k + 1))), (8, .ref (ad8 (n + 1))), (7, .ref (ad8 n)), (6, .int wv), (5, .int (nI cnt)), (4, .int x9), (3, .int (nI t)), (2, .ref (ad8 85)), (1, .ref (ad8 0)), (0, .ref (g_b V))]) rfl ?_
            exact kh _ ⟨⟨_, e44, fun j hj => by
                by_cases e : j = k
                · subst e; rw [pk_us]
                · rw [pk_un e]; exact b2 j (by omega)⟩, fun j hj => (o45 j (by omega)).trans (b3 j hj)⟩
      · -- to 126
        rcases hwv with rfl | ⟨q, hq, rfl⟩
        · -- none
          refine g_iconst C (v := nI 0) dL_law_84 (by decide) ?_
          refine g_istore C (lv' := [(8, .int (nI 0)), (7, .ref (ad2 n)), (6, .int ((-1))), (5, .int (nI cnt)), (4, .int x9), (3, .int (nI t)), (2, .ref (ad2 85)), (1, .ref (ad2 0)), (0, .ref (g_b V))]) dL_law_85 (by decide) rfl ?_
          refine g_iload C 0 rfl dL_law_87 ?_
          refine g_bipush C (v := nI 30) dL_law_89 (by decide) ?_
          refine g_icmp_ge C (tgt := 126) dL_law_91 (by decide) (fun c91 => ?_) (fun c91 => ?_)
          · exact absurd c91 (by decide)
          refine g_iload C 2 rfl dL_law_94 ?_
          refine g_if_lt C (tgt := 126) dL_law_96 (by decide) (fun c96 => ?_) (fun c96 => ?_)
          · -- 126
            refine g_lv [1, 2, 3, 4, 5, 6, 7, 8] (lv' := [(7, .ref (ad2 n)), (6, .int ((-1))), (5, .int (nI cnt)), (4, .int x9), (3, .int (nI t)), (2, .ref (ad2 85)), (1, .ref (ad2 0)), (0, .ref (g_b V))]) rfl ?_
            exact J126 _ ⟨_, he5, fun q hq e => absurd e (neg1_ne (by omega)), fun j _ => rfl⟩
          · -- 99
            exact absurd (by decide) c96
        · -- q
          refine g_iconst C (v := nI 0) dL_law_84 (by decide) ?_
          refine g_istore C (lv' := [(8, .int (nI 0)), (7, .ref (ad2 n)), (6, .int (nI q)), (5, .int (nI cnt)), (4, .int x9), (3, .int (nI t)), (2, .ref (ad2 85)), (1, .ref (ad2 0)), (0, .ref (g_b V))]) dL_law_85 (by decide) rfl ?_
          refine g_lv [0, 1, 2, 3, 4, 5, 6, 7, 8] (lv' := [(8, .int (nI 0)), (7, .ref (ad2 n)), (6, .int (nI q)), (5, .int (nI cnt)), (4, .int x9), (3, .int (nI t)), (2, .ref (ad2 85)), (1, .ref (ad2 0)), (0, .ref (g_b V))]) rfl ?_
          refine g_forE 30 (fun (k : Nat) => [(8, .int (nI k)), (7, .ref (ad2 n)), (6, .int (nI q)), (5, .int (nI cnt)), (4, .int x9), (3, .int (nI t)), (2, .ref (ad2 85)), (1, .ref (ad2 0)), (0, .ref (g_b V))]) (fun k el1 => (∃ x : Nat → Int32, el1 n = .inl (V.2 0, 30, .inl x) ∧ ∀ j, j < k → x j = F q j) ∧ ∀ j, j < n → el1 j = el3 j) ⟨⟨_, he5, fun j hj => absurd hj (by omega)⟩, fun j _ => rfl⟩ (fun el1 h1 => ?_) (fun k el1 hk h1 kh => ?_)
          · -- loop 87: its end
            obtain ⟨⟨x1, a1, a2⟩, a3⟩ := id h1
            have hx3 : X4At V ad2 el1 cnt M St We pl F T := hx1.keep (fun j hj => a3 j (by omega))
            refine g_iload C 0 rfl dL_law_87 ?_
            refine g_bipush C (v := nI 30) dL_law_89 (by decide) ?_
            refine g_icmp_ge C (tgt := 126) dL_law_91 (by decide) (fun c91 => ?_) (fun c91 => ?_)
            rotate_left
            · exact absurd c91 (by decide)
            refine g_lv [1, 2, 3, 4, 5, 6, 7, 8] (lv' := [(7, .ref (ad2 n)), (6, .int (nI q)), (5, .int (nI cnt)), (4, .int x9), (3, .int (nI t)), (2, .ref (ad2 85)), (1, .ref (ad2 0)), (0, .ref (g_b V))]) rfl ?_
            exact J126 _ ⟨_, a1, fun q2 hq2 e => by
                have e2 := (nI_eq (by omega) (by omega)).mp e
                subst e2
                exact a2, a3⟩
          · -- loop 87: its body
            obtain ⟨⟨x1, a1, a2⟩, a3⟩ := id h1
            have hx3 : X4At V ad2 el1 cnt M St We pl F T := hx1.keep (fun j hj => a3 j (by omega))
            refine g_iload C 0 rfl dL_law_87 ?_
            refine g_bipush C (v := nI 30) dL_law_89 (by decide) ?_
            refine g_icmp_ge C (tgt := 126) dL_law_91 (by decide) (fun c91 => ?_) (fun c91 => ?_)
            · -- 126
              have c91 : 30 ≤ k := (nI_leI (by omega) (by omega)).mp c91
              exact absurd c91 (by omega)
            · -- 94
              have c91 : k < 30 := Nat.lt_of_not_le (fun z => c91 ((nI_leI (by omega) (by omega)).mpr z))
              refine g_iload C 2 rfl dL_law_94 ?_
              refine g_if_lt C (tgt := 126) dL_law_96 (by decide) (fun c96 => ?_) (fun c96 => ?_)
              · -- 126
                exact absurd c96 (nI_pos (by omega))
              · -- 99
                refine g_aload C 1 rfl dL_law_99 ?_
                refine g_iload C 0 rfl dL_law_101 ?_
                refine g_aload_n C 7 rfl dL_law_103 ?_
                refine g_iload C 2 rfl dL_law_104 ?_
                refine g_iload C 0 rfl dL_law_106 ?_
                refine g_bipush C (v := nI 6) dL_law_108 (by decide) ?_
                refine g_idiv C (v := nI (k / 6)) dL_law_110 (by decide) (pk_div (by omega) (by omega) (by omega)) ?_
                refine g_iload C 0 rfl dL_law_111 ?_
                refine g_bipush C (v := nI 6) dL_law_113 (by decide) ?_
                refine g_irem C (v := nI (k % 6)) dL_law_115 (by decide) (pk_rem (by omega) (by omega) (by omega)) ?_
                refine g_calli C (r_V C (st := [.int (nI k), .ref (ad2 n)]) (c_X4_faults l V (by omega) hc hx3 q (by omega) (k / 6) (by omega) (k % 6) (by omega)) (cwV 3 C.ts gL_law_X4_faults rfl rfl rfl (by decide +kernel) ⟨(Nat.le_of_ble_eq_true rfl), (Nat.le_of_ble_eq_true rfl)⟩) (by omega) hx3.1 rfl rfl rfl (Nat.le_of_ble_eq_true rfl) dL_law_116 ⟨(by show _ ≤ 600130; omega), (by show _ ≤ 7301080; omega)⟩) (fun r u hu => ?_)
                subst hu
                refine g_iast C n (by omega) a1 k rfl (by omega) (by decide) dL_law_119 (fun el47 e48 o49 => ?_)
                have m50 := (o49 0 (by omega)).trans hx3.1
                refine g_iinc C 0 rfl (v := nI (k + 1)) (lv' := [(8, .int (nI (k + 1))), (7, .ref (ad2 n)), (6, .int (nI q)), (5, .int (nI cnt)), (4, .int x9), (3, .int (nI t)), (2, .ref (ad2 85)), (1, .ref (ad2 0)), (0, .ref (g_b V))]) dL_law_120 (nI_add _ _) (by decide) rfl ?_
                refine g_goto C (tgt := 87) dL_law_123 (by decide) ?_
                refine g_lv [0, 1, 2, 3, 4, 5, 6, 7, 8] (lv' := [(8, .int (nI (k + 1))), (7, .ref (ad2 n)), (6, .int (nI q)), (5, .int (nI cnt)), (4, .int x9), (3, .int (nI t)), (2, .ref (ad2 85)), (1, .ref (ad2 0)), (0, .ref (g_b V))]) rfl ?_
                exact kh _ ⟨⟨_, e48, fun j hj => by
                    by_cases e : j = k
                    · subst e; rw [pk_us]; exact congrArg (F q) (by omega)
                    · rw [pk_un e]; exact a2 j (by omega)⟩, fun j hj => (o49 j (by omega)).trans (a3 j hj)⟩
    · -- ways
      refine g_if_ne C (tgt := 67) dL_law_60 (by decide) (fun c60 => ?_) (fun c60 => ?_)
      · -- 67
        have hpos : 0 < cnt := by
          rcases Nat.eq_zero_or_pos cnt with e | e
          · subst e; exact absurd rfl c60
          · exact e
        refine g_iload C 1 rfl dL_law_67 ?_
        refine g_iconst C (v := nI 3) dL_law_69 (by decide) ?_
        refine g_ishr C (v := x9 >>> (3 &&& 31)) dL_law_70 rfl ?_
        refine g_iload C 0 rfl dL_law_71 ?_
        refine g_calli C (r_S C (st := []) (c_L_below l V (x9 >>> (3 &&& 31)) cnt (by omega) (by omega)) (va_cwS 2 C.ts gL_law_L_below rfl rfl rfl (by decide +kernel) ⟨(Nat.le_of_ble_eq_true rfl), (Nat.le_of_ble_eq_true rfl)⟩) rfl rfl (Nat.le_of_ble_eq_true rfl) dL_law_73 ⟨(by show _ ≤ 600130; omega), (by show _ ≤ 7301080; omega)⟩) (fun r u hu => ?_)
        obtain ⟨q51, hq52, rfl⟩ := hu
        refine g_lv [0, 1, 2, 3, 4, 5] (lv' := [(5, .int (nI cnt)), (4, .int x9), (3, .int (nI t)), (2, .ref (ad 85)), (1, .ref (ad 0)), (0, .ref (g_b V))]) rfl ?_
        exact J _ (Or.inr ⟨q51, by omega, rfl⟩)
      · -- 63
        refine g_iconst C (v := (-1)) dL_law_63 (by decide) ?_
        refine g_goto C (tgt := 76) dL_law_64 (by decide) ?_
        refine g_lv [0, 1, 2, 3, 4, 5] (lv' := [(5, .int (nI cnt)), (4, .int x9), (3, .int (nI t)), (2, .ref (ad 85)), (1, .ref (ad 0)), (0, .ref (g_b V))]) rfl ?_
        exact J _ (Or.inl rfl)
