/-! ===== the reference: foresee, advise ===== -/
set_option maxHeartbeats 4000000 in
set_option maxRecDepth 100000 in
theorem c_X5_foresee (l : Launch) (V : gT) {n : Nat} {ad : Nat → Nat} {el : Nat → va_E} {thr : Int32} {cnt : Nat} {M St We pl sh : Nat → Int32} {F T : Nat → Nat → Int32} (hn : 92 ≤ n) (hc : cnt ≤ 20) (h : X5At V ad el thr cnt M St We pl sh F T) (hstep : 0 < M 4) (x y : Int32) : TT l V yX5_foresee wsX5_foresee { frames := 4, cells := 3, slots := 15, locals := 94 } n ad el [.ref (ad 85), .int x, .int y] (QIw V n ad (fun r u => ((∃ N : Nat, 1 ≤ N ∧ N ≤ 20 ∧ x = nI N ∧ (0 ≤ y ∧ y ≤ 3) ∧ r = s_fore M St We pl N y ∧ ∃ sh1 : Nat → Int32, X5At V ad u 0 cnt M St We pl sh1 F T) ∨ (¬ (1 ≤ x ∧ x ≤ 20) ∧ X5At V ad u 1 cnt M St We pl sh F T) ∨ (((1 ≤ x ∧ x ≤ 20) ∧ ¬ (0 ≤ y ∧ y ≤ 3)) ∧ X5At V ad u 2 cnt M St We pl sh F T)) ∧ ∀ j, (j < 85 ∨ (92 ≤ j ∧ j < n)) → u j = el j)) 3 15 := by
  refine TT.body (cc := cX5_foresee) (maxL := 6) (ret := (some .int)) (by decide) rfl (Nat.le_of_ble_eq_true rfl) ?_
  intro p e s m below meth c C hnm
  refine g_lv [0, 1, 2] (lv' := [(0, .ref (ad 85)), (1, .int x), (2, .int y)]) rfl ?_
  obtain ⟨m1, ⟨g16, m2, r9⟩, ⟨g17, m3, r10⟩, ⟨g18, m4, r11⟩, ⟨g19, m5, r12⟩, ⟨g20, m6, r13⟩, ⟨g21, m7, r14⟩⟩ := id h
  refine g_aload_n C 0 rfl dX5_foresee_0 ?_
  refine g_iconst C (v := nI 0) dX5_foresee_1 (by decide) ?_
  refine g_putf C 85 (by omega) m1 rfl 0 (by decide) (fun w h => (List.mem_cons_of_mem _ (List.mem_append_right _ h))) tyX5 tyX5_ok nmX5 (List.mem_of_getElem? (i := 1) rfl) rfl rfl rfl rfl (Nat.le_of_ble_eq_true rfl) dX5_foresee_2 (fun el22 e23 o24 => ?_)
  replace e23 : el22 85 = .inr (5, [.int (nI 0), .int (nI cnt), .ref (ad 86), .ref (ad 87), .ref (ad 88), .ref (ad 89), .ref (ad 90), .ref (ad 91)]) := e23
  have m25 := (o24 86 (by omega)).trans m2
  have m26 := (o24 87 (by omega)).trans m3
  have m27 := (o24 88 (by omega)).trans m4
  have m28 := (o24 89 (by omega)).trans m5
  have m29 := (o24 90 (by omega)).trans m6
  have m30 := (o24 91 (by omega)).trans m7
  refine g_iload_n C 1 rfl dX5_foresee_5 ?_
  refine g_iconst C (v := nI 1) dX5_foresee_6 (by decide) ?_
  refine g_bipush C (v := nI 20) dX5_foresee_7 (by decide) ?_
  refine g_calli C (r_S C (st := []) (c_X5_isIn l V x 1 20) (va_cwS 3 C.ts gX5_foresee_X5_isIn rfl rfl rfl (by decide +kernel) ⟨(Nat.le_of_ble_eq_true rfl), (Nat.le_of_ble_eq_true rfl)⟩) rfl rfl (Nat.le_of_ble_eq_true rfl) dX5_foresee_9 ⟨(Nat.le_of_ble_eq_true rfl), (Nat.le_of_ble_eq_true rfl)⟩) (fun r u hu => ?_)
  subst hu
  refine g_if_ne C (tgt := 21) dX5_foresee_12 (by decide) (fun c12 => ?_) (fun c12 => ?_)
  · -- 21
    refine g_iload_n C 2 rfl dX5_foresee_21 ?_
    refine g_iconst C (v := nI 0) dX5_foresee_22 (by decide) ?_
    refine g_iconst C (v := nI 3) dX5_foresee_23 (by decide) ?_
    refine g_calli C (r_S C (st := []) (c_X5_isIn l V y 0 3) (va_cwS 3 C.ts gX5_foresee_X5_isIn rfl rfl rfl (by decide +kernel) ⟨(Nat.le_of_ble_eq_true rfl), (Nat.le_of_ble_eq_true rfl)⟩) rfl rfl (Nat.le_of_ble_eq_true rfl) dX5_foresee_24 ⟨(Nat.le_of_ble_eq_true rfl), (Nat.le_of_ble_eq_true rfl)⟩) (fun r u hu => ?_)
    subst hu
    refine g_if_ne C (tgt := 36) dX5_foresee_27 (by decide) (fun c27 => ?_) (fun c27 => ?_)
    · -- 36
      obtain ⟨N, hN1, hN, rfl⟩ := in_nat1 (s_in_1 c12)
      have hy := s_in_1 c27
      obtain ⟨w, hw, rfl⟩ := in_nat 3 hy (by decide)
      refine g_aload_n C 0 rfl dX5_foresee_36 ?_
      refine g_callr C (r_V C (st := []) (c_X5_kept l V (by omega) (by omega) ⟨e23, ⟨_, m25, r9⟩, ⟨_, m26, r10⟩, ⟨_, m27, r11⟩, ⟨_, m28, r12⟩, ⟨_, m29, r13⟩, ⟨_, m30, r14⟩⟩) (cwV 0 C.ts gX5_foresee_X5_kept rfl rfl rfl (by decide +kernel) ⟨(Nat.le_of_ble_eq_true rfl), (Nat.le_of_ble_eq_true rfl)⟩) (by omega) e23 rfl rfl rfl (Nat.le_of_ble_eq_true rfl) dX5_foresee_37 ⟨(Nat.le_of_ble_eq_true rfl), (Nat.le_of_ble_eq_true rfl)⟩) (fun n1 ad1 u hu => ?_)
      obtain ⟨e1, b1, b2, hKp⟩ := hu
      replace e1 : n1 = n + 3 := e1
      subst e1
      replace b1 : ∀ j, j < n → ad1 j = ad j := b1
      replace b2 : ∀ j, j < n → u j = el22 j := b2
      replace hKp : KeptAt V ad1 u n M We := hKp
      have hx1 : X5At V ad1 u 0 cnt M St We pl sh F T := (X5At.keep ⟨e23, ⟨_, m25, r9⟩, ⟨_, m26, r10⟩, ⟨_, m27, r11⟩, ⟨_, m28, r12⟩, ⟨_, m29, r13⟩, ⟨_, m30, r14⟩⟩ (fun j h8 h9 => b2 j (by omega))).adr (fun j h8 h9 => b1 j (by omega))
      refine g_lveq (lv' := [(0, .ref (ad1 85)), (1, .int (nI N)), (2, .int (nI w))]) (by rw [b1 85 (by omega)]) ?_
      obtain ⟨m31, ⟨g46, m32, r39⟩, ⟨g47, m33, r40⟩, ⟨g48, m34, r41⟩, ⟨g49, m35, r42⟩, ⟨g50, m36, r43⟩, ⟨g51, m37, r44⟩⟩ := id hx1
      refine g_astore_n C (lv' := [(3, .ref (ad1 n)), (0, .ref (ad1 85)), (1, .int (nI N)), (2, .int (nI w))]) dX5_foresee_40 (by decide) rfl ?_
      refine g_aload_n C 1 rfl dX5_foresee_41 ?_
      refine g_iload_n C 2 rfl dX5_foresee_42 ?_
      refine g_iload_n C 3 rfl dX5_foresee_43 ?_
      refine g_iconst C (v := nI 1) dX5_foresee_44 (by decide) ?_
      refine g_via (fun v : Int32 => v = if nI w = 1 then 1 else 0) 53 (fun _ => [(3, .ref (ad1 n)), (0, .ref (ad1 85)), (1, .int (nI N)), (2, .int (nI w))]) (fun v => .int v :: [.int (nI N), .ref (ad1 85)]) (fun v hv => ?_) (fun J => ?_)
      · -- join
        subst hv
        refine g_calli C (r_V C (st := []) (c_X5_wouldRun l V (by omega) (by omega) ⟨m31, ⟨_, m32, r39⟩, ⟨_, m33, r40⟩, ⟨_, m34, r41⟩, ⟨_, m35, r42⟩, ⟨_, m36, r43⟩, ⟨_, m37, r44⟩⟩ hstep N (by omega) (if nI w = 1 then 1 else 0)) (cwV 2 C.ts gX5_foresee_X5_wouldRun rfl rfl rfl (by decide +kernel) ⟨(Nat.le_of_ble_eq_true rfl), (Nat.le_of_ble_eq_true rfl)⟩) (by omega) m31 rfl rfl rfl (Nat.le_of_ble_eq_true rfl) dX5_foresee_53 ⟨(Nat.le_of_ble_eq_true rfl), (Nat.le_of_ble_eq_true rfl)⟩) (fun r8 u2 hu2 => ?_)
        obtain ⟨hr8, ⟨sh2, hx2⟩, hf2⟩ := hu2
        subst hr8
        obtain ⟨m52, ⟨g67, m53, r60⟩, ⟨g68, m54, r61⟩, ⟨g69, m55, r62⟩, ⟨g70, m56, r63⟩, ⟨g71, m57, r64⟩, ⟨g72, m58, r65⟩⟩ := id hx2
        refine g_istore C (lv' := [(4, .int (s_wr M St We pl (if nI w = 1 then 1 else 0) N)), (3, .ref (ad1 n)), (0, .ref (ad1 85)), (1, .int (nI N)), (2, .int (nI w))]) dX5_foresee_56 (by decide) rfl ?_
        refine g_iload_n C 4 rfl dX5_foresee_58 ?_
        refine g_iconst C (v := nI 2) dX5_foresee_59 (by decide) ?_
        refine g_via (fun v : Int32 => v = s_fore M St We pl N (nI w)) 86 (fun _ => [(4, .int (s_wr M St We pl (if nI w = 1 then 1 else 0) N)), (3, .ref (ad1 n)), (0, .ref (ad1 85)), (1, .int (nI N)), (2, .int (nI w))]) (fun v => .int v :: []) (fun v hv => ?_) (fun J => ?_)
        · -- join
          subst hv
          refine g_istore C (lv' := [(5, .int (s_fore M St We pl N (nI w))), (4, .int (s_wr M St We pl (if nI w = 1 then 1 else 0) N)), (3, .ref (ad1 n)), (0, .ref (ad1 85)), (1, .int (nI N)), (2, .int (nI w))]) dX5_foresee_86 (by decide) rfl ?_
          refine g_aload_n C 3 rfl dX5_foresee_88 ?_
          refine g_aload_n C 2 rfl dX5_foresee_89 ?_
          refine g_callv C (r_V C (st := []) (c_X5_bringBack l V (M := M) (We := We) n (by omega) (by omega) ⟨m52, ⟨_, m53, r60⟩, ⟨_, m54, r61⟩, ⟨_, m55, r62⟩, ⟨_, m56, r63⟩, ⟨_, m57, r64⟩, ⟨_, m58, r65⟩⟩ (hKp.keep (fun j h8 h9 => hf2 j (by omega)))) (cwV 1 C.ts gX5_foresee_X5_bringBack rfl rfl rfl (by decide +kernel) ⟨(Nat.le_of_ble_eq_true rfl), (Nat.le_of_ble_eq_true rfl)⟩) (by omega) m52 rfl rfl rfl (Nat.le_of_ble_eq_true rfl) dX5_foresee_90 ⟨(Nat.le_of_ble_eq_true rfl), (Nat.le_of_ble_eq_true rfl)⟩) (fun u3 hu3 => ?_)
          obtain ⟨hx3, hf3⟩ := hu3
          obtain ⟨m73, ⟨g88, m74, r81⟩, ⟨g89, m75, r82⟩, ⟨g90, m76, r83⟩, ⟨g91, m77, r84⟩, ⟨g92, m78, r85⟩, ⟨g93, m79, r86⟩⟩ := id hx3
          refine g_iload C 0 rfl dX5_foresee_93 ?_
          refine g_dropA (n' := n) (ad' := ad) (by omega) b1 ?_
          exact g_iret C rfl dX5_foresee_95 u3 rfl rfl rfl ⟨Or.inl ⟨N, hN1, hN, rfl, hy, rfl, sh2, X5At.adr ⟨m73, ⟨_, m74, r81⟩, ⟨_, m75, r82⟩, ⟨_, m76, r83⟩, ⟨_, m77, r84⟩, ⟨_, m78, r85⟩, ⟨_, m79, r86⟩⟩ (fun j h8 h9 => (b1 j (by omega)).symm)⟩, fun j hj => (hf3 j (by omega)).trans ((hf2 j (by omega)).trans ((b2 j (by omega)).trans ((o24 j (by omega)).trans (rfl))))⟩ (Nat.le_of_ble_eq_true rfl) (Nat.le_of_ble_eq_true rfl)
        · -- ways
          refine g_icmp_ge C (tgt := 68) dX5_foresee_60 (by decide) (fun c60 => ?_) (fun c60 => ?_)
          · -- 68
            have c60 : 2 ≤ w := (nI_leI (by omega) (by omega)).mp c60
            refine g_iload_n C 4 rfl dX5_foresee_68 ?_
            refine g_iconst C (v := nI 2) dX5_foresee_69 (by decide) ?_
            refine g_icmp_ne C (tgt := 80) dX5_foresee_70 (by decide) (fun c70 => ?_) (fun c70 => ?_)
            · -- 80
              refine g_aload_n C 2 rfl dX5_foresee_80 ?_
              refine g_getf C 85 (by omega) m52 rfl 3 (by decide) (fun w h => (List.mem_cons_of_mem _ (List.mem_append_right _ h))) (List.mem_of_getElem? (i := 2) rfl) rfl rfl dX5_foresee_81 ?_
              refine g_iconst C (v := nI 2) dX5_foresee_84 (by decide) ?_
              refine g_iald C 87 (by omega) m54 2 rfl (by omega) (by decide) dX5_foresee_85 ?_
              refine g_top (r61 2 (by omega) : g68 2 = (s_rM M N) 2) ?_
              exact J _ (by
                    have e3 : w = 3 := by
                      have e2 : ¬ w = 2 := fun z => c70 (congrArg nI z)
                      omega
                    subst e3; exact fore_3 M St We pl N)
            · -- 73
              refine g_aload_n C 2 rfl dX5_foresee_73 ?_
              refine g_calli C (r_V C (st := []) (c_X5_broken l V (by omega) (by omega) ⟨m52, ⟨_, m53, r60⟩, ⟨_, m54, r61⟩, ⟨_, m55, r62⟩, ⟨_, m56, r63⟩, ⟨_, m57, r64⟩, ⟨_, m58, r65⟩⟩) (cwV 0 C.ts gX5_foresee_X5_broken rfl rfl rfl (by decide +kernel) ⟨(Nat.le_of_ble_eq_true rfl), (Nat.le_of_ble_eq_true rfl)⟩) (by omega) m52 rfl rfl rfl (Nat.le_of_ble_eq_true rfl) dX5_foresee_74 ⟨(Nat.le_of_ble_eq_true rfl), (Nat.le_of_ble_eq_true rfl)⟩) (fun r u hu => ?_)
              subst hu
              refine g_goto C (tgt := 86) dX5_foresee_77 (by decide) ?_
              exact J _ (by rw [c70]; exact fore_2 M St We pl N)
          · -- 63
            have c60 : w < 2 := Nat.lt_of_not_le (fun z => c60 ((nI_leI (by omega) (by omega)).mpr z))
            refine g_iload C 0 rfl dX5_foresee_63 ?_
            refine g_goto C (tgt := 86) dX5_foresee_65 (by decide) ?_
            exact J _ (fore_lt M St We pl N c60)
      · -- ways
        refine g_icmp_ne C (tgt := 52) dX5_foresee_45 (by decide) (fun c45 => ?_) (fun c45 => ?_)
        · -- 52
          have c45 : ¬ nI w = 1 := c45
          refine g_iconst C (v := nI 0) dX5_foresee_52 (by decide) ?_
          exact J _ ((if_neg c45).symm)
        · -- 48
          have c45 : nI w = 1 := c45
          refine g_iconst C (v := nI 1) dX5_foresee_48 (by decide) ?_
          refine g_goto C (tgt := 53) dX5_foresee_49 (by decide) ?_
          exact J _ ((if_pos c45).symm)
    · -- 30
      refine g_aload_n C 0 rfl dX5_foresee_30 ?_
      refine g_iconst C (v := nI 2) dX5_foresee_31 (by decide) ?_
      refine g_calli C (r_V C (st := []) (c_X5_fail l V (by omega) (by omega) ⟨e23, ⟨_, m25, r9⟩, ⟨_, m26, r10⟩, ⟨_, m27, r11⟩, ⟨_, m28, r12⟩, ⟨_, m29, r13⟩, ⟨_, m30, r14⟩⟩ 2) (cwV 1 C.ts gX5_foresee_X5_fail rfl rfl rfl (by decide +kernel) ⟨(Nat.le_of_ble_eq_true rfl), (Nat.le_of_ble_eq_true rfl)⟩) (by omega) e23 rfl rfl rfl (Nat.le_of_ble_eq_true rfl) dX5_foresee_32 ⟨(Nat.le_of_ble_eq_true rfl), (Nat.le_of_ble_eq_true rfl)⟩) (fun r9 u hu => ?_)
      exact g_iret C rfl dX5_foresee_35 u rfl rfl rfl ⟨Or.inr (Or.inr ⟨⟨s_in_1 c12, s_in_0 c27⟩, hu.2.1⟩), fun j hj => (hu.2.2 j (by omega)).trans ((o24 j (by omega)).trans (rfl))⟩ (Nat.le_of_ble_eq_true rfl) (Nat.le_of_ble_eq_true rfl)
  · -- 15
    refine g_aload_n C 0 rfl dX5_foresee_15 ?_
    refine g_iconst C (v := nI 1) dX5_foresee_16 (by decide) ?_
    refine g_calli C (r_V C (st := []) (c_X5_fail l V (by omega) (by omega) ⟨e23, ⟨_, m25, r9⟩, ⟨_, m26, r10⟩, ⟨_, m27, r11⟩, ⟨_, m28, r12⟩, ⟨_, m29, r13⟩, ⟨_, m30, r14⟩⟩ 1) (cwV 1 C.ts gX5_foresee_X5_fail rfl rfl rfl (by decide +kernel) ⟨(Nat.le_of_ble_eq_true rfl), (Nat.le_of_ble_eq_true rfl)⟩) (by omega) e23 rfl rfl rfl (Nat.le_of_ble_eq_true rfl) dX5_foresee_17 ⟨(Nat.le_of_ble_eq_true rfl), (Nat.le_of_ble_eq_true rfl)⟩) (fun r9 u hu => ?_)
    exact g_iret C rfl dX5_foresee_20 u rfl rfl rfl ⟨Or.inr (Or.inl ⟨s_in_0 c12, hu.2.1⟩), fun j hj => (hu.2.2 j (by omega)).trans ((o24 j (by omega)).trans (rfl))⟩ (Nat.le_of_ble_eq_true rfl) (Nat.le_of_ble_eq_true rfl)

set_option maxHeartbeats 4000000 in
set_option maxRecDepth 100000 in
theorem c_X5_advise (l : Launch) (V : gT) {n : Nat} {ad : Nat → Nat} {el : Nat → va_E} {thr : Int32} {cnt : Nat} {M St We pl sh : Nat → Int32} {F T : Nat → Nat → Int32} (hn : 92 ≤ n) (hc : cnt ≤ 20) (h : X5At V ad el thr cnt M St We pl sh F T) (hstep : 0 < M 4) (x : Int32) : TT l V yX5_advise wsX5_advise { frames := 4, cells := 3, slots := 15, locals := 94 } n ad el [.ref (ad 85), .int x] (QIw V n ad (fun r u => ((∃ N : Nat, 1 ≤ N ∧ N ≤ 20 ∧ x = nI N ∧ r = s_adv M St We pl N ∧ ∃ sh1 : Nat → Int32, X5At V ad u 0 cnt M St We pl sh1 F T) ∨ (¬ (1 ≤ x ∧ x ≤ 20) ∧ X5At V ad u 1 cnt M St We pl sh F T)) ∧ ∀ j, (j < 85 ∨ (92 ≤ j ∧ j < n)) → u j = el j)) 3 15 := by
  refine TT.body (cc := cX5_advise) (maxL := 7) (ret := (some .int)) (by decide) rfl (Nat.le_of_ble_eq_true rfl) ?_
  intro p e s m below meth c C hnm
  refine g_lv [0, 1] (lv' := [(0, .ref (ad 85)), (1, .int x)]) rfl ?_
  obtain ⟨m1, ⟨g16, m2, r9⟩, ⟨g17, m3, r10⟩, ⟨g18, m4, r11⟩, ⟨g19, m5, r12⟩, ⟨g20, m6, r13⟩, ⟨g21, m7, r14⟩⟩ := id h
  refine g_aload_n C 0 rfl dX5_advise_0 ?_
  refine g_iconst C (v := nI 0) dX5_advise_1 (by decide) ?_
  refine g_putf C 85 (by omega) m1 rfl 0 (by decide) (fun w h => (List.mem_cons_of_mem _ (List.mem_append_right _ h))) tyX5 tyX5_ok nmX5 (List.mem_of_getElem? (i := 1) rfl) rfl rfl rfl rfl (Nat.le_of_ble_eq_true rfl) dX5_advise_2 (fun el22 e23 o24 => ?_)
  replace e23 : el22 85 = .inr (5, [.int (nI 0), .int (nI cnt), .ref (ad 86), .ref (ad 87), .ref (ad 88), .ref (ad 89), .ref (ad 90), .ref (ad 91)]) := e23
  have m25 := (o24 86 (by omega)).trans m2
  have m26 := (o24 87 (by omega)).trans m3
  have m27 := (o24 88 (by omega)).trans m4
  have m28 := (o24 89 (by omega)).trans m5
  have m29 := (o24 90 (by omega)).trans m6
  have m30 := (o24 91 (by omega)).trans m7
  refine g_iload_n C 1 rfl dX5_advise_5 ?_
  refine g_iconst C (v := nI 1) dX5_advise_6 (by decide) ?_
  refine g_bipush C (v := nI 20) dX5_advise_7 (by decide) ?_
  refine g_calli C (r_S C (st := []) (c_X5_isIn l V x 1 20) (va_cwS 3 C.ts gX5_advise_X5_isIn rfl rfl rfl (by decide +kernel) ⟨(Nat.le_of_ble_eq_true rfl), (Nat.le_of_ble_eq_true rfl)⟩) rfl rfl (Nat.le_of_ble_eq_true rfl) dX5_advise_9 ⟨(Nat.le_of_ble_eq_true rfl), (Nat.le_of_ble_eq_true rfl)⟩) (fun r u hu => ?_)
  subst hu
  refine g_if_ne C (tgt := 21) dX5_advise_12 (by decide) (fun c12 => ?_) (fun c12 => ?_)
  · -- 21
    obtain ⟨N, hN1, hN, rfl⟩ := in_nat1 (s_in_1 c12)
    refine g_aload_n C 0 rfl dX5_advise_21 ?_
    refine g_callr C (r_V C (st := []) (c_X5_kept l V (by omega) (by omega) ⟨e23, ⟨_, m25, r9⟩, ⟨_, m26, r10⟩, ⟨_, m27, r11⟩, ⟨_, m28, r12⟩, ⟨_, m29, r13⟩, ⟨_, m30, r14⟩⟩) (cwV 0 C.ts gX5_advise_X5_kept rfl rfl rfl (by decide +kernel) ⟨(Nat.le_of_ble_eq_true rfl), (Nat.le_of_ble_eq_true rfl)⟩) (by omega) e23 rfl rfl rfl (Nat.le_of_ble_eq_true rfl) dX5_advise_22 ⟨(Nat.le_of_ble_eq_true rfl), (Nat.le_of_ble_eq_true rfl)⟩) (fun n1 ad1 u hu => ?_)
    obtain ⟨e1, b1, b2, hKp⟩ := hu
    replace e1 : n1 = n + 3 := e1
    subst e1
    replace b1 : ∀ j, j < n → ad1 j = ad j := b1
    replace b2 : ∀ j, j < n → u j = el22 j := b2
    replace hKp : KeptAt V ad1 u n M We := hKp
    have hx1 : X5At V ad1 u 0 cnt M St We pl sh F T := (X5At.keep ⟨e23, ⟨_, m25, r9⟩, ⟨_, m26, r10⟩, ⟨_, m27, r11⟩, ⟨_, m28, r12⟩, ⟨_, m29, r13⟩, ⟨_, m30, r14⟩⟩ (fun j h8 h9 => b2 j (by omega))).adr (fun j h8 h9 => b1 j (by omega))
    refine g_lveq (lv' := [(0, .ref (ad1 85)), (1, .int (nI N))]) (by rw [b1 85 (by omega)]) ?_
    obtain ⟨m31, ⟨g46, m32, r39⟩, ⟨g47, m33, r40⟩, ⟨g48, m34, r41⟩, ⟨g49, m35, r42⟩, ⟨g50, m36, r43⟩, ⟨g51, m37, r44⟩⟩ := id hx1
    refine g_astore_n C (lv' := [(2, .ref (ad1 n)), (0, .ref (ad1 85)), (1, .int (nI N))]) dX5_advise_25 (by decide) rfl ?_
    refine g_iconst C (v := nI 0) dX5_advise_26 (by decide) ?_
    refine g_istore_n C (lv' := [(3, .int (nI 0)), (2, .ref (ad1 n)), (0, .ref (ad1 85)), (1, .int (nI N))]) dX5_advise_27 (by decide) rfl ?_
    refine g_iconst C (v := (-1)) dX5_advise_28 (by decide) ?_
    refine g_istore C (lv' := [(4, .int ((-1))), (3, .int (nI 0)), (2, .ref (ad1 n)), (0, .ref (ad1 85)), (1, .int (nI N))]) dX5_advise_29 (by decide) rfl ?_
    refine g_bipush C (v := nI 10) dX5_advise_31 (by decide) ?_
    refine g_istore C (lv' := [(5, .int (nI 10)), (4, .int ((-1))), (3, .int (nI 0)), (2, .ref (ad1 n)), (0, .ref (ad1 85)), (1, .int (nI N))]) dX5_advise_33 (by decide) rfl ?_
    refine g_lv [0, 1, 2, 4, 5, 3] (lv' := [(5, .int (nI 10)), (4, .int ((-1))), (3, .int (nI 0)), (0, .ref (ad1 85)), (1, .int (nI N)), (2, .ref (ad1 n))]) rfl ?_
    refine g_forE 21 (fun (i : Nat) => [(5, .int (nI (10 + i))), (4, .int (s_best1 (fun i => s_tC (upd M 0 (nI (10 + i))) St We pl (fun _ => 0) N) i)), (3, .int (s_bestR (fun i => s_tC (upd M 0 (nI (10 + i))) St We pl (fun _ => 0) N) i)), (0, .ref (ad1 85)), (1, .int (nI N)), (2, .ref (ad1 n))]) (fun i el1 => (∃ sh1 : Nat → Int32, X5At V ad1 el1 0 cnt M St We pl sh1 F T) ∧ KeptAt V ad1 el1 n M We ∧ ∀ j, (j < 85 ∨ (92 ≤ j ∧ j < n)) → el1 j = u j) ⟨⟨sh, hx1⟩, hKp, fun j _ => rfl⟩ (fun el1 h1 => ?_) (fun i el1 hi h1 ih => ?_)
    · -- loop 35: its end
      obtain ⟨⟨sh1, a1⟩, hKq, a4⟩ := id h1
      obtain ⟨m52, ⟨g67, m53, r60⟩, ⟨g68, m54, r61⟩, ⟨g69, m55, r62⟩, ⟨g70, m56, r63⟩, ⟨g71, m57, r64⟩, ⟨g72, m58, r65⟩⟩ := id a1
      refine g_iload C 0 rfl dX5_advise_35 ?_
      refine g_bipush C (v := nI 30) dX5_advise_37 (by decide) ?_
      refine g_icmp_gt C (tgt := 86) dX5_advise_39 (by decide) (fun c39 => ?_) (fun c39 => ?_)
      · -- 86
        have c39 : 30 < (10 + 21) := (nI_ltI (by omega) (by omega)).mp c39
        refine g_iload_n C 2 rfl dX5_advise_86 ?_
        refine g_dropA (n' := n) (ad' := ad) (by omega) b1 ?_
        exact g_iret C rfl dX5_advise_87 el1 rfl rfl rfl ⟨Or.inl ⟨N, hN1, hN, rfl, s_adv_R M St We pl hN, sh1, X5At.adr ⟨m52, ⟨_, m53, r60⟩, ⟨_, m54, r61⟩, ⟨_, m55, r62⟩, ⟨_, m56, r63⟩, ⟨_, m57, r64⟩, ⟨_, m58, r65⟩⟩ (fun j h8 h9 => (b1 j (by omega)).symm)⟩, fun j hj => (a4 j hj).trans ((b2 j (by omega)).trans ((o24 j (by omega)).trans (rfl)))⟩ (Nat.le_of_ble_eq_true rfl) (Nat.le_of_ble_eq_true rfl)
      · -- 42
        have c39 : (10 + 21) ≤ 30 := Nat.le_of_not_lt (fun z => c39 ((nI_ltI (by omega) (by omega)).mpr z))
        exact absurd c39 (by omega)
    · -- loop 35: its body
      obtain ⟨⟨sh1, a1⟩, hKq, a4⟩ := id h1
      obtain ⟨m73, ⟨g88, m74, r81⟩, ⟨g89, m75, r82⟩, ⟨g90, m76, r83⟩, ⟨g91, m77, r84⟩, ⟨g92, m78, r85⟩, ⟨g93, m79, r86⟩⟩ := id a1
      refine g_iload C 0 rfl dX5_advise_35 ?_
      refine g_bipush C (v := nI 30) dX5_advise_37 (by decide) ?_
      refine g_icmp_gt C (tgt := 86) dX5_advise_39 (by decide) (fun c39 => ?_) (fun c39 => ?_)
      · -- 86
        have c39 : 30 < (10 + i) := (nI_ltI (by omega) (by omega)).mp c39
        exact absurd c39 (by omega)
      · -- 42
        have c39 : (10 + i) ≤ 30 := Nat.le_of_not_lt (fun z => c39 ((nI_ltI (by omega) (by omega)).mpr z))
        refine g_aload_n C 3 rfl dX5_advise_42 ?_
        refine g_getf C 85 (by omega) m73 rfl 3 (by decide) (fun w h => (List.mem_cons_of_mem _ (List.mem_append_right _ h))) (List.mem_of_getElem? (i := 2) rfl) rfl rfl dX5_advise_43 ?_
        refine g_iconst C (v := nI 0) dX5_advise_46 (by decide) ?_
        refine g_iload C 0 rfl dX5_advise_47 ?_
        refine g_iast C 87 (by omega) m75 0 rfl (by omega) (by decide) dX5_advise_49 (fun el94 e95 o96 => ?_)
        have r97 : ∀ j, j < 6 → upd g89 0 (nI (10 + i)) j = (upd M 0 (nI (10 + i))) j := upd_rel r82 0 _
        have m98 := (o96 85 (by omega)).trans m73
        have m99 := (o96 86 (by omega)).trans m74
        have m100 := (o96 88 (by omega)).trans m76
        have m101 := (o96 89 (by omega)).trans m77
        have m102 := (o96 90 (by omega)).trans m78
        have m103 := (o96 91 (by omega)).trans m79
        refine g_aload_n C 3 rfl dX5_advise_50 ?_
        refine g_iload_n C 4 rfl dX5_advise_51 ?_
        refine g_iconst C (v := nI 0) dX5_advise_52 (by decide) ?_
        refine g_calli C (r_V C (st := []) (c_X5_wouldRun l V (by omega) (by omega) ⟨m98, ⟨_, m99, r81⟩, ⟨_, e95, r97⟩, ⟨_, m100, r83⟩, ⟨_, m101, r84⟩, ⟨_, m102, r85⟩, ⟨_, m103, r86⟩⟩ (by rw [pk_un (by decide)]; exact hstep) N (by omega) 0) (cwV 2 C.ts gX5_advise_X5_wouldRun rfl rfl rfl (by decide +kernel) ⟨(Nat.le_of_ble_eq_true rfl), (Nat.le_of_ble_eq_true rfl)⟩) (by omega) m98 rfl rfl rfl (Nat.le_of_ble_eq_true rfl) dX5_advise_53 ⟨(Nat.le_of_ble_eq_true rfl), (Nat.le_of_ble_eq_true rfl)⟩) (fun r8 u2 hu2 => ?_)
        obtain ⟨hr8, ⟨sh2, hx2⟩, hf2⟩ := hu2
        subst hr8
        obtain ⟨m104, ⟨g119, m105, r112⟩, ⟨g120, m106, r113⟩, ⟨g121, m107, r114⟩, ⟨g122, m108, r115⟩, ⟨g123, m109, r116⟩, ⟨g124, m110, r117⟩⟩ := id hx2
        refine g_top (s_wr_0 _ _ _ _ _ : s_wr (upd M 0 (nI (10 + i))) St We pl 0 N = (fun i => s_tC (upd M 0 (nI (10 + i))) St We pl (fun _ => 0) N) i) ?_
        refine g_istore C (lv' := [(6, .int ((fun i => s_tC (upd M 0 (nI (10 + i))) St We pl (fun _ => 0) N) i)), (5, .int (nI (10 + i))), (4, .int (s_best1 (fun i => s_tC (upd M 0 (nI (10 + i))) St We pl (fun _ => 0) N) i)), (3, .int (s_bestR (fun i => s_tC (upd M 0 (nI (10 + i))) St We pl (fun _ => 0) N) i)), (0, .ref (ad1 85)), (1, .int (nI N)), (2, .ref (ad1 n))]) dX5_advise_56 (by decide) rfl ?_
        refine g_aload_n C 4 rfl dX5_advise_58 ?_
        refine g_aload_n C 6 rfl dX5_advise_59 ?_
        refine g_callv C (r_V C (st := []) (c_X5_bringBack l V (M := M) (We := We) n (by omega) (by omega) ⟨m104, ⟨_, m105, r112⟩, ⟨_, m106, r113⟩, ⟨_, m107, r114⟩, ⟨_, m108, r115⟩, ⟨_, m109, r116⟩, ⟨_, m110, r117⟩⟩ (hKq.keep (fun j h8 h9 => (hf2 j (by omega)).trans (o96 j (by omega))))) (cwV 1 C.ts gX5_advise_X5_bringBack rfl rfl rfl (by decide +kernel) ⟨(Nat.le_of_ble_eq_true rfl), (Nat.le_of_ble_eq_true rfl)⟩) (by omega) m104 rfl rfl rfl (Nat.le_of_ble_eq_true rfl) dX5_advise_60 ⟨(Nat.le_of_ble_eq_true rfl), (Nat.le_of_ble_eq_true rfl)⟩) (fun u3 hu3 => ?_)
        obtain ⟨hx3, hf3⟩ := hu3
        obtain ⟨m125, ⟨g140, m126, r133⟩, ⟨g141, m127, r134⟩, ⟨g142, m128, r135⟩, ⟨g143, m129, r136⟩, ⟨g144, m130, r137⟩, ⟨g145, m131, r138⟩⟩ := id hx3
        refine g_iload C 0 rfl dX5_advise_63 ?_
        refine g_iload C 2 rfl dX5_advise_65 ?_
        refine g_icmp_gt C (tgt := 73) dX5_advise_67 (by decide) (fun c67 => ?_) (fun c67 => ?_)
        · -- 73
          refine g_iload C 1 rfl dX5_advise_73 ?_
          refine g_istore_n C (lv' := [(3, .int (nI (10 + i))), (6, .int ((fun i => s_tC (upd M 0 (nI (10 + i))) St We pl (fun _ => 0) N) i)), (5, .int (nI (10 + i))), (4, .int (s_best1 (fun i => s_tC (upd M 0 (nI (10 + i))) St We pl (fun _ => 0) N) i)), (0, .ref (ad1 85)), (1, .int (nI N)), (2, .ref (ad1 n))]) dX5_advise_75 (by decide) rfl ?_
          refine g_iload C 1 rfl dX5_advise_76 ?_
          refine g_istore C (lv' := [(4, .int ((fun i => s_tC (upd M 0 (nI (10 + i))) St We pl (fun _ => 0) N) i)), (3, .int (nI (10 + i))), (6, .int ((fun i => s_tC (upd M 0 (nI (10 + i))) St We pl (fun _ => 0) N) i)), (5, .int (nI (10 + i))), (0, .ref (ad1 85)), (1, .int (nI N)), (2, .ref (ad1 n))]) dX5_advise_78 (by decide) rfl ?_
          refine g_iinc C 3 rfl (v := nI (10 + i + 1)) (lv' := [(5, .int (nI (10 + i + 1))), (4, .int ((fun i => s_tC (upd M 0 (nI (10 + i))) St We pl (fun _ => 0) N) i)), (3, .int (nI (10 + i))), (6, .int ((fun i => s_tC (upd M 0 (nI (10 + i))) St We pl (fun _ => 0) N) i)), (0, .ref (ad1 85)), (1, .int (nI N)), (2, .ref (ad1 n))]) dX5_advise_80 (nI_add _ _) (by decide) rfl ?_
          refine g_goto C (tgt := 35) dX5_advise_83 (by decide) ?_
          refine g_lv [0, 1, 2, 4, 5, 6] (lv' := [(5, .int (nI (10 + i + 1))), (4, .int ((fun i => s_tC (upd M 0 (nI (10 + i))) St We pl (fun _ => 0) N) i)), (3, .int (nI (10 + i))), (0, .ref (ad1 85)), (1, .int (nI N)), (2, .ref (ad1 n))]) rfl ?_
          have e7 : s_bestR (fun i => s_tC (upd M 0 (nI (10 + i))) St We pl (fun _ => 0) N) (i + 1) = nI (10 + i) := if_neg (i_nle c67)
          have e8 : s_best1 (fun i => s_tC (upd M 0 (nI (10 + i))) St We pl (fun _ => 0) N) (i + 1) = (fun i => s_tC (upd M 0 (nI (10 + i))) St We pl (fun _ => 0) N) i := if_neg (i_nle c67)
          refine g_lveq (lv' := [(5, .int (nI (10 + (i + 1)))), (4, .int (s_best1 (fun i => s_tC (upd M 0 (nI (10 + i))) St We pl (fun _ => 0) N) (i + 1))), (3, .int (s_bestR (fun i => s_tC (upd M 0 (nI (10 + i))) St We pl (fun _ => 0) N) (i + 1))), (0, .ref (ad1 85)), (1, .int (nI N)), (2, .ref (ad1 n))]) (by rw [e7, e8] <;> rfl) ?_
          exact ih _ ⟨⟨sh2, ⟨m125, ⟨_, m126, r133⟩, ⟨_, m127, r134⟩, ⟨_, m128, r135⟩, ⟨_, m129, r136⟩, ⟨_, m130, r137⟩, ⟨_, m131, r138⟩⟩⟩, hKq.keep (fun j h8 h9 => (hf3 j (by omega)).trans ((hf2 j (by omega)).trans (o96 j (by omega)))), fun j hj => (hf3 j (by omega)).trans ((hf2 j (by omega)).trans ((o96 j (by omega)).trans (a4 j hj)))⟩
        · -- 70
          refine g_goto C (tgt := 80) dX5_advise_70 (by decide) ?_
          refine g_iinc C 1 rfl (v := nI (10 + i + 1)) (lv' := [(5, .int (nI (10 + i + 1))), (6, .int ((fun i => s_tC (upd M 0 (nI (10 + i))) St We pl (fun _ => 0) N) i)), (4, .int (s_best1 (fun i => s_tC (upd M 0 (nI (10 + i))) St We pl (fun _ => 0) N) i)), (3, .int (s_bestR (fun i => s_tC (upd M 0 (nI (10 + i))) St We pl (fun _ => 0) N) i)), (0, .ref (ad1 85)), (1, .int (nI N)), (2, .ref (ad1 n))]) dX5_advise_80 (nI_add _ _) (by decide) rfl ?_
          refine g_goto C (tgt := 35) dX5_advise_83 (by decide) ?_
          refine g_lv [0, 2, 3, 4, 5, 6] (lv' := [(5, .int (nI (10 + i + 1))), (4, .int (s_best1 (fun i => s_tC (upd M 0 (nI (10 + i))) St We pl (fun _ => 0) N) i)), (3, .int (s_bestR (fun i => s_tC (upd M 0 (nI (10 + i))) St We pl (fun _ => 0) N) i)), (0, .ref (ad1 85)), (1, .int (nI N)), (2, .ref (ad1 n))]) rfl ?_
          have e7 : s_bestR (fun i => s_tC (upd M 0 (nI (10 + i))) St We pl (fun _ => 0) N) (i + 1) = s_bestR (fun i => s_tC (upd M 0 (nI (10 + i))) St We pl (fun _ => 0) N) i := if_pos (i_ge c67)
          have e8 : s_best1 (fun i => s_tC (upd M 0 (nI (10 + i))) St We pl (fun _ => 0) N) (i + 1) = s_best1 (fun i => s_tC (upd M 0 (nI (10 + i))) St We pl (fun _ => 0) N) i := if_pos (i_ge c67)
          refine g_lveq (lv' := [(5, .int (nI (10 + (i + 1)))), (4, .int (s_best1 (fun i => s_tC (upd M 0 (nI (10 + i))) St We pl (fun _ => 0) N) (i + 1))), (3, .int (s_bestR (fun i => s_tC (upd M 0 (nI (10 + i))) St We pl (fun _ => 0) N) (i + 1))), (0, .ref (ad1 85)), (1, .int (nI N)), (2, .ref (ad1 n))]) (by rw [e7, e8] <;> rfl) ?_
          exact ih _ ⟨⟨sh2, ⟨m125, ⟨_, m126, r133⟩, ⟨_, m127, r134⟩, ⟨_, m128, r135⟩, ⟨_, m129, r136⟩, ⟨_, m130, r137⟩, ⟨_, m131, r138⟩⟩⟩, hKq.keep (fun j h8 h9 => (hf3 j (by omega)).trans ((hf2 j (by omega)).trans (o96 j (by omega)))), fun j hj => (hf3 j (by omega)).trans ((hf2 j (by omega)).trans ((o96 j (by omega)).trans (a4 j hj)))⟩
  · -- 15
    refine g_aload_n C 0 rfl dX5_advise_15 ?_
    refine g_iconst C (v := nI 1) dX5_advise_16 (by decide) ?_
    refine g_calli C (r_V C (st := []) (c_X5_fail l V (by omega) (by omega) ⟨e23, ⟨_, m25, r9⟩, ⟨_, m26, r10⟩, ⟨_, m27, r11⟩, ⟨_, m28, r12⟩, ⟨_, m29, r13⟩, ⟨_, m30, r14⟩⟩ 1) (cwV 1 C.ts gX5_advise_X5_fail rfl rfl rfl (by decide +kernel) ⟨(Nat.le_of_ble_eq_true rfl), (Nat.le_of_ble_eq_true rfl)⟩) (by omega) e23 rfl rfl rfl (Nat.le_of_ble_eq_true rfl) dX5_advise_17 ⟨(Nat.le_of_ble_eq_true rfl), (Nat.le_of_ble_eq_true rfl)⟩) (fun r9 u hu => ?_)
    exact g_iret C rfl dX5_advise_20 u rfl rfl rfl ⟨Or.inr ⟨s_in_0 c12, hu.2.1⟩, fun j hj => (hu.2.2 j (by omega)).trans ((o24 j (by omega)).trans (rfl))⟩ (Nat.le_of_ble_eq_true rfl) (Nat.le_of_ble_eq_true rfl)
