/-! ===== the law: what a number chooses ===== -/
theorem in_lo {a : Nat} (h1 : 10 ≤ a) (h2 : a ≤ 30) : (10 : Int32) ≤ nI a ∧ nI a ≤ 30 := ⟨nI_le (a := 10) h1 (by omega), nI_le (b := 30) h2 (by omega)⟩

set_option maxHeartbeats 4000000 in
set_option maxRecDepth 100000 in
theorem c_L_act (l : Launch) (V : gT) {n : Nat} {ad : Nat → Nat} {el : Nat → va_E} {B cnt : Nat} {M St We pl : Nat → Int32} {F T : Nat → Nat → Int32} (hI : Inv V n ad el B cnt M St We pl F T) (x : Int32) : TT l V yL_act wsL_act { frames := 8, cells := 20, slots := 130, locals := 137 } n ad el [.ref (ad 0), .ref (ad 85), .int x] (QIn V (fun r u => r = 1 ∧ (∃ (cnt' : Nat) (M' St' We' pl' : Nat → Int32) (F' T' : Nat → Nat → Int32), Inv V u.1 u.2.1 u.2.2 B cnt' M' St' We' pl' F' T' ∧ cnt ≤ cnt' ∧ ∀ q, q < cnt → ∀ j, j < 30 → F' q j = F q j) ∧ (∀ j, j < 86 ∨ (97 ≤ j ∧ j < B) → u.2.1 j = ad j) ∧ ∀ j, 97 ≤ j → j < B → u.2.2 j = el j)) 20 130 := by
  refine TT.body (cc := cL_act) (maxL := 16) (ret := (some .boolean)) (by decide) rfl (Nat.le_of_ble_eq_true rfl) ?_
  intro p e s m below meth c C hnm
  refine g_lv [0, 1, 2] (lv' := [(0, .ref (ad 0)), (1, .ref (ad 85)), (2, .int x)]) rfl ?_
  obtain ⟨hB, hc, hn, h, hs, hP⟩ := id hI
  obtain ⟨y1, y2, y3, y4, y5, y6, y7, y8⟩ := id hs
  obtain ⟨g9, h10, z11⟩ := id y2
  obtain ⟨g12, h13, z14⟩ := id y3
  obtain ⟨g15, h16, z17⟩ := id y4
  obtain ⟨⟨g18, h19, z20⟩, r21⟩ := id y5
  obtain ⟨g22, h23, z24⟩ := id y6
  obtain ⟨g25, h26, z27⟩ := id y7
  refine g_aload_n C 1 rfl dL_act_0 ?_
  refine g_getf C 85 (by omega) y1 rfl 10 (by decide) (fun w h => (List.mem_cons_of_mem _ (List.mem_append_left _ (List.mem_append_left _ (List.mem_append_left _ (List.mem_append_left _ (List.mem_append_left _ (List.mem_append_left _ (List.mem_append_left _ (List.mem_append_right _ h)))))))))) (List.mem_of_getElem? (i := 1) rfl) rfl rfl dL_act_1 ?_
  refine g_alen C 95 (by omega) 7 rfl h23 (v := nI cnt) rfl dL_act_4 ?_
  refine g_istore_n C (lv' := [(3, .int (nI cnt)), (0, .ref (ad 0)), (1, .ref (ad 85)), (2, .int x)]) dL_act_5 (by decide) rfl ?_
  refine g_iload_n C 3 rfl dL_act_6 ?_
  refine g_bipush C (v := nI 9) dL_act_7 (by decide) ?_
  refine g_ishr C (v := x >>> (9 &&& 31)) dL_act_9 rfl ?_
  refine g_bipush C (v := nI 12) dL_act_10 (by decide) ?_
  refine g_calli C (r_S C (st := []) (c_L_below l V (x >>> (9 &&& 31)) 12 (by omega) (by omega)) (va_cwS 2 C.ts gL_act_L_below rfl rfl rfl (by decide +kernel) ⟨(Nat.le_of_ble_eq_true rfl), (Nat.le_of_ble_eq_true rfl)⟩) rfl rfl (Nat.le_of_ble_eq_true rfl) dL_act_12 ⟨(by show _ ≤ 20; omega), (by show _ ≤ 130; omega)⟩) (fun r u hu => ?_)
  obtain ⟨q28, hq29, rfl⟩ := hu
  refine g_via (fun _ : Unit => True) 68 (fun _ => [(3, .int (nI cnt)), (0, .ref (ad 0)), (1, .ref (ad 85)), (2, .int x)]) (fun _ => []) (fun _ _ => ?_) (fun J68 => ?_)
  · -- case 68
    refine g_bipush C (v := nI 100) dL_act_68 (by decide) ?_
    refine g_aload_n C 2 rfl dL_act_70 ?_
    refine g_getf C 85 (by omega) y1 rfl 0 (by decide) (fun w h => (List.mem_cons_of_mem _ (List.mem_append_left _ (List.mem_append_left _ (List.mem_append_left _ (List.mem_append_left _ (List.mem_append_left _ (List.mem_append_left _ (List.mem_append_left _ (List.mem_append_right _ h)))))))))) (List.mem_of_getElem? (i := 2) rfl) rfl rfl dL_act_71 ?_
    refine g_imul C (v := 100 * (M 0)) dL_act_74 rfl ?_
    refine g_aload_n C 2 rfl dL_act_75 ?_
    refine g_getf C 85 (by omega) y1 rfl 1 (by decide) (fun w h => (List.mem_cons_of_mem _ (List.mem_append_left _ (List.mem_append_left _ (List.mem_append_left _ (List.mem_append_left _ (List.mem_append_left _ (List.mem_append_left _ (List.mem_append_left _ (List.mem_append_right _ h)))))))))) (List.mem_of_getElem? (i := 3) rfl) rfl rfl dL_act_76 ?_
    refine g_iadd C (v := (100 * (M 0)) + (M 1)) dL_act_79 rfl ?_
    refine g_istore C (lv' := [(4, .int ((100 * (M 0)) + (M 1))), (3, .int (nI cnt)), (0, .ref (ad 0)), (1, .ref (ad 85)), (2, .int x)]) dL_act_80 (by decide) rfl ?_
    refine g_aload_n C 3 rfl dL_act_82 ?_
    refine g_iload_n C 4 rfl dL_act_83 ?_
    refine g_iconst C (v := nI 5) dL_act_84 (by decide) ?_
    refine g_ishr C (v := x >>> (5 &&& 31)) dL_act_85 rfl ?_
    refine g_iconst C (v := nI 2) dL_act_86 (by decide) ?_
    refine g_calli C (r_S C (st := [.ref (ad 85)]) (c_L_below l V (x >>> (5 &&& 31)) 2 (by omega) (by omega)) (va_cwS 2 C.ts gL_act_L_below rfl rfl rfl (by decide +kernel) ⟨(Nat.le_of_ble_eq_true rfl), (Nat.le_of_ble_eq_true rfl)⟩) rfl rfl (Nat.le_of_ble_eq_true rfl) dL_act_87 ⟨(by show _ ≤ 20; omega), (by show _ ≤ 130; omega)⟩) (fun r u hu => ?_)
    obtain ⟨q30, hq31, rfl⟩ := hu
    refine g_via (fun v : Int32 => ∃ a : Nat, 10 ≤ a ∧ a ≤ 30 ∧ v = nI a) 109 (fun _ => [(4, .int ((100 * (M 0)) + (M 1))), (3, .int (nI cnt)), (0, .ref (ad 0)), (1, .ref (ad 85)), (2, .int x)]) (fun v => .int v :: [.ref (ad 85)]) (fun v hv => ?_) (fun J => ?_)
    · -- join
      obtain ⟨a, ha1, ha2, rfl⟩ := hv
      refine g_putf C 85 (by omega) y1 rfl 0 (by decide) (fun w h => (List.mem_cons_of_mem _ (List.mem_append_left _ (List.mem_append_left _ (List.mem_append_left _ (List.mem_append_left _ (List.mem_append_left _ (List.mem_append_left _ (List.mem_append_left _ (List.mem_append_right _ h)))))))))) tyX5 tyX5_ok nmX5 (List.mem_of_getElem? (i := 2) rfl) rfl rfl rfl rfl (Nat.le_of_ble_eq_true rfl) dL_act_109 (fun el32 e33 o34 => ?_)
      replace e33 : el32 85 = .inr (5, [.int (nI a), .int (M 1), .int (M 2), .int (M 3), .int (M 4), .int (M 5), .ref (ad 86), .ref (ad 87), .ref (ad 88), .ref (ad 89), .ref (ad 95), .ref (ad 96)]) := e33
      have m35 := (o34 86 (by omega)).trans h10
      have m36 := (o34 87 (by omega)).trans h13
      have m37 := (o34 88 (by omega)).trans h16
      have m38 := (o34 89 (by omega)).trans h19
      have m39 := (o34 95 (by omega)).trans h23
      have m40 := (o34 96 (by omega)).trans h26
      have m41 := (o34 0 (by omega)).trans h.1
      refine g_aload_n C 3 rfl dL_act_112 ?_
      refine g_iload_n C 4 rfl dL_act_113 ?_
      refine g_bipush C (v := nI 6) dL_act_114 (by decide) ?_
      refine g_ishr C (v := x >>> (6 &&& 31)) dL_act_116 rfl ?_
      refine g_iconst C (v := nI 2) dL_act_117 (by decide) ?_
      refine g_calli C (r_S C (st := [.ref (ad 85)]) (c_L_below l V (x >>> (6 &&& 31)) 2 (by omega) (by omega)) (va_cwS 2 C.ts gL_act_L_below rfl rfl rfl (by decide +kernel) ⟨(Nat.le_of_ble_eq_true rfl), (Nat.le_of_ble_eq_true rfl)⟩) rfl rfl (Nat.le_of_ble_eq_true rfl) dL_act_118 ⟨(by show _ ≤ 20; omega), (by show _ ≤ 130; omega)⟩) (fun r u hu => ?_)
      obtain ⟨q42, hq43, rfl⟩ := hu
      refine g_via (fun v : Int32 => (-9 : Int32) ≤ v ∧ v ≤ 9) 139 (fun _ => [(4, .int ((100 * (M 0)) + (M 1))), (3, .int (nI cnt)), (0, .ref (ad 0)), (1, .ref (ad 85)), (2, .int x)]) (fun v => .int v :: [.ref (ad 85)]) (fun v hv => ?_) (fun J => ?_)
      · -- join
        refine g_putf C 85 (by omega) e33 rfl 1 (by decide) (fun w h => (List.mem_cons_of_mem _ (List.mem_append_left _ (List.mem_append_left _ (List.mem_append_left _ (List.mem_append_left _ (List.mem_append_left _ (List.mem_append_left _ (List.mem_append_left _ (List.mem_append_right _ h)))))))))) tyX5 tyX5_ok nmX5 (List.mem_of_getElem? (i := 3) rfl) rfl rfl rfl rfl (Nat.le_of_ble_eq_true rfl) dL_act_139 (fun el44 e45 o46 => ?_)
        replace e45 : el44 85 = .inr (5, [.int (nI a), .int v, .int (M 2), .int (M 3), .int (M 4), .int (M 5), .ref (ad 86), .ref (ad 87), .ref (ad 88), .ref (ad 89), .ref (ad 95), .ref (ad 96)]) := e45
        have m47 := (o46 86 (by omega)).trans m35
        have m48 := (o46 87 (by omega)).trans m36
        have m49 := (o46 88 (by omega)).trans m37
        have m50 := (o46 89 (by omega)).trans m38
        have m51 := (o46 95 (by omega)).trans m39
        have m52 := (o46 96 (by omega)).trans m40
        have m53 := (o46 0 (by omega)).trans m41
        refine g_aload_n C 2 rfl dL_act_142 ?_
        refine g_aload_n C 3 rfl dL_act_143 ?_
        refine g_getf C 85 (by omega) e45 rfl 0 (by decide) (fun w h => (List.mem_cons_of_mem _ (List.mem_append_left _ (List.mem_append_left _ (List.mem_append_left _ (List.mem_append_left _ (List.mem_append_left _ (List.mem_append_left _ (List.mem_append_left _ (List.mem_append_right _ h)))))))))) (List.mem_of_getElem? (i := 2) rfl) rfl rfl dL_act_144 ?_
        refine g_aload_n C 3 rfl dL_act_147 ?_
        refine g_getf C 85 (by omega) e45 rfl 1 (by decide) (fun w h => (List.mem_cons_of_mem _ (List.mem_append_left _ (List.mem_append_left _ (List.mem_append_left _ (List.mem_append_left _ (List.mem_append_left _ (List.mem_append_left _ (List.mem_append_left _ (List.mem_append_right _ h)))))))))) (List.mem_of_getElem? (i := 3) rfl) rfl rfl dL_act_148 ?_
        have hx9 : X4At V ad el44 cnt M St We pl F T := (h.keep (fun j hj => (o46 j (by omega)).trans (o34 j (by omega))))
        refine g_calli C (r_V C (st := []) (c_X4_setFeed l V (by omega) hc hx9 (nI a) v ⟨in_lo ha1 ha2, hv⟩) (cwV 2 C.ts gL_act_X4_setFeed rfl rfl rfl (by decide +kernel) ⟨(Nat.le_of_ble_eq_true rfl), (Nat.le_of_ble_eq_true rfl)⟩) (by omega) hx9.1 rfl rfl rfl (Nat.le_of_ble_eq_true rfl) dL_act_151 ⟨(by show _ ≤ 20; omega), (by show _ ≤ 130; omega)⟩) (fun r u hu => ?_)
        obtain ⟨hr, hx10, hfr⟩ := hu
        have hs9 : SimAt V ad u B cnt (upd (upd M 0 (nI a)) 1 v) St We pl F T := (hs.put (el' := el44) hB e45 (hs.2.2.1.keep ((o46 87 (by omega)).trans (o34 87 (by omega)))) (hs.2.2.2.1.keep ((o46 88 (by omega)).trans (o34 88 (by omega)))) (fun j hj h5 h7 h8 => (o46 j (by omega)).trans (o34 j (by omega)))).keep (fun j hj => hfr j (by omega))
        subst hr
        refine g_iload C 0 rfl dL_act_154 ?_
        refine g_icmp_ne C (tgt := 163) dL_act_156 (by decide) (fun c156 => ?_) (fun c156 => ?_)
        · -- 163
          exact absurd rfl c156
        · -- 159
          refine g_iconst C (v := nI 1) dL_act_159 (by decide) ?_
          refine g_goto C (tgt := 164) dL_act_160 (by decide) ?_
          exact g_zret C rfl rfl dL_act_164 (n, ad, u) rfl rfl rfl ⟨rfl, ⟨cnt, (upd (upd M 0 (nI a)) 1 v), St, We, pl, F, T, ⟨hB, hc, hn, hx10, hs9, hP.mac (by rw [pk_un (by decide), pk_un (by decide)]; exact hP.1)⟩, Nat.le_refl _, fun q hq j hj => rfl⟩, fun j hj => rfl, fun j h1 h2 => (hfr j (by omega)).trans ((o46 j (by omega)).trans (o34 j (by omega)))⟩ (by omega) (by omega)
      · -- ways
        refine g_if_ne C (tgt := 128) dL_act_121 (by decide) (fun c121 => ?_) (fun c121 => ?_)
        · -- 128
          refine g_iload_n C 4 rfl dL_act_128 ?_
          refine g_iconst C (v := nI 3) dL_act_129 (by decide) ?_
          refine g_ishr C (v := x >>> (3 &&& 31)) dL_act_130 rfl ?_
          refine g_bipush C (v := nI 19) dL_act_131 (by decide) ?_
          refine g_calli C (r_S C (st := [.ref (ad 85)]) (c_L_below l V (x >>> (3 &&& 31)) 19 (by omega) (by omega)) (va_cwS 2 C.ts gL_act_L_below rfl rfl rfl (by decide +kernel) ⟨(Nat.le_of_ble_eq_true rfl), (Nat.le_of_ble_eq_true rfl)⟩) rfl rfl (Nat.le_of_ble_eq_true rfl) dL_act_133 ⟨(by show _ ≤ 20; omega), (by show _ ≤ 130; omega)⟩) (fun r u hu => ?_)
          obtain ⟨q54, hq55, rfl⟩ := hu
          refine g_bipush C (v := nI 9) dL_act_136 (by decide) ?_
          refine g_isub C (v := (nI q54) - 9) dL_act_138 rfl ?_
          refine g_lv [0, 1, 2, 3, 4] (lv' := [(4, .int ((100 * (M 0)) + (M 1))), (3, .int (nI cnt)), (0, .ref (ad 0)), (1, .ref (ad 85)), (2, .int x)]) rfl ?_
          exact J _ (dr9 _ (by omega))
        · -- 124
          refine g_iconst C (v := nI 0) dL_act_124 (by decide) ?_
          refine g_goto C (tgt := 139) dL_act_125 (by decide) ?_
          refine g_lv [0, 1, 2, 3, 4] (lv' := [(4, .int ((100 * (M 0)) + (M 1))), (3, .int (nI cnt)), (0, .ref (ad 0)), (1, .ref (ad 85)), (2, .int x)]) rfl ?_
          exact J _ ((by decide))
    · -- ways
      refine g_if_ne C (tgt := 98) dL_act_90 (by decide) (fun c90 => ?_) (fun c90 => ?_)
      · -- 98
        refine g_bipush C (v := nI 10) dL_act_98 (by decide) ?_
        refine g_iload_n C 4 rfl dL_act_100 ?_
        refine g_iconst C (v := nI 2) dL_act_101 (by decide) ?_
        refine g_ishr C (v := x >>> (2 &&& 31)) dL_act_102 rfl ?_
        refine g_bipush C (v := nI 21) dL_act_103 (by decide) ?_
        refine g_calli C (r_S C (st := [.int (nI 10), .ref (ad 85)]) (c_L_below l V (x >>> (2 &&& 31)) 21 (by omega) (by omega)) (va_cwS 2 C.ts gL_act_L_below rfl rfl rfl (by decide +kernel) ⟨(Nat.le_of_ble_eq_true rfl), (Nat.le_of_ble_eq_true rfl)⟩) rfl rfl (Nat.le_of_ble_eq_true rfl) dL_act_105 ⟨(by show _ ≤ 20; omega), (by show _ ≤ 130; omega)⟩) (fun r u hu => ?_)
        obtain ⟨q56, hq57, rfl⟩ := hu
        refine g_iadd C (v := nI (10 + q56)) dL_act_108 (nI_add _ _) ?_
        refine g_lv [0, 1, 2, 3, 4] (lv' := [(4, .int ((100 * (M 0)) + (M 1))), (3, .int (nI cnt)), (0, .ref (ad 0)), (1, .ref (ad 85)), (2, .int x)]) rfl ?_
        exact J _ (⟨10 + q56, by omega, by omega, rfl⟩)
      · -- 93
        refine g_bipush C (v := nI 20) dL_act_93 (by decide) ?_
        refine g_goto C (tgt := 109) dL_act_95 (by decide) ?_
        refine g_lv [0, 1, 2, 3, 4] (lv' := [(4, .int ((100 * (M 0)) + (M 1))), (3, .int (nI cnt)), (0, .ref (ad 0)), (1, .ref (ad 85)), (2, .int x)]) rfl ?_
        exact J _ (⟨20, by omega, by omega, rfl⟩)
  refine g_via (fun _ : Unit => True) 165 (fun _ => [(3, .int (nI cnt)), (0, .ref (ad 0)), (1, .ref (ad 85)), (2, .int x)]) (fun _ => []) (fun _ _ => ?_) (fun J165 => ?_)
  · -- case 165
    refine g_aload_n C 2 rfl dL_act_165 ?_
    refine g_getf C 85 (by omega) y1 rfl 2 (by decide) (fun w h => (List.mem_cons_of_mem _ (List.mem_append_left _ (List.mem_append_left _ (List.mem_append_left _ (List.mem_append_left _ (List.mem_append_left _ (List.mem_append_left _ (List.mem_append_left _ (List.mem_append_right _ h)))))))))) (List.mem_of_getElem? (i := 4) rfl) rfl rfl dL_act_166 ?_
    refine g_istore C (lv' := [(5, .int (M 2)), (3, .int (nI cnt)), (0, .ref (ad 0)), (1, .ref (ad 85)), (2, .int x)]) dL_act_169 (by decide) rfl ?_
    refine g_aload_n C 3 rfl dL_act_171 ?_
    refine g_iconst C (v := nI 0) dL_act_172 (by decide) ?_
    refine g_putf C 85 (by omega) y1 rfl 2 (by decide) (fun w h => (List.mem_cons_of_mem _ (List.mem_append_left _ (List.mem_append_left _ (List.mem_append_left _ (List.mem_append_left _ (List.mem_append_left _ (List.mem_append_left _ (List.mem_append_left _ (List.mem_append_right _ h)))))))))) tyX5 tyX5_ok nmX5 (List.mem_of_getElem? (i := 4) rfl) rfl rfl rfl rfl (Nat.le_of_ble_eq_true rfl) dL_act_173 (fun el58 e59 o60 => ?_)
    replace e59 : el58 85 = .inr (5, [.int (M 0), .int (M 1), .int (nI 0), .int (M 3), .int (M 4), .int (M 5), .ref (ad 86), .ref (ad 87), .ref (ad 88), .ref (ad 89), .ref (ad 95), .ref (ad 96)]) := e59
    have m61 := (o60 86 (by omega)).trans h10
    have m62 := (o60 87 (by omega)).trans h13
    have m63 := (o60 88 (by omega)).trans h16
    have m64 := (o60 89 (by omega)).trans h19
    have m65 := (o60 95 (by omega)).trans h23
    have m66 := (o60 96 (by omega)).trans h26
    have m67 := (o60 0 (by omega)).trans h.1
    refine g_aload_n C 2 rfl dL_act_176 ?_
    have hx9 : X4At V ad el58 cnt M St We pl F T := (h.keep (fun j hj => o60 j (by omega)))
    refine g_calli C (r_V C (st := []) (c_X4_align l V (by omega) hc hx9) (cwV 0 C.ts gL_act_X4_align rfl rfl rfl (by decide +kernel) ⟨(Nat.le_of_ble_eq_true rfl), (Nat.le_of_ble_eq_true rfl)⟩) (by omega) hx9.1 rfl rfl rfl (Nat.le_of_ble_eq_true rfl) dL_act_177 ⟨(by show _ ≤ 20; omega), (by show _ ≤ 130; omega)⟩) (fun r u hu => ?_)
    obtain ⟨hr, hx10, hfr⟩ := hu
    have hs9 : SimAt V ad u B cnt (upd M 2 0) St We pl F T := (hs.put (el' := el58) hB e59 (hs.2.2.1.keep (o60 87 (by omega))) (hs.2.2.2.1.keep (o60 88 (by omega))) (fun j hj h5 h7 h8 => o60 j (by omega))).keep (fun j hj => hfr j (by omega))
    subst hr
    refine g_iload C 0 rfl dL_act_180 ?_
    refine g_icmp_ne C (tgt := 189) dL_act_182 (by decide) (fun c182 => ?_) (fun c182 => ?_)
    · -- 189
      exact absurd rfl c182
    · -- 185
      refine g_iconst C (v := nI 1) dL_act_185 (by decide) ?_
      refine g_goto C (tgt := 190) dL_act_186 (by decide) ?_
      exact g_zret C rfl rfl dL_act_190 (n, ad, u) rfl rfl rfl ⟨rfl, ⟨cnt, (upd M 2 0), St, We, pl, F, T, ⟨hB, hc, hn, hx10, hs9, hP.mac (by rw [pk_un (by decide)]; exact hP.1)⟩, Nat.le_refl _, fun q hq j hj => rfl⟩, fun j hj => rfl, fun j h1 h2 => (hfr j (by omega)).trans (o60 j (by omega))⟩ (by omega) (by omega)
  refine g_via (fun _ : Unit => True) 191 (fun _ => [(3, .int (nI cnt)), (0, .ref (ad 0)), (1, .ref (ad 85)), (2, .int x)]) (fun _ => []) (fun _ _ => ?_) (fun J191 => ?_)
  · -- case 191
    refine g_aload_n C 2 rfl dL_act_191 ?_
    refine g_getf C 85 (by omega) y1 rfl 3 (by decide) (fun w h => (List.mem_cons_of_mem _ (List.mem_append_left _ (List.mem_append_left _ (List.mem_append_left _ (List.mem_append_left _ (List.mem_append_left _ (List.mem_append_left _ (List.mem_append_left _ (List.mem_append_right _ h)))))))))) (List.mem_of_getElem? (i := 5) rfl) rfl rfl dL_act_192 ?_
    refine g_istore C (lv' := [(6, .int (M 3)), (3, .int (nI cnt)), (0, .ref (ad 0)), (1, .ref (ad 85)), (2, .int x)]) dL_act_195 (by decide) rfl ?_
    refine g_aload_n C 3 rfl dL_act_197 ?_
    refine g_iconst C (v := nI 1) dL_act_198 (by decide) ?_
    refine g_iload_n C 4 rfl dL_act_199 ?_
    refine g_iconst C (v := nI 3) dL_act_200 (by decide) ?_
    refine g_imul C (v := x * 3) dL_act_201 rfl ?_
    refine g_sipush C (v := nI 400) dL_act_202 (by decide) ?_
    refine g_calli C (r_S C (st := [.int (nI 1), .ref (ad 85)]) (c_L_below l V (x * 3) 400 (by omega) (by omega)) (va_cwS 2 C.ts gL_act_L_below rfl rfl rfl (by decide +kernel) ⟨(Nat.le_of_ble_eq_true rfl), (Nat.le_of_ble_eq_true rfl)⟩) rfl rfl (Nat.le_of_ble_eq_true rfl) dL_act_205 ⟨(by show _ ≤ 20; omega), (by show _ ≤ 130; omega)⟩) (fun r u hu => ?_)
    obtain ⟨q68, hq69, rfl⟩ := hu
    refine g_iadd C (v := nI (1 + q68)) dL_act_208 (nI_add _ _) ?_
    refine g_putf C 85 (by omega) y1 rfl 3 (by decide) (fun w h => (List.mem_cons_of_mem _ (List.mem_append_left _ (List.mem_append_left _ (List.mem_append_left _ (List.mem_append_left _ (List.mem_append_left _ (List.mem_append_left _ (List.mem_append_left _ (List.mem_append_right _ h)))))))))) tyX5 tyX5_ok nmX5 (List.mem_of_getElem? (i := 5) rfl) rfl rfl rfl rfl (Nat.le_of_ble_eq_true rfl) dL_act_209 (fun el70 e71 o72 => ?_)
    replace e71 : el70 85 = .inr (5, [.int (M 0), .int (M 1), .int (M 2), .int (nI (1 + q68)), .int (M 4), .int (M 5), .ref (ad 86), .ref (ad 87), .ref (ad 88), .ref (ad 89), .ref (ad 95), .ref (ad 96)]) := e71
    have m73 := (o72 86 (by omega)).trans h10
    have m74 := (o72 87 (by omega)).trans h13
    have m75 := (o72 88 (by omega)).trans h16
    have m76 := (o72 89 (by omega)).trans h19
    have m77 := (o72 95 (by omega)).trans h23
    have m78 := (o72 96 (by omega)).trans h26
    have m79 := (o72 0 (by omega)).trans h.1
    refine g_aload_n C 3 rfl dL_act_212 ?_
    refine g_iconst C (v := nI 1) dL_act_213 (by decide) ?_
    refine g_iload_n C 4 rfl dL_act_214 ?_
    refine g_iconst C (v := nI 4) dL_act_215 (by decide) ?_
    refine g_ishr C (v := x >>> (4 &&& 31)) dL_act_216 rfl ?_
    refine g_bipush C (v := nI 9) dL_act_217 (by decide) ?_
    refine g_calli C (r_S C (st := [.int (nI 1), .ref (ad 85)]) (c_L_below l V (x >>> (4 &&& 31)) 9 (by omega) (by omega)) (va_cwS 2 C.ts gL_act_L_below rfl rfl rfl (by decide +kernel) ⟨(Nat.le_of_ble_eq_true rfl), (Nat.le_of_ble_eq_true rfl)⟩) rfl rfl (Nat.le_of_ble_eq_true rfl) dL_act_219 ⟨(by show _ ≤ 20; omega), (by show _ ≤ 130; omega)⟩) (fun r u hu => ?_)
    obtain ⟨q80, hq81, rfl⟩ := hu
    refine g_iadd C (v := nI (1 + q80)) dL_act_222 (nI_add _ _) ?_
    refine g_putf C 85 (by omega) e71 rfl 4 (by decide) (fun w h => (List.mem_cons_of_mem _ (List.mem_append_left _ (List.mem_append_left _ (List.mem_append_left _ (List.mem_append_left _ (List.mem_append_left _ (List.mem_append_left _ (List.mem_append_left _ (List.mem_append_right _ h)))))))))) tyX5 tyX5_ok nmX5 (List.mem_of_getElem? (i := 6) rfl) rfl rfl rfl rfl (Nat.le_of_ble_eq_true rfl) dL_act_223 (fun el82 e83 o84 => ?_)
    replace e83 : el82 85 = .inr (5, [.int (M 0), .int (M 1), .int (M 2), .int (nI (1 + q68)), .int (nI (1 + q80)), .int (M 5), .ref (ad 86), .ref (ad 87), .ref (ad 88), .ref (ad 89), .ref (ad 95), .ref (ad 96)]) := e83
    have m85 := (o84 86 (by omega)).trans m73
    have m86 := (o84 87 (by omega)).trans m74
    have m87 := (o84 88 (by omega)).trans m75
    have m88 := (o84 89 (by omega)).trans m76
    have m89 := (o84 95 (by omega)).trans m77
    have m90 := (o84 96 (by omega)).trans m78
    have m91 := (o84 0 (by omega)).trans m79
    refine g_aload_n C 3 rfl dL_act_226 ?_
    refine g_iconst C (v := nI 0) dL_act_227 (by decide) ?_
    refine g_putf C 85 (by omega) e83 rfl 5 (by decide) (fun w h => (List.mem_cons_of_mem _ (List.mem_append_left _ (List.mem_append_left _ (List.mem_append_left _ (List.mem_append_left _ (List.mem_append_left _ (List.mem_append_left _ (List.mem_append_left _ (List.mem_append_right _ h)))))))))) tyX5 tyX5_ok nmX5 (List.mem_of_getElem? (i := 7) rfl) rfl rfl rfl rfl (Nat.le_of_ble_eq_true rfl) dL_act_228 (fun el92 e93 o94 => ?_)
    replace e93 : el92 85 = .inr (5, [.int (M 0), .int (M 1), .int (M 2), .int (nI (1 + q68)), .int (nI (1 + q80)), .int (nI 0), .ref (ad 86), .ref (ad 87), .ref (ad 88), .ref (ad 89), .ref (ad 95), .ref (ad 96)]) := e93
    have m95 := (o94 86 (by omega)).trans m85
    have m96 := (o94 87 (by omega)).trans m86
    have m97 := (o94 88 (by omega)).trans m87
    have m98 := (o94 89 (by omega)).trans m88
    have m99 := (o94 95 (by omega)).trans m89
    have m100 := (o94 96 (by omega)).trans m90
    have m101 := (o94 0 (by omega)).trans m91
    refine g_aload_n C 2 rfl dL_act_231 ?_
    refine g_aload_n C 3 rfl dL_act_232 ?_
    refine g_getf C 85 (by omega) e93 rfl 3 (by decide) (fun w h => (List.mem_cons_of_mem _ (List.mem_append_left _ (List.mem_append_left _ (List.mem_append_left _ (List.mem_append_left _ (List.mem_append_left _ (List.mem_append_left _ (List.mem_append_left _ (List.mem_append_right _ h)))))))))) (List.mem_of_getElem? (i := 5) rfl) rfl rfl dL_act_233 ?_
    refine g_aload_n C 3 rfl dL_act_236 ?_
    refine g_getf C 85 (by omega) e93 rfl 4 (by decide) (fun w h => (List.mem_cons_of_mem _ (List.mem_append_left _ (List.mem_append_left _ (List.mem_append_left _ (List.mem_append_left _ (List.mem_append_left _ (List.mem_append_left _ (List.mem_append_left _ (List.mem_append_right _ h)))))))))) (List.mem_of_getElem? (i := 6) rfl) rfl rfl dL_act_237 ?_
    have hx9 : X4At V ad el92 cnt M St We pl F T := (h.keep (fun j hj => (o94 j (by omega)).trans ((o84 j (by omega)).trans (o72 j (by omega)))))
    refine g_calli C (r_V C (st := []) (c_X4_roll l V (by omega) hc hx9 (nI (1 + q68)) (nI (1 + q80)) ⟨in_le1 (N := 400) (by omega) (by omega) (by omega), in_le1 (N := 9) (by omega) (by omega) (by omega)⟩) (cwV 2 C.ts gL_act_X4_roll rfl rfl rfl (by decide +kernel) ⟨(Nat.le_of_ble_eq_true rfl), (Nat.le_of_ble_eq_true rfl)⟩) (by omega) hx9.1 rfl rfl rfl (Nat.le_of_ble_eq_true rfl) dL_act_240 ⟨(by show _ ≤ 20; omega), (by show _ ≤ 130; omega)⟩) (fun r u hu => ?_)
    obtain ⟨hr, hx10, hfr⟩ := hu
    have hs9 : SimAt V ad u B cnt (upd (upd (upd M 3 (nI (1 + q68))) 5 0) 4 (nI (1 + q80))) St We pl F T := (hs.put (el' := el92) hB e93 (hs.2.2.1.keep ((o94 87 (by omega)).trans ((o84 87 (by omega)).trans (o72 87 (by omega))))) (hs.2.2.2.1.keep ((o94 88 (by omega)).trans ((o84 88 (by omega)).trans (o72 88 (by omega))))) (fun j hj h5 h7 h8 => (o94 j (by omega)).trans ((o84 j (by omega)).trans (o72 j (by omega))))).keep (fun j hj => hfr j (by omega))
    subst hr
    refine g_iload C 0 rfl dL_act_243 ?_
    refine g_icmp_ne C (tgt := 252) dL_act_245 (by decide) (fun c245 => ?_) (fun c245 => ?_)
    · -- 252
      exact absurd rfl c245
    · -- 248
      refine g_iconst C (v := nI 1) dL_act_248 (by decide) ?_
      refine g_goto C (tgt := 253) dL_act_249 (by decide) ?_
      exact g_zret C rfl rfl dL_act_253 (n, ad, u) rfl rfl rfl ⟨rfl, ⟨cnt, (upd (upd (upd M 3 (nI (1 + q68))) 5 0) 4 (nI (1 + q80))), St, We, pl, F, T, ⟨hB, hc, hn, hx10, hs9, hP.mac (by rw [pk_us]; exact nI_lt (a := 0) (by omega) (by omega))⟩, Nat.le_refl _, fun q hq j hj => rfl⟩, fun j hj => rfl, fun j h1 h2 => (hfr j (by omega)).trans ((o94 j (by omega)).trans ((o84 j (by omega)).trans (o72 j (by omega))))⟩ (by omega) (by omega)
  refine g_via (fun _ : Unit => True) 254 (fun _ => [(3, .int (nI cnt)), (0, .ref (ad 0)), (1, .ref (ad 85)), (2, .int x)]) (fun _ => []) (fun _ _ => ?_) (fun J254 => ?_)
  · -- case 254
    refine g_iload_n C 3 rfl dL_act_254 ?_
    refine g_bipush C (v := nI 7) dL_act_255 (by decide) ?_
    refine g_calli C (r_S C (st := []) (c_L_below l V x 7 (by omega) (by omega)) (va_cwS 2 C.ts gL_act_L_below rfl rfl rfl (by decide +kernel) ⟨(Nat.le_of_ble_eq_true rfl), (Nat.le_of_ble_eq_true rfl)⟩) rfl rfl (Nat.le_of_ble_eq_true rfl) dL_act_257 ⟨(by show _ ≤ 20; omega), (by show _ ≤ 130; omega)⟩) (fun r u hu => ?_)
    obtain ⟨q102, hq103, rfl⟩ := hu
    refine g_istore C (lv' := [(7, .int (nI q102)), (3, .int (nI cnt)), (0, .ref (ad 0)), (1, .ref (ad 85)), (2, .int x)]) dL_act_260 (by decide) rfl ?_
    refine g_aload_n C 3 rfl dL_act_262 ?_
    refine g_getf C 85 (by omega) y1 rfl 7 (by decide) (fun w h => (List.mem_cons_of_mem _ (List.mem_append_left _ (List.mem_append_left _ (List.mem_append_left _ (List.mem_append_left _ (List.mem_append_left _ (List.mem_append_left _ (List.mem_append_left _ (List.mem_append_right _ h)))))))))) (List.mem_of_getElem? (i := 8) rfl) rfl rfl dL_act_263 ?_
    refine g_iload C 0 rfl dL_act_266 ?_
    refine g_iald C 87 (by omega) h13 q102 rfl (by omega) (by decide) dL_act_268 ?_
    refine g_top ((z14 q102 (by omega)) : g12 q102 = We q102) ?_
    refine g_istore C (lv' := [(8, .int (We q102)), (7, .int (nI q102)), (3, .int (nI cnt)), (0, .ref (ad 0)), (1, .ref (ad 85)), (2, .int x)]) dL_act_269 (by decide) rfl ?_
    refine g_aload_n C 4 rfl dL_act_271 ?_
    refine g_getf C 85 (by omega) y1 rfl 6 (by decide) (fun w h => (List.mem_cons_of_mem _ (List.mem_append_left _ (List.mem_append_left _ (List.mem_append_left _ (List.mem_append_left _ (List.mem_append_left _ (List.mem_append_left _ (List.mem_append_left _ (List.mem_append_right _ h)))))))))) (List.mem_of_getElem? (i := 9) rfl) rfl rfl dL_act_272 ?_
    refine g_cloneI C (index := 59) (List.forall_mem_cons.mpr ⟨(List.mem_of_getElem? (i := 10) rfl), List.forall_mem_cons.mpr ⟨(List.mem_of_getElem? (i := 11) rfl), List.forall_mem_cons.mpr ⟨(List.mem_of_getElem? (i := 12) rfl), List.forall_mem_cons.mpr ⟨(List.mem_of_getElem? (i := 13) rfl), List.forall_mem_cons.mpr ⟨(List.mem_of_getElem? (i := 14) rfl), fun _ h => absurd h List.not_mem_nil⟩⟩⟩⟩⟩) 86 (by omega) h10 (Nat.le_of_ble_eq_true rfl) (Nat.le_of_ble_eq_true rfl) (by show _ ≤ 20; omega) (by show _ ≤ 130; omega) dL_act_275 (fun ad104 el105 ha106 he107 hb108 => ?_)
    refine g_lveq (lv' := [(8, .int (We q102)), (7, .int (nI q102)), (3, .int (nI cnt)), (0, .ref (ad104 0)), (1, .ref (ad104 85)), (2, .int x)]) (by rw [ha106 0 (by omega), ha106 85 (by omega)]) ?_
    have m109 : el105 85 = .inr (5, [.int (M 0), .int (M 1), .int (M 2), .int (M 3), .int (M 4), .int (M 5), .ref (ad104 86), .ref (ad104 87), .ref (ad104 88), .ref (ad104 89), .ref (ad104 95), .ref (ad104 96)]) := by rw [hb108 85 (by omega), y1, ha106 86 (by omega), ha106 87 (by omega), ha106 88 (by omega), ha106 89 (by omega), ha106 95 (by omega), ha106 96 (by omega)]
    have m110 := (hb108 86 (by omega)).trans h10
    have m111 := (hb108 87 (by omega)).trans h13
    have m112 := (hb108 88 (by omega)).trans h16
    have m113 := (hb108 89 (by omega)).trans h19
    have m114 := (hb108 95 (by omega)).trans h23
    have m115 := (hb108 96 (by omega)).trans h26
    have m116 : el105 0 = .inr (4, [.ref (ad104 1), .ref (ad104 10), .ref (ad104 23), .ref (ad104 24), .int (nI cnt)]) := by rw [hb108 0 (by omega), h.1, ha106 1 (by omega), ha106 10 (by omega), ha106 23 (by omega), ha106 24 (by omega)]
    refine g_castI C (index := 60) (List.mem_of_getElem? (i := 15) rfl) n (by omega) he107 dL_act_278 ?_
    refine g_astore C (lv' := [(9, .ref (ad104 n)), (8, .int (We q102)), (7, .int (nI q102)), (3, .int (nI cnt)), (0, .ref (ad104 0)), (1, .ref (ad104 85)), (2, .int x)]) dL_act_281 (by decide) rfl ?_
    refine g_aload C 0 rfl dL_act_283 ?_
    refine g_iload C 2 rfl dL_act_285 ?_
    refine g_iconst C (v := nI 1) dL_act_287 (by decide) ?_
    refine g_iload_n C 6 rfl dL_act_288 ?_
    refine g_iconst C (v := nI 2) dL_act_289 (by decide) ?_
    refine g_ishr C (v := x >>> (2 &&& 31)) dL_act_290 rfl ?_
    refine g_iload_n C 6 rfl dL_act_291 ?_
    refine g_iconst C (v := nI 5) dL_act_292 (by decide) ?_
    refine g_ishr C (v := x >>> (5 &&& 31)) dL_act_293 rfl ?_
    refine g_iconst C (v := nI 3) dL_act_294 (by decide) ?_
    refine g_calli C (r_S C (st := [.int (x >>> (2 &&& 31)), .int (nI 1), .int (nI q102), .ref (ad104 n)]) (c_L_below l V (x >>> (5 &&& 31)) 3 (by omega) (by omega)) (va_cwS 2 C.ts gL_act_L_below rfl rfl rfl (by decide +kernel) ⟨(Nat.le_of_ble_eq_true rfl), (Nat.le_of_ble_eq_true rfl)⟩) rfl rfl (Nat.le_of_ble_eq_true rfl) dL_act_295 ⟨(by show _ ≤ 20; omega), (by show _ ≤ 130; omega)⟩) (fun r u hu => ?_)
    obtain ⟨q117, hq118, rfl⟩ := hu
    refine g_via (fun v : Int32 => ∃ a : Nat, 0 < a ∧ a ≤ 500 ∧ v = nI a) 309 (fun _ => [(9, .ref (ad104 n)), (8, .int (We q102)), (7, .int (nI q102)), (3, .int (nI cnt)), (0, .ref (ad104 0)), (1, .ref (ad104 85)), (2, .int x)]) (fun v => .int v :: [.int (x >>> (2 &&& 31)), .int (nI 1), .int (nI q102), .ref (ad104 n)]) (fun v hv => ?_) (fun J => ?_)
    · -- join
      obtain ⟨m5, hm1, hm2, rfl⟩ := hv
      refine g_calli C (r_S C (st := [.int (nI 1), .int (nI q102), .ref (ad104 n)]) (c_L_below l V (x >>> (2 &&& 31)) m5 (by omega) (by omega)) (va_cwS 2 C.ts gL_act_L_below rfl rfl rfl (by decide +kernel) ⟨(Nat.le_of_ble_eq_true rfl), (Nat.le_of_ble_eq_true rfl)⟩) rfl rfl (Nat.le_of_ble_eq_true rfl) dL_act_309 ⟨(by show _ ≤ 20; omega), (by show _ ≤ 130; omega)⟩) (fun r u hu => ?_)
      obtain ⟨q119, hq120, rfl⟩ := hu
      refine g_iadd C (v := nI (1 + q119)) dL_act_312 (nI_add _ _) ?_
      refine g_iast C n (by omega) he107 q102 rfl (by omega) (by decide) dL_act_313 (fun el121 e122 o123 => ?_)
      have m124 := (o123 85 (by omega)).trans m109
      have m125 := (o123 86 (by omega)).trans m110
      have m126 := (o123 87 (by omega)).trans m111
      have m127 := (o123 88 (by omega)).trans m112
      have m128 := (o123 89 (by omega)).trans m113
      have m129 := (o123 95 (by omega)).trans m114
      have m130 := (o123 96 (by omega)).trans m115
      have m131 := (o123 0 (by omega)).trans m116
      refine g_aload_n C 5 rfl dL_act_314 ?_
      refine g_aload C 0 rfl dL_act_315 ?_
      refine g_putf C 85 (by omega) m124 rfl 6 (by decide) (fun w h => (List.mem_cons_of_mem _ (List.mem_append_left _ (List.mem_append_left _ (List.mem_append_left _ (List.mem_append_left _ (List.mem_append_left _ (List.mem_append_left _ (List.mem_append_left _ (List.mem_append_right _ h)))))))))) tyX5 tyX5_ok nmX5 (List.mem_of_getElem? (i := 9) rfl) rfl rfl rfl rfl (Nat.le_of_ble_eq_true rfl) dL_act_317 (fun el132 e133 o134 => ?_)
      replace e133 : el132 85 = .inr (5, [.int (M 0), .int (M 1), .int (M 2), .int (M 3), .int (M 4), .int (M 5), .ref (ad104 n), .ref (ad104 87), .ref (ad104 88), .ref (ad104 89), .ref (ad104 95), .ref (ad104 96)]) := e133
      have m135 := (o134 86 (by omega)).trans m125
      have m136 := (o134 87 (by omega)).trans m126
      have m137 := (o134 88 (by omega)).trans m127
      have m138 := (o134 89 (by omega)).trans m128
      have m139 := (o134 95 (by omega)).trans m129
      have m140 := (o134 96 (by omega)).trans m130
      have m141 := (o134 0 (by omega)).trans m131
      have m142 := (o134 n (by omega)).trans e122
      refine g_aload_n C 5 rfl dL_act_320 ?_
      refine g_getf C 85 (by omega) e133 rfl 7 (by decide) (fun w h => (List.mem_cons_of_mem _ (List.mem_append_left _ (List.mem_append_left _ (List.mem_append_left _ (List.mem_append_left _ (List.mem_append_left _ (List.mem_append_left _ (List.mem_append_left _ (List.mem_append_right _ h)))))))))) (List.mem_of_getElem? (i := 8) rfl) rfl rfl dL_act_321 ?_
      refine g_iload C 2 rfl dL_act_324 ?_
      refine g_iconst C (v := nI 0) dL_act_326 (by decide) ?_
      refine g_iast C 87 (by omega) m136 q102 rfl (by omega) (by decide) dL_act_327 (fun el143 e144 o145 => ?_)
      have m146 := (o145 86 (by omega)).trans m135
      have m147 := (o145 88 (by omega)).trans m137
      have m148 := (o145 89 (by omega)).trans m138
      have m149 := (o145 95 (by omega)).trans m139
      have m150 := (o145 96 (by omega)).trans m140
      have m151 := (o145 0 (by omega)).trans m141
      have m152 := (o145 n (by omega)).trans m142
      have m153 := (o145 85 (by omega)).trans e133
      refine g_aload_n C 5 rfl dL_act_328 ?_
      refine g_getf C 85 (by omega) m153 rfl 8 (by decide) (fun w h => (List.mem_cons_of_mem _ (List.mem_append_left _ (List.mem_append_left _ (List.mem_append_left _ (List.mem_append_left _ (List.mem_append_left _ (List.mem_append_left _ (List.mem_append_left _ (List.mem_append_right _ h)))))))))) (List.mem_of_getElem? (i := 16) rfl) rfl rfl dL_act_329 ?_
      refine g_iload C 2 rfl dL_act_332 ?_
      refine g_iconst C (v := nI 0) dL_act_334 (by decide) ?_
      refine g_zast C 88 (by omega) m147 q102 rfl (by omega) (by decide) rfl dL_act_335 (fun el154 e155 o156 => ?_)
      have m157 := (o156 86 (by omega)).trans m146
      have m158 := (o156 89 (by omega)).trans m148
      have m159 := (o156 95 (by omega)).trans m149
      have m160 := (o156 96 (by omega)).trans m150
      have m161 := (o156 0 (by omega)).trans m151
      have m162 := (o156 n (by omega)).trans m152
      have m163 := (o156 85 (by omega)).trans m153
      have m164 := (o156 87 (by omega)).trans e144
      refine g_aload_n C 4 rfl dL_act_336 ?_
      refine g_iload C 2 rfl dL_act_337 ?_
      refine g_aload C 0 rfl dL_act_339 ?_
      refine g_iload C 2 rfl dL_act_341 ?_
      refine g_iald C n (by omega) m162 q102 rfl (by omega) (by decide) dL_act_343 ?_
      refine g_top (pk_us : upd g9 q102 (nI (1 + q119)) q102 = nI (1 + q119)) ?_
      have hx9 : X4At V ad104 el154 cnt M St We pl F T := (h.keep (fun j hj => (o156 j (by omega)).trans ((o145 j (by omega)).trans ((o134 j (by omega)).trans ((o123 j (by omega)).trans (hb108 j (by omega))))))).adr (fun j hj => ha106 j (by omega))
      refine g_calli C (r_V C (st := []) (c_X4_fit l V (by omega) hc hx9 q102 (by omega) (nI (1 + q119)) (in_le1 (N := 500) (by omega) (by omega) (by omega))) (cwV 2 C.ts gL_act_X4_fit rfl rfl rfl (by decide +kernel) ⟨(Nat.le_of_ble_eq_true rfl), (Nat.le_of_ble_eq_true rfl)⟩) (by omega) hx9.1 rfl rfl rfl (Nat.le_of_ble_eq_true rfl) dL_act_344 ⟨(by show _ ≤ 20; omega), (by show _ ≤ 130; omega)⟩) (fun r u hu => ?_)
      obtain ⟨hr, hx10, hfr⟩ := hu
      have hs1 : SimAt V ad104 (fun j => if j < n then el j else el154 j) B cnt M St We pl F T := (hs.keep (fun j hj => if_pos (by omega))).adr (fun j hj => ha106 j (by omega))
      have hfrA : ∀ j, j < n → j ≠ 85 → j ≠ 87 → j ≠ 88 → el154 j = el j := fun j hj h5 h7 h8 => (o156 j (by omega)).trans ((o145 j (by omega)).trans ((o134 j (by omega)).trans ((o123 j (by omega)).trans (hb108 j (by omega)))))
      have h6 : ArrI V el154 n 7 (upd St q102 (nI (1 + q119))) := ⟨_, m162, upd_rel z11 _ _⟩
      have h7 : ArrI V el154 87 7 (upd We q102 0) := ⟨_, m164, upd_rel z14 _ _⟩
      have h8 : ArrZ V el154 88 7 (fun i => s_bk (upd St q102 (nI (1 + q119)) i) (upd We q102 0 i)) := ⟨_, e155, fun i hi => by
          (try dsimp only)
          by_cases e : i = q102
          · subst e; rw [pk_us, pk_us, pk_us]; exact (if_pos (nI_pos' (by omega))).symm
          · rw [pk_un e, pk_un e, pk_un e]; exact z17 i hi⟩
      have hs9 := SimAt.refit (el := el154) (St' := upd St q102 (nI (1 + q119))) (We' := upd We q102 0) hB hn hs1 m163 h6 h7 h8 (fun j hj h5 h7 h8 => (hfrA j hj h5 h7 h8).trans (if_pos hj).symm)
      subst hr
      refine g_iload C 1 rfl dL_act_347 ?_
      refine g_icmp_ne C (tgt := 356) dL_act_349 (by decide) (fun c349 => ?_) (fun c349 => ?_)
      · -- 356
        exact absurd rfl c349
      · -- 352
        refine g_iconst C (v := nI 1) dL_act_352 (by decide) ?_
        refine g_goto C (tgt := 357) dL_act_353 (by decide) ?_
        refine g_perm (s_sg6 n) (n' := n) (ad' := fun j => ad104 (s_sg6 n j)) (el' := fun j => u (s_sg6 n j)) (fun k hk => by unfold s_sg6; split <;> omega) (fun i j hi hj e => by unfold s_sg6 at e; split at e <;> split at e <;> omega) (fun _ _ => rfl) (fun _ _ => rfl) ?_
        have hx11 : X4At V (fun j => ad104 (s_sg6 n j)) (fun j => u (s_sg6 n j)) cnt M (upd St q102 (nI (1 + q119))) (upd We q102 0) pl F T := (hx10.keep (el' := fun j => u (s_sg6 n j)) (fun j hj => congrArg u (if_neg (by omega)))).adr (fun j hj => congrArg ad104 (if_neg (by omega)))
        have hs11 : SimAt V (fun j => ad104 (s_sg6 n j)) (fun j => u (s_sg6 n j)) B cnt M (upd St q102 (nI (1 + q119))) (upd We q102 0) pl F T := hs9.keep (fun j hj => hfr _ (by unfold s_sg6; split <;> omega))
        exact g_zret C rfl rfl dL_act_357 (n, (fun j => ad104 (s_sg6 n j)), (fun j => u (s_sg6 n j))) rfl rfl rfl ⟨rfl, ⟨cnt, M, (upd St q102 (nI (1 + q119))), (upd We q102 0), pl, F, T, ⟨hB, hc, hn, hx11, hs11, hP.fit q102 (1 + q119) (by omega) (by omega)⟩, Nat.le_refl _, fun q hq j hj => rfl⟩, fun j hj => (congrArg ad104 (if_neg (by omega))).trans (ha106 j (by omega)), fun j h1 h2 => (congrArg u (if_neg (by omega))).trans ((hfr j (by omega)).trans (hfrA j (by omega) (by omega) (by omega) (by omega)))⟩ (by omega) (by omega)
    · -- ways
      refine g_if_ne C (tgt := 307) dL_act_298 (by decide) (fun c298 => ?_) (fun c298 => ?_)
      · -- 307
        refine g_bipush C (v := nI 30) dL_act_307 (by decide) ?_
        refine g_lv [0, 1, 2, 3, 4, 5, 6] (lv' := [(9, .ref (ad104 n)), (8, .int (We q102)), (7, .int (nI q102)), (3, .int (nI cnt)), (0, .ref (ad104 0)), (1, .ref (ad104 85)), (2, .int x)]) rfl ?_
        exact J _ (⟨30, by omega, by omega, rfl⟩)
      · -- 301
        refine g_sipush C (v := nI 500) dL_act_301 (by decide) ?_
        refine g_goto C (tgt := 309) dL_act_304 (by decide) ?_
        refine g_lv [0, 1, 2, 3, 4, 5, 6] (lv' := [(9, .ref (ad104 n)), (8, .int (We q102)), (7, .int (nI q102)), (3, .int (nI cnt)), (0, .ref (ad104 0)), (1, .ref (ad104 85)), (2, .int x)]) rfl ?_
        exact J _ (⟨500, by omega, by omega, rfl⟩)
  refine g_via (fun _ : Unit => True) 358 (fun _ => [(3, .int (nI cnt)), (0, .ref (ad 0)), (1, .ref (ad 85)), (2, .int x)]) (fun _ => []) (fun _ _ => ?_) (fun J358 => ?_)
  · -- case 358
    refine g_iload_n C 3 rfl dL_act_358 ?_
    refine g_iconst C (v := nI 5) dL_act_359 (by decide) ?_
    refine g_calli C (r_S C (st := []) (c_L_below l V x 5 (by omega) (by omega)) (va_cwS 2 C.ts gL_act_L_below rfl rfl rfl (by decide +kernel) ⟨(Nat.le_of_ble_eq_true rfl), (Nat.le_of_ble_eq_true rfl)⟩) rfl rfl (Nat.le_of_ble_eq_true rfl) dL_act_360 ⟨(by show _ ≤ 20; omega), (by show _ ≤ 130; omega)⟩) (fun r u hu => ?_)
    obtain ⟨q165, hq166, rfl⟩ := hu
    refine g_istore C (lv' := [(10, .int (nI q165)), (3, .int (nI cnt)), (0, .ref (ad 0)), (1, .ref (ad 85)), (2, .int x)]) dL_act_363 (by decide) rfl ?_
    refine g_iload_n C 4 rfl dL_act_365 ?_
    refine g_iconst C (v := nI 3) dL_act_366 (by decide) ?_
    refine g_ishr C (v := x >>> (3 &&& 31)) dL_act_367 rfl ?_
    refine g_bipush C (v := nI 6) dL_act_368 (by decide) ?_
    refine g_calli C (r_S C (st := []) (c_L_below l V (x >>> (3 &&& 31)) 6 (by omega) (by omega)) (va_cwS 2 C.ts gL_act_L_below rfl rfl rfl (by decide +kernel) ⟨(Nat.le_of_ble_eq_true rfl), (Nat.le_of_ble_eq_true rfl)⟩) rfl rfl (Nat.le_of_ble_eq_true rfl) dL_act_370 ⟨(by show _ ≤ 20; omega), (by show _ ≤ 130; omega)⟩) (fun r u hu => ?_)
    obtain ⟨q167, hq168, rfl⟩ := hu
    refine g_istore C (lv' := [(11, .int (nI q167)), (10, .int (nI q165)), (3, .int (nI cnt)), (0, .ref (ad 0)), (1, .ref (ad 85)), (2, .int x)]) dL_act_373 (by decide) rfl ?_
    refine g_aload_n C 4 rfl dL_act_375 ?_
    refine g_getf C 85 (by omega) y1 rfl 9 (by decide) (fun w h => (List.mem_cons_of_mem _ (List.mem_append_left _ (List.mem_append_left _ (List.mem_append_left _ (List.mem_append_left _ (List.mem_append_left _ (List.mem_append_left _ (List.mem_append_left _ (List.mem_append_right _ h)))))))))) (List.mem_of_getElem? (i := 17) rfl) rfl rfl dL_act_376 ?_
    refine g_iload C 1 rfl dL_act_379 ?_
    refine g_aaldA C 89 (by omega) 6 rfl h19 q165 rfl (by omega) (by decide) (z20 q165 (by omega)) dL_act_381 ?_
    obtain ⟨g169, h170, z171⟩ := id (r21 q165 (by omega))
    refine g_iload C 0 rfl dL_act_382 ?_
    refine g_aload_n C 4 rfl dL_act_384 ?_
    refine g_getf C 85 (by omega) y1 rfl 9 (by decide) (fun w h => (List.mem_cons_of_mem _ (List.mem_append_left _ (List.mem_append_left _ (List.mem_append_left _ (List.mem_append_left _ (List.mem_append_left _ (List.mem_append_left _ (List.mem_append_left _ (List.mem_append_right _ h)))))))))) (List.mem_of_getElem? (i := 17) rfl) rfl rfl dL_act_385 ?_
    refine g_iload C 1 rfl dL_act_388 ?_
    refine g_aaldA C 89 (by omega) 6 rfl h19 q165 rfl (by omega) (by decide) (z20 q165 (by omega)) dL_act_390 ?_
    refine g_iload C 0 rfl dL_act_391 ?_
    refine g_zald C (90 + q165) (by omega) h170 q167 rfl (by omega) (by decide) dL_act_393 ?_
    refine g_top ((z171 q167 (by omega)) : g169 q167 = pl (6 * q165 + q167)) ?_
    refine g_via (fun v : Int32 => v = if pl (6 * q165 + q167) = 0 then 1 else 0) 402 (fun _ => [(11, .int (nI q167)), (10, .int (nI q165)), (3, .int (nI cnt)), (0, .ref (ad 0)), (1, .ref (ad 85)), (2, .int x)]) (fun v => .int v :: [.int (nI q167), .ref (ad (90 + q165))]) (fun v hv => ?_) (fun J => ?_)
    · -- join
      subst hv
      refine g_zast C (90 + q165) (by omega) h170 q167 rfl (by omega) (by decide) (if01_nar _ _) dL_act_402 (fun el172 e173 o174 => ?_)
      have m175 := (o174 85 (by omega)).trans y1
      have m176 := (o174 86 (by omega)).trans h10
      have m177 := (o174 87 (by omega)).trans h13
      have m178 := (o174 88 (by omega)).trans h16
      have m179 := (o174 89 (by omega)).trans h19
      have m180 := (o174 95 (by omega)).trans h23
      have m181 := (o174 96 (by omega)).trans h26
      have m182 := (o174 0 (by omega)).trans h.1
      refine g_aload_n C 3 rfl dL_act_403 ?_
      refine g_iload C 1 rfl dL_act_404 ?_
      refine g_iload C 0 rfl dL_act_406 ?_
      have hx9 : X4At V ad el172 cnt M St We pl F T := (h.keep (fun j hj => o174 j (by omega)))
      refine g_calli C (r_V C (st := []) (c_X4_turn l V (by omega) hc hx9 q165 (by omega) q167 (by omega)) (cwV 2 C.ts gL_act_X4_turn rfl rfl rfl (by decide +kernel) ⟨(Nat.le_of_ble_eq_true rfl), (Nat.le_of_ble_eq_true rfl)⟩) (by omega) hx9.1 rfl rfl rfl (Nat.le_of_ble_eq_true rfl) dL_act_408 ⟨(by show _ ≤ 20; omega), (by show _ ≤ 130; omega)⟩) (fun r u hu => ?_)
      obtain ⟨hr, hx10, hfr⟩ := hu
      have hs9 : SimAt V ad el172 B cnt M St We (upd pl (6 * q165 + q167) (if pl (6 * q165 + q167) = 0 then 1 else 0)) F T := hs.turn hB q165 q167 (by omega) (by omega) _ ⟨_, e173, fun q hq => by
          (try dsimp only)
          by_cases e : q = q167
          · subst e; rw [pk_us, if_pos rfl]
          · rw [pk_un e, if_neg e]; exact z171 q hq⟩ (fun j hj => o174 j hj)
      have hs10 := hs9.keep (el' := u) (fun j hj => hfr j (by omega))
      have m183 := (hfr (85) (by omega)).trans m175
      have m184 := (hfr (86) (by omega)).trans m176
      have m185 := (hfr (87) (by omega)).trans m177
      have m186 := (hfr (88) (by omega)).trans m178
      have m187 := (hfr (89) (by omega)).trans m179
      have m188 := (hfr (95) (by omega)).trans m180
      have m189 := (hfr (96) (by omega)).trans m181
      have m190 := (hfr (90 + q165) (by omega)).trans e173
      subst hr
      refine g_aload_n C 4 rfl dL_act_411 ?_
      refine g_getf C 85 (by omega) m183 rfl 9 (by decide) (fun w h => (List.mem_cons_of_mem _ (List.mem_append_left _ (List.mem_append_left _ (List.mem_append_left _ (List.mem_append_left _ (List.mem_append_left _ (List.mem_append_left _ (List.mem_append_left _ (List.mem_append_right _ h)))))))))) (List.mem_of_getElem? (i := 17) rfl) rfl rfl dL_act_412 ?_
      refine g_iload C 1 rfl dL_act_415 ?_
      refine g_aaldA C 89 (by omega) 6 rfl m187 q165 rfl (by omega) (by decide) (z20 q165 (by omega)) dL_act_417 ?_
      refine g_iload C 0 rfl dL_act_418 ?_
      refine g_zald C (90 + q165) (by omega) m190 q167 rfl (by omega) (by decide) dL_act_420 ?_
      refine g_top (pk_us : (upd g169 q167 (if pl (6 * q165 + q167) = 0 then 1 else 0)) q167 = if pl (6 * q165 + q167) = 0 then 1 else 0) ?_
      refine g_icmp_ne C (tgt := 428) dL_act_421 (by decide) (fun c421 => ?_) (fun c421 => ?_)
      · -- 428
        exact absurd rfl c421
      · -- 424
        refine g_iconst C (v := nI 1) dL_act_424 (by decide) ?_
        refine g_goto C (tgt := 429) dL_act_425 (by decide) ?_
        exact g_zret C rfl rfl dL_act_429 (n, ad, u) rfl rfl rfl ⟨rfl, ⟨cnt, M, St, We, _, F, T, ⟨hB, hc, hn, hx10, hs10, hP⟩, Nat.le_refl _, fun q hq j hj => rfl⟩, fun j hj => rfl, fun j h1 h2 => (hfr j (by omega)).trans (o174 j (by omega))⟩ (by omega) (by omega)
    · -- ways
      refine g_if_ne C (tgt := 401) dL_act_394 (by decide) (fun c394 => ?_) (fun c394 => ?_)
      · -- 401
        refine g_iconst C (v := nI 0) dL_act_401 (by decide) ?_
        refine g_lv [0, 1, 2, 3, 4, 5] (lv' := [(11, .int (nI q167)), (10, .int (nI q165)), (3, .int (nI cnt)), (0, .ref (ad 0)), (1, .ref (ad 85)), (2, .int x)]) rfl ?_
        exact J _ ((if_neg c394).symm)
      · -- 397
        refine g_iconst C (v := nI 1) dL_act_397 (by decide) ?_
        refine g_goto C (tgt := 402) dL_act_398 (by decide) ?_
        refine g_lv [0, 1, 2, 3, 4, 5] (lv' := [(11, .int (nI q167)), (10, .int (nI q165)), (3, .int (nI cnt)), (0, .ref (ad 0)), (1, .ref (ad 85)), (2, .int x)]) rfl ?_
        exact J _ ((if_pos c394).symm)
  refine g_via (fun _ : Unit => True) 430 (fun _ => [(3, .int (nI cnt)), (0, .ref (ad 0)), (1, .ref (ad 85)), (2, .int x)]) (fun _ => []) (fun _ _ => ?_) (fun J430 => ?_)
  · -- case 430
    refine g_iload_n C 0 rfl dL_act_430 ?_
    refine g_bipush C (v := nI 20) dL_act_431 (by decide) ?_
    refine g_icmp_eq C (tgt := 444) dL_act_433 (by decide) (fun c433 => ?_) (fun c433 => ?_)
    · -- 444
      refine g_iconst C (v := nI 1) dL_act_444 (by decide) ?_
      exact g_zret C rfl rfl dL_act_445 (n, ad, el) rfl rfl rfl ⟨rfl, ⟨cnt, M, St, We, pl, F, T, hI, Nat.le_refl _, fun q hq j hj => rfl⟩, fun j hj => rfl, fun j h1 h2 => rfl⟩ (by omega) (by omega)
    · -- 436
      refine g_aload_n C 2 rfl dL_act_436 ?_
      refine g_getf C 85 (by omega) y1 rfl 3 (by decide) (fun w h => (List.mem_cons_of_mem _ (List.mem_append_left _ (List.mem_append_left _ (List.mem_append_left _ (List.mem_append_left _ (List.mem_append_left _ (List.mem_append_left _ (List.mem_append_left _ (List.mem_append_right _ h)))))))))) (List.mem_of_getElem? (i := 5) rfl) rfl rfl dL_act_437 ?_
      refine g_iconst C (v := nI 5) dL_act_440 (by decide) ?_
      refine g_icmp_ge C (tgt := 446) dL_act_441 (by decide) (fun c441 => ?_) (fun c441 => ?_)
      · -- 446
        refine g_aload_n C 1 rfl dL_act_446 ?_
        have hcl : cnt < 20 := by
          rcases Nat.lt_or_ge cnt 20 with e | e
          · exact e
          · exact absurd (congrArg nI (show cnt = 20 by omega)) c433
        have hx9 : X4At V ad el cnt M St We pl F T := h
        refine g_calli C (r_V C (st := []) (c_X4_run l V (by omega) hc hx9 ⟨hcl, c441⟩) (cwV 0 C.ts gL_act_X4_run rfl rfl rfl (by decide +kernel) ⟨(Nat.le_of_ble_eq_true rfl), (Nat.le_of_ble_eq_true rfl)⟩) (by omega) hx9.1 rfl rfl rfl (Nat.le_of_ble_eq_true rfl) dL_act_447 ⟨(by show _ ≤ 20; omega), (by show _ ≤ 130; omega)⟩) (fun r u hu => ?_)
        obtain ⟨hr, hx10, hfr⟩ := hu
        obtain ⟨f1, hf1, hx10⟩ := hx10
        have hs9 := hs.keep (el' := u) (fun j hj => hfr j (by omega))
        subst hr
        refine g_aload_n C 2 rfl dL_act_450 ?_
        refine g_calli C (r_V C (st := [.int (nI cnt)]) (c_X5_run l V hB hcl hn hs9 hP.1) (cwV 0 C.ts gL_act_X5_run rfl rfl rfl (by decide +kernel) ⟨(Nat.le_of_ble_eq_true rfl), (Nat.le_of_ble_eq_true rfl)⟩) (by omega) hs9.1 rfl rfl rfl (Nat.le_of_ble_eq_true rfl) dL_act_451 ⟨(by show _ ≤ 20; omega), (by show _ ≤ 130; omega)⟩) (fun r9 v9 hv9 => ?_)
        obtain ⟨n9, ad9, el9⟩ := v9
        obtain ⟨hr9, hn9, had9, hs10, hel9⟩ := hv9
        dsimp only at hr9 hn9 had9 hs10 hel9 ⊢
        subst hr9
        refine g_icmp_ne C (tgt := 461) dL_act_454 (by decide) (fun c454 => ?_) (fun c454 => ?_)
        · -- 461
          exact absurd rfl c454
        · -- 457
          refine g_iconst C (v := nI 1) dL_act_457 (by decide) ?_
          refine g_goto C (tgt := 462) dL_act_458 (by decide) ?_
          have hx11 : X4At V ad9 el9 (cnt + 1) (s_end M) St (s_W St We 5) pl (va_up F cnt f1) T := (hx10.keep (fun j hj => hel9 j (by omega) (Or.inl hj))).adr (fun j hj => had9 j (by omega) (by omega) (by omega))
          have hs11 : SimAt V ad9 el9 B (cnt + 1) (s_end M) St (s_W St We 5) pl (va_up F cnt f1) T := hs10.cg (fun _ _ => rfl) (fun _ _ => rfl) (fun _ _ => rfl) (fun _ _ => rfl) (fun k hk j hj => by
              by_cases e : k = cnt
              · subst e; rw [va_up_self, va_up_self]; exact hf1 j hj
              · rw [va_up_ne _ _ e, va_up_ne _ _ e]) (fun k hk j hj => by
              by_cases e : k = cnt
              · subst e; rw [va_up_self]; exact hP.2.2.1 k (Nat.le_refl _) j hj
              · rw [va_up_ne _ _ e])
          exact g_zret C rfl rfl dL_act_462 (n9, ad9, el9) rfl rfl rfl ⟨rfl, ⟨(cnt + 1), _, _, _, _, (va_up F cnt f1), _, ⟨hB, by omega, hn9, hx11, hs11, hP.run hf1⟩, Nat.le_succ _, fun q hq j hj => by rw [va_up_ne _ _ (by omega)]⟩, fun j hj => had9 j (by omega) (by omega) (by omega), fun j h1 h2 => (hel9 j (by omega) (Or.inr h1)).trans (hfr j (by omega))⟩ (by omega) (by omega)
      · -- 444
        refine g_iconst C (v := nI 1) dL_act_444 (by decide) ?_
        exact g_zret C rfl rfl dL_act_445 (n, ad, el) rfl rfl rfl ⟨rfl, ⟨cnt, M, St, We, pl, F, T, hI, Nat.le_refl _, fun q hq j hj => rfl⟩, fun j hj => rfl, fun j h1 h2 => rfl⟩ (by omega) (by omega)
  refine g_via (fun _ : Unit => True) 463 (fun _ => [(3, .int (nI cnt)), (0, .ref (ad 0)), (1, .ref (ad 85)), (2, .int x)]) (fun _ => []) (fun _ _ => ?_) (fun J463 => ?_)
  · -- case 463
    refine g_iload_n C 0 rfl dL_act_463 ?_
    refine g_if_ne C (tgt := 469) dL_act_464 (by decide) (fun c9 => ?_) (fun c9 => ?_)
    · have hpos : 0 < cnt := by
        rcases Nat.eq_zero_or_pos cnt with e | e
        · subst e; exact absurd rfl c9
        · exact e
      refine g_iload_n C 3 rfl dL_act_469 ?_
      refine g_iload_n C 0 rfl dL_act_470 ?_
      refine g_calli C (r_S C (st := []) (c_L_below l V x cnt (by omega) (by omega)) (va_cwS 2 C.ts gL_act_L_below rfl rfl rfl (by decide +kernel) ⟨(Nat.le_of_ble_eq_true rfl), (Nat.le_of_ble_eq_true rfl)⟩) rfl rfl (Nat.le_of_ble_eq_true rfl) dL_act_471 ⟨(by show _ ≤ 20; omega), (by show _ ≤ 130; omega)⟩) (fun r u hu => ?_)
      obtain ⟨q191, hq192, rfl⟩ := hu
      refine g_istore C (lv' := [(12, .int (nI q191)), (3, .int (nI cnt)), (0, .ref (ad 0)), (1, .ref (ad 85)), (2, .int x)]) dL_act_474 (by decide) rfl ?_
      refine g_iload_n C 4 rfl dL_act_476 ?_
      refine g_iconst C (v := nI 2) dL_act_477 (by decide) ?_
      refine g_ishr C (v := x >>> (2 &&& 31)) dL_act_478 rfl ?_
      refine g_iconst C (v := nI 5) dL_act_479 (by decide) ?_
      refine g_calli C (r_S C (st := []) (c_L_below l V (x >>> (2 &&& 31)) 5 (by omega) (by omega)) (va_cwS 2 C.ts gL_act_L_below rfl rfl rfl (by decide +kernel) ⟨(Nat.le_of_ble_eq_true rfl), (Nat.le_of_ble_eq_true rfl)⟩) rfl rfl (Nat.le_of_ble_eq_true rfl) dL_act_480 ⟨(by show _ ≤ 20; omega), (by show _ ≤ 130; omega)⟩) (fun r u hu => ?_)
      obtain ⟨q193, hq194, rfl⟩ := hu
      refine g_istore C (lv' := [(13, .int (nI q193)), (12, .int (nI q191)), (3, .int (nI cnt)), (0, .ref (ad 0)), (1, .ref (ad 85)), (2, .int x)]) dL_act_483 (by decide) rfl ?_
      refine g_iload_n C 5 rfl dL_act_485 ?_
      refine g_iconst C (v := nI 4) dL_act_486 (by decide) ?_
      refine g_ishr C (v := x >>> (4 &&& 31)) dL_act_487 rfl ?_
      refine g_bipush C (v := nI 6) dL_act_488 (by decide) ?_
      refine g_calli C (r_S C (st := []) (c_L_below l V (x >>> (4 &&& 31)) 6 (by omega) (by omega)) (va_cwS 2 C.ts gL_act_L_below rfl rfl rfl (by decide +kernel) ⟨(Nat.le_of_ble_eq_true rfl), (Nat.le_of_ble_eq_true rfl)⟩) rfl rfl (Nat.le_of_ble_eq_true rfl) dL_act_490 ⟨(by show _ ≤ 20; omega), (by show _ ≤ 130; omega)⟩) (fun r u hu => ?_)
      obtain ⟨q195, hq196, rfl⟩ := hu
      refine g_istore C (lv' := [(14, .int (nI q195)), (13, .int (nI q193)), (12, .int (nI q191)), (3, .int (nI cnt)), (0, .ref (ad 0)), (1, .ref (ad 85)), (2, .int x)]) dL_act_493 (by decide) rfl ?_
      refine g_aload_n C 5 rfl dL_act_495 ?_
      refine g_getf C 85 (by omega) y1 rfl 11 (by decide) (fun w h => (List.mem_cons_of_mem _ (List.mem_append_left _ (List.mem_append_left _ (List.mem_append_left _ (List.mem_append_left _ (List.mem_append_left _ (List.mem_append_left _ (List.mem_append_left _ (List.mem_append_right _ h)))))))))) (List.mem_of_getElem? (i := 18) rfl) rfl rfl dL_act_496 ?_
      refine g_iload C 2 rfl dL_act_499 ?_
      refine g_aaldA C 96 (by omega) 2 rfl h26 q191 rfl (by omega) (by omega) (z27 q191 (by omega)) dL_act_501 ?_
      obtain ⟨⟨g197, h198, z199⟩, r200⟩ := id (y8 q191 (by omega)).2
      refine g_iload C 1 rfl dL_act_502 ?_
      refine g_aaldA C (B + 12 * q191 + 6) (by omega) 6 rfl h198 q193 rfl (by omega) (by decide) (z199 q193 (by omega)) dL_act_504 ?_
      obtain ⟨g201, h202, z203⟩ := id (r200 q193 (by omega))
      refine g_iload C 0 rfl dL_act_505 ?_
      refine g_zald C (B + 12 * q191 + 7 + q193) (by omega) h202 q195 rfl (by omega) (by decide) dL_act_507 ?_
      refine g_top ((z203 q195 (by omega)) : g201 q195 = T q191 (6 * q193 + q195)) ?_
      refine g_if_eq C (tgt := 513) dL_act_508 (by decide) (fun c508 => ?_) (fun c508 => ?_)
      · -- 513
        refine g_aload_n C 5 rfl dL_act_513 ?_
        refine g_getf C 85 (by omega) y1 rfl 10 (by decide) (fun w h => (List.mem_cons_of_mem _ (List.mem_append_left _ (List.mem_append_left _ (List.mem_append_left _ (List.mem_append_left _ (List.mem_append_left _ (List.mem_append_left _ (List.mem_append_left _ (List.mem_append_right _ h)))))))))) (List.mem_of_getElem? (i := 1) rfl) rfl rfl dL_act_514 ?_
        refine g_iload C 2 rfl dL_act_517 ?_
        refine g_aaldA C 95 (by omega) 7 rfl h23 q191 rfl (by omega) (by omega) (z24 q191 (by omega)) dL_act_519 ?_
        obtain ⟨⟨g204, h205, z206⟩, r207⟩ := id (y8 q191 (by omega)).1
        refine g_iload C 1 rfl dL_act_520 ?_
        refine g_aaldA C (B + 12 * q191) (by omega) 5 rfl h205 q193 rfl (by omega) (by decide) (z206 q193 (by omega)) dL_act_522 ?_
        obtain ⟨g208, h209, z210⟩ := id (r207 q193 (by omega))
        refine g_iload C 0 rfl dL_act_523 ?_
        refine g_iald C (B + 12 * q191 + 1 + q193) (by omega) h209 q195 rfl (by omega) (by decide) dL_act_525 ?_
        refine g_top ((z210 q195 (by omega)) : g208 q195 = F q191 (6 * q193 + q195)) ?_
        refine g_iconst C (v := nI 0) dL_act_526 (by decide) ?_
        refine g_calli C (r_S C (st := []) (c_X5_worth l V (F q191 (6 * q193 + q195)) (nI 0)) (va_cwS 2 C.ts gL_act_X5_worth rfl rfl rfl (by decide +kernel) ⟨(Nat.le_of_ble_eq_true rfl), (Nat.le_of_ble_eq_true rfl)⟩) rfl rfl (Nat.le_of_ble_eq_true rfl) dL_act_527 ⟨(by show _ ≤ 20; omega), (by show _ ≤ 130; omega)⟩) (fun r u hu => ?_)
        subst hu
        refine g_top (s_wt_eq (nI 0) (hP.2.1 _ (by omega) _ (by omega)) : s_wt (F q191 (6 * q193 + q195)) (nI 0) = s_worth (F q191 (6 * q193 + q195)) (nI 0)) ?_
        refine g_istore C (lv' := [(15, .int (s_worth (F q191 (6 * q193 + q195)) (nI 0))), (14, .int (nI q195)), (13, .int (nI q193)), (12, .int (nI q191)), (3, .int (nI cnt)), (0, .ref (ad 0)), (1, .ref (ad 85)), (2, .int x)]) dL_act_530 (by decide) rfl ?_
        refine g_aload_n C 6 rfl dL_act_532 ?_
        refine g_getf C 85 (by omega) y1 rfl 11 (by decide) (fun w h => (List.mem_cons_of_mem _ (List.mem_append_left _ (List.mem_append_left _ (List.mem_append_left _ (List.mem_append_left _ (List.mem_append_left _ (List.mem_append_left _ (List.mem_append_left _ (List.mem_append_right _ h)))))))))) (List.mem_of_getElem? (i := 18) rfl) rfl rfl dL_act_533 ?_
        refine g_iload C 3 rfl dL_act_536 ?_
        refine g_aaldA C 96 (by omega) 2 rfl h26 q191 rfl (by omega) (by omega) (z27 q191 (by omega)) dL_act_538 ?_
        obtain ⟨⟨g211, h212, z213⟩, r214⟩ := id (y8 q191 (by omega)).2
        refine g_iload C 2 rfl dL_act_539 ?_
        refine g_aaldA C (B + 12 * q191 + 6) (by omega) 6 rfl h212 q193 rfl (by omega) (by decide) (z213 q193 (by omega)) dL_act_541 ?_
        refine g_iload C 1 rfl dL_act_542 ?_
        refine g_iconst C (v := nI 1) dL_act_544 (by decide) ?_
        refine g_zast C (B + 12 * q191 + 7 + q193) (by omega) h202 q195 rfl (by omega) (by decide) rfl dL_act_545 (fun el215 e216 o217 => ?_)
        have m218 := (o217 85 (by omega)).trans y1
        have m219 := (o217 86 (by omega)).trans h10
        have m220 := (o217 87 (by omega)).trans h13
        have m221 := (o217 88 (by omega)).trans h16
        have m222 := (o217 89 (by omega)).trans h19
        have m223 := (o217 95 (by omega)).trans h23
        have m224 := (o217 96 (by omega)).trans h26
        have m225 := (o217 0 (by omega)).trans h.1
        have m226 := (o217 (B + 12 * q191 + 6) (by omega)).trans h212
        have m227 := (o217 (B + 12 * q191) (by omega)).trans h205
        have m228 := (o217 (B + 12 * q191 + 1 + q193) (by omega)).trans h209
        refine g_aload_n C 5 rfl dL_act_546 ?_
        refine g_iload C 3 rfl dL_act_547 ?_
        refine g_iload C 2 rfl dL_act_549 ?_
        refine g_iload C 1 rfl dL_act_551 ?_
        have hx9 : X4At V ad el215 cnt M St We pl F T := (h.keep (fun j hj => o217 j (by omega)))
        refine g_calli C (r_V C (st := []) (c_X4_tear l V (by omega) hc hx9 q191 (by omega) q193 (by omega) q195 (by omega) c508) (cwV 3 C.ts gL_act_X4_tear rfl rfl rfl (by decide +kernel) ⟨(Nat.le_of_ble_eq_true rfl), (Nat.le_of_ble_eq_true rfl)⟩) (by omega) hx9.1 rfl rfl rfl (Nat.le_of_ble_eq_true rfl) dL_act_553 ⟨(by show _ ≤ 20; omega), (by show _ ≤ 130; omega)⟩) (fun r u hu => ?_)
        obtain ⟨hr, hx10, hfr⟩ := hu
        have hs9 : SimAt V ad el215 B cnt M St We pl F (va_up T q191 (upd (T q191) (6 * q193 + q195) 1)) := hs.tear hB q191 q193 q195 (by omega) (by omega) (by omega) 1 ⟨_, e216, fun q hq => by
            (try dsimp only)
            by_cases e : q = q195
            · subst e; rw [pk_us, if_pos rfl]; rfl
            · rw [pk_un e, if_neg e]; exact z203 q hq⟩ (fun j hj => o217 j hj)
        have hs10 := hs9.keep (el' := u) (fun j hj => hfr j (by omega))
        have c5 : T q191 (6 * q193 + q195) = 0 := c508
        rw [c5] at hr
        subst hr
        refine g_iload C 0 rfl dL_act_556 ?_
        refine g_icmp_ne C (tgt := 565) dL_act_558 (by decide) (fun c558 => ?_) (fun c558 => ?_)
        · -- 565
          exact absurd rfl c558
        · -- 561
          refine g_iconst C (v := nI 1) dL_act_561 (by decide) ?_
          refine g_goto C (tgt := 566) dL_act_562 (by decide) ?_
          exact g_zret C rfl rfl dL_act_566 (n, ad, u) rfl rfl rfl ⟨rfl, ⟨cnt, M, St, We, pl, F, _, ⟨hB, hc, hn, hx10, hs10, hP.tear (by omega) _⟩, Nat.le_refl _, fun q hq j hj => rfl⟩, fun j hj => rfl, fun j h1 h2 => (hfr j (by omega)).trans (o217 j (by omega))⟩ (by omega) (by omega)
      · -- 511
        refine g_iconst C (v := nI 1) dL_act_511 (by decide) ?_
        exact g_zret C rfl rfl dL_act_512 (n, ad, el) rfl rfl rfl ⟨rfl, ⟨cnt, M, St, We, pl, F, T, hI, Nat.le_refl _, fun q hq j hj => rfl⟩, fun j hj => rfl, fun j h1 h2 => rfl⟩ (by omega) (by omega)
    · -- no sheet
      refine g_iconst C (v := nI 1) dL_act_467 (by decide) ?_
      exact g_zret C rfl rfl dL_act_468 (n, ad, el) rfl rfl rfl ⟨rfl, ⟨cnt, M, St, We, pl, F, T, hI, Nat.le_refl _, fun q hq j hj => rfl⟩, fun j hj => rfl, fun j h1 h2 => rfl⟩ (by omega) (by omega)
  rcases (show q28 = 0 ∨ q28 = 1 ∨ q28 = 2 ∨ q28 = 3 ∨ q28 = 4 ∨ q28 = 5 ∨ q28 = 6 ∨ q28 = 7 ∨ q28 = 8 ∨ q28 = 9 ∨ q28 = 10 ∨ q28 = 11 by omega) with rfl | rfl | rfl | rfl | rfl | rfl | rfl | rfl | rfl | rfl | rfl | rfl
  · exact g_tableIn C (tgt := 68) (off := 53) dL_act_15 (by decide) (by decide) rfl (by decide) (J68 () trivial)
  · exact g_tableIn C (tgt := 68) (off := 53) dL_act_15 (by decide) (by decide) rfl (by decide) (J68 () trivial)
  · exact g_tableIn C (tgt := 165) (off := 150) dL_act_15 (by decide) (by decide) rfl (by decide) (J165 () trivial)
  · exact g_tableIn C (tgt := 191) (off := 176) dL_act_15 (by decide) (by decide) rfl (by decide) (J191 () trivial)
  · exact g_tableIn C (tgt := 254) (off := 239) dL_act_15 (by decide) (by decide) rfl (by decide) (J254 () trivial)
  · exact g_tableIn C (tgt := 254) (off := 239) dL_act_15 (by decide) (by decide) rfl (by decide) (J254 () trivial)
  · exact g_tableIn C (tgt := 358) (off := 343) dL_act_15 (by decide) (by decide) rfl (by decide) (J358 () trivial)
  · exact g_tableIn C (tgt := 358) (off := 343) dL_act_15 (by decide) (by decide) rfl (by decide) (J358 () trivial)
  · exact g_tableIn C (tgt := 430) (off := 415) dL_act_15 (by decide) (by decide) rfl (by decide) (J430 () trivial)
  · exact g_tableIn C (tgt := 430) (off := 415) dL_act_15 (by decide) (by decide) rfl (by decide) (J430 () trivial)
  · exact g_tableOut C (tgt := 463) dL_act_15 (by decide) (by decide) (J463 () trivial)
  · exact g_tableOut C (tgt := 463) dL_act_15 (by decide) (by decide) (J463 () trivial)
