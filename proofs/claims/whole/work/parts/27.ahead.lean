/-! ===== the reference: ahead of time ===== -/
/-- a copy of the machine's numbers and of the wear -/
def KeptAt (V : gT) (ad : Nat → Nat) (el : Nat → va_E) (k : Nat) (M We : Nat → Int32) : Prop :=
  (∃ f : Nat → Option Nat, el k = .inl (V.2 5, 2, .inr (.inr (.inr (.inr f)))) ∧ f 0 = some (ad (k + 1)) ∧ f 1 = some (ad (k + 2))) ∧ ArrI V el (k + 1) 6 M ∧ ArrI V el (k + 2) 7 We
theorem KeptAt.keep {V : gT} {ad : Nat → Nat} {el el' : Nat → va_E} {k : Nat} {M We : Nat → Int32} (h : KeptAt V ad el k M We) (ho : ∀ j, k ≤ j → j < k + 3 → el' j = el j) : KeptAt V ad el' k M We := by
  obtain ⟨⟨f, h1, h2⟩, h3, h4⟩ := h
  exact ⟨⟨f, (ho _ (by omega) (by omega)).trans h1, h2⟩, h3.keep (ho _ (by omega) (by omega)), h4.keep (ho _ (by omega) (by omega))⟩
def s_G (b : Int32) (f : Nat → Int32) (j : Nat) : Int32 := if b = 0 then s_lw (f j) 0 0 else s_worth (f j) 0
def s_wr (M St We pl : Nat → Int32) (b : Int32) : Nat → Int32 := s_sum (fun q => s_sum (s_G b (s_tF M St We pl q)) 30)
theorem s_wr_0 (M St We pl : Nat → Int32) (N : Nat) : s_wr M St We pl 0 N = s_tC M St We pl (fun _ => 0) N :=
  s_sum_congr (fun q _ => s_sum_congr (fun j _ => if_pos rfl))
theorem s_wr_1 (M St We pl : Nat → Int32) (N : Nat) : s_wr M St We pl 1 N = s_tV M St We pl (fun _ => 0) N :=
  s_sum_congr (fun q _ => s_sum_congr (fun j _ => if_neg (by decide)))
theorem s_acc_add (g : Nat → Int32) (a : Int32) : ∀ k, s_acc g a k = a + s_sum g k
  | 0 => (Int32.add_zero a).symm
  | k + 1 => by rw [s_acc, s_acc_add g a k, s_sum, Int32.add_assoc]
theorem s_wr_s (M St We pl : Nat → Int32) (b : Int32) (q : Nat) : s_acc (s_G b (s_tF M St We pl q)) (s_wr M St We pl b q) 30 = s_wr M St We pl b (q + 1) := by
  rw [s_acc_add]
  rfl
theorem upd_self (M : Nat → Int32) (i : Nat) : upd M i (M i) = M := by
  funext j
  by_cases e : j = i
  · subst e; exact pk_us
  · exact pk_un e
theorem fore_lt (M St We pl : Nat → Int32) (N : Nat) {w : Nat} (h : w < 2) : s_wr M St We pl (if nI w = 1 then 1 else 0) N = s_fore M St We pl N (nI w) := by
  rcases (show w = 0 ∨ w = 1 by omega) with rfl | rfl
  · rw [if_neg (by decide), s_wr_0, s_fore, if_pos (by decide), upd_self]
  · rw [if_pos (by decide), s_wr_1, s_fore, if_neg (by decide), if_pos (by decide), upd_self]
theorem fore_2 (M St We pl : Nat → Int32) (N : Nat) : s_broken St (s_rW St We N) = s_fore M St We pl N (nI 2) := by
  rw [s_fore, if_neg (by decide), if_neg (by decide), if_pos (by decide)]
theorem fore_3 (M St We pl : Nat → Int32) (N : Nat) : s_rM M N 2 = s_fore M St We pl N (nI 3) := by
  rw [s_fore, if_neg (by decide), if_neg (by decide), if_neg (by decide), upd_self]
def s_bestR (g : Nat → Int32) : Nat → Int32
  | 0 => 0
  | i + 1 => if g i ≤ s_best1 g i then s_bestR g i else nI (10 + i)
theorem s_bestR_eq {g : Nat → Int32} (h : ¬ g 0 ≤ -1) : ∀ i, s_bestR g (i + 1) = s_best g (i + 1)
  | 0 => by rw [s_bestR, s_best, if_neg (show ¬ g 0 ≤ s_best1 g 0 from h), if_neg (show ¬ g 0 ≤ s_best1 g 0 from h)]
  | i + 1 => by rw [s_bestR, s_best, s_bestR_eq h i]
theorem s_tC_ge (M St We pl : Nat → Int32) {N : Nat} (hN : N ≤ 20) : ¬ s_tC M St We pl (fun _ => 0) N ≤ -1 := by
  obtain ⟨w, hw, e⟩ := s_sum_bd (g := fun q => s_leftWith (s_tF M St We pl q) (fun _ => 0) 0) (B := 30) N (fun q _ => by
    obtain ⟨v, hv, e⟩ := s_sum_bd (g := fun j => s_lw (s_tF M St We pl q j) 0 0) (B := 1) 30 (fun j _ => by
      show ∃ w, w ≤ 1 ∧ s_lw (s_tF M St We pl q j) 0 0 = nI w
      unfold s_lw
      split
      · exact ⟨1, by omega, rfl⟩
      · exact ⟨0, by omega, rfl⟩)
    exact ⟨v, by omega, e⟩)
  show ¬ s_sum _ N ≤ -1
  rw [e, i_le, nI_toInt (by omega)]
  have h1 : (-1 : Int32).toInt = -1 := by decide
  omega
theorem s_adv_R (M St We pl : Nat → Int32) {N : Nat} (hN : N ≤ 20) : s_bestR (fun i => s_tC (upd M 0 (nI (10 + i))) St We pl (fun _ => 0) N) 21 = s_adv M St We pl N := by
  unfold s_adv
  exact s_bestR_eq (g := fun i => s_tC (upd M 0 (nI (10 + i))) St We pl (fun _ => 0) N) (s_tC_ge (upd M 0 (nI (10 + 0))) St We pl hN) 20

set_option maxHeartbeats 4000000 in
set_option maxRecDepth 100000 in
theorem c_X5_wouldRun (l : Launch) (V : gT) {n : Nat} {ad : Nat → Nat} {el : Nat → va_E} {thr : Int32} {cnt : Nat} {M St We pl sh : Nat → Int32} {F T : Nat → Nat → Int32} (hn : 92 ≤ n) (hc : cnt ≤ 20) (h : X5At V ad el thr cnt M St We pl sh F T) (hstep : 0 < M 4) (N : Nat) (hN : N ≤ 20) (b : Int32) : TT l V yX5_wouldRun wsX5_wouldRun { frames := 3, cells := 0, slots := 0, locals := 66 } n ad el [.ref (ad 85), .int (nI N), .int b] (QIw V n ad (fun r u => r = s_wr M St We pl b N ∧ (∃ sh1 : Nat → Int32, X5At V ad u thr cnt (s_rM M N) St (s_rW St We N) pl sh1 F T) ∧ ∀ j, (j < 85 ∨ 92 ≤ j) → u j = el j)) 0 0 := by
  refine TT.body (cc := cX5_wouldRun) (maxL := 9) (ret := (some .int)) (by decide) rfl (Nat.le_of_ble_eq_true rfl) ?_
  intro p e s m below meth c C hnm
  refine g_lv [0, 1, 2] (lv' := [(0, .ref (ad 85)), (1, .int (nI N)), (2, .int b)]) rfl ?_
  obtain ⟨m1, ⟨g16, m2, r9⟩, ⟨g17, m3, r10⟩, ⟨g18, m4, r11⟩, ⟨g19, m5, r12⟩, ⟨g20, m6, r13⟩, ⟨g21, m7, r14⟩⟩ := id h
  refine g_iconst C (v := nI 0) dX5_wouldRun_0 (by decide) ?_
  refine g_istore_n C (lv' := [(3, .int (nI 0)), (0, .ref (ad 85)), (1, .int (nI N)), (2, .int b)]) dX5_wouldRun_1 (by decide) rfl ?_
  refine g_iconst C (v := nI 0) dX5_wouldRun_2 (by decide) ?_
  refine g_istore C (lv' := [(4, .int (nI 0)), (3, .int (nI 0)), (0, .ref (ad 85)), (1, .int (nI N)), (2, .int b)]) dX5_wouldRun_3 (by decide) rfl ?_
  refine g_lv [0, 1, 2, 3, 4] (lv' := [(4, .int (nI 0)), (3, .int (nI 0)), (0, .ref (ad 85)), (1, .int (nI N)), (2, .int b)]) rfl ?_
  refine g_forE N (fun (q : Nat) => [(4, .int (nI q)), (3, .int (s_wr M St We pl b q)), (0, .ref (ad 85)), (1, .int (nI N)), (2, .int b)]) (fun q el1 => ∃ sh1 : Nat → Int32, X5At V ad el1 thr cnt (s_rM M q) St (s_rW St We q) pl sh1 F T ∧ ∀ j, (j < 85 ∨ 92 ≤ j) → el1 j = el j) ⟨sh, h, fun j _ => rfl⟩ (fun el1 h1 => ?_) (fun q el1 hq h1 ihq => ?_)
  · -- loop 5: its end
    obtain ⟨sh1, a1, a4⟩ := id h1
    obtain ⟨m22, ⟨g37, m23, r30⟩, ⟨g38, m24, r31⟩, ⟨g39, m25, r32⟩, ⟨g40, m26, r33⟩, ⟨g41, m27, r34⟩, ⟨g42, m28, r35⟩⟩ := id a1
    refine g_iload C 0 rfl dX5_wouldRun_5 ?_
    refine g_iload_n C 3 rfl dX5_wouldRun_7 ?_
    refine g_icmp_ge C (tgt := 80) dX5_wouldRun_8 (by decide) (fun c8 => ?_) (fun c8 => ?_)
    · -- 80
      have c8 : N ≤ N := (nI_leI (by omega) (by omega)).mp c8
      refine g_iload_n C 1 rfl dX5_wouldRun_80 ?_
      exact g_iret C rfl dX5_wouldRun_81 el1 rfl rfl rfl ⟨rfl, ⟨sh1, ⟨m22, ⟨_, m23, r30⟩, ⟨_, m24, r31⟩, ⟨_, m25, r32⟩, ⟨_, m26, r33⟩, ⟨_, m27, r34⟩, ⟨_, m28, r35⟩⟩⟩, fun j hj => a4 j hj⟩ (Nat.le_of_ble_eq_true rfl) (Nat.le_of_ble_eq_true rfl)
    · -- 11
      have c8 : N < N := Nat.lt_of_not_le (fun z => c8 ((nI_leI (by omega) (by omega)).mpr z))
      exact absurd c8 (by omega)
  · -- loop 5: its body
    obtain ⟨sh1, a1, a4⟩ := id h1
    obtain ⟨m43, ⟨g58, m44, r51⟩, ⟨g59, m45, r52⟩, ⟨g60, m46, r53⟩, ⟨g61, m47, r54⟩, ⟨g62, m48, r55⟩, ⟨g63, m49, r56⟩⟩ := id a1
    refine g_iload C 0 rfl dX5_wouldRun_5 ?_
    refine g_iload_n C 3 rfl dX5_wouldRun_7 ?_
    refine g_icmp_ge C (tgt := 80) dX5_wouldRun_8 (by decide) (fun c8 => ?_) (fun c8 => ?_)
    · -- 80
      have c8 : N ≤ q := (nI_leI (by omega) (by omega)).mp c8
      exact absurd c8 (by omega)
    · -- 11
      have c8 : q < N := Nat.lt_of_not_le (fun z => c8 ((nI_leI (by omega) (by omega)).mpr z))
      refine g_aload_n C 2 rfl dX5_wouldRun_11 ?_
      refine g_callv C (r_V C (st := []) (c_X5_runSheet l V (by omega) (by omega) ⟨m43, ⟨_, m44, r51⟩, ⟨_, m45, r52⟩, ⟨_, m46, r53⟩, ⟨_, m47, r54⟩, ⟨_, m48, r55⟩, ⟨_, m49, r56⟩⟩ (by rw [s_rM_4]; exact hstep)) (cwV 0 C.ts gX5_wouldRun_X5_runSheet rfl rfl rfl (by decide +kernel) ⟨(Nat.le_of_ble_eq_true rfl), (Nat.le_of_ble_eq_true rfl)⟩) (by omega) m43 rfl rfl rfl (Nat.le_of_ble_eq_true rfl) dX5_wouldRun_12 ⟨(Nat.le_of_ble_eq_true rfl), (Nat.le_of_ble_eq_true rfl)⟩) (fun u hu => ?_)
      obtain ⟨sh2, u1, u2, u4⟩ := hu
      obtain ⟨m64, ⟨g79, m65, r72⟩, ⟨g80, m66, r73⟩, ⟨g81, m67, r74⟩, ⟨g82, m68, r75⟩, ⟨g83, m69, r76⟩, ⟨g84, m70, r77⟩⟩ := id u1
      refine g_aload_n C 2 rfl dX5_wouldRun_15 ?_
      refine g_getf C 85 (by omega) m64 rfl 7 (by decide) (fun w h => (List.mem_cons_of_mem _ (List.mem_append_right _ h))) (List.mem_of_getElem? (i := 1) rfl) rfl rfl dX5_wouldRun_16 ?_
      refine g_astore C (lv' := [(5, .ref (ad 91)), (4, .int (nI q)), (3, .int (s_wr M St We pl b q)), (0, .ref (ad 85)), (1, .int (nI N)), (2, .int b)]) dX5_wouldRun_19 (by decide) rfl ?_
      refine g_aload C 0 rfl dX5_wouldRun_21 ?_
      refine g_alen C 91 (by omega) 0 rfl m70 (v := nI 30) rfl dX5_wouldRun_23 ?_
      refine g_istore C (lv' := [(6, .int (nI 30)), (5, .ref (ad 91)), (4, .int (nI q)), (3, .int (s_wr M St We pl b q)), (0, .ref (ad 85)), (1, .int (nI N)), (2, .int b)]) dX5_wouldRun_24 (by decide) rfl ?_
      refine g_iconst C (v := nI 0) dX5_wouldRun_26 (by decide) ?_
      refine g_istore C (lv' := [(7, .int (nI 0)), (6, .int (nI 30)), (5, .ref (ad 91)), (4, .int (nI q)), (3, .int (s_wr M St We pl b q)), (0, .ref (ad 85)), (1, .int (nI N)), (2, .int b)]) dX5_wouldRun_27 (by decide) rfl ?_
      refine g_lv [0, 1, 2, 4, 3, 5, 6, 7] (lv' := [(7, .int (nI 0)), (6, .int (nI 30)), (5, .ref (ad 91)), (3, .int (s_wr M St We pl b q)), (4, .int (nI q)), (0, .ref (ad 85)), (1, .int (nI N)), (2, .int b)]) rfl ?_
      refine g_for 30 (fun (k : Nat) => [(7, .int (nI k)), (6, .int (nI 30)), (5, .ref (ad 91)), (3, .int (s_acc (s_G b (s_tF M St We pl q)) (s_wr M St We pl b q) k)), (4, .int (nI q)), (0, .ref (ad 85)), (1, .int (nI N)), (2, .int b)]) ?_ (fun k hk ihk => ?_)
      · -- loop 29: its end
        refine g_iload C 0 rfl dX5_wouldRun_29 ?_
        refine g_iload C 1 rfl dX5_wouldRun_31 ?_
        refine g_icmp_ge C (tgt := 74) dX5_wouldRun_33 (by decide) (fun c33 => ?_) (fun c33 => ?_)
        · -- 74
          have c33 : 30 ≤ 30 := (nI_leI (by omega) (by omega)).mp c33
          refine g_iinc C 4 rfl (v := nI (q + 1)) (lv' := [(4, .int (nI (q + 1))), (7, .int (nI 30)), (6, .int (nI 30)), (5, .ref (ad 91)), (3, .int (s_acc (s_G b (s_tF M St We pl q)) (s_wr M St We pl b q) 30)), (0, .ref (ad 85)), (1, .int (nI N)), (2, .int b)]) dX5_wouldRun_74 (nI_add _ _) (by decide) rfl ?_
          refine g_goto C (tgt := 5) dX5_wouldRun_77 (by decide) ?_
          refine g_lv [0, 4, 5, 6, 7] (lv' := [(4, .int (nI (q + 1))), (3, .int (s_acc (s_G b (s_tF M St We pl q)) (s_wr M St We pl b q) 30)), (0, .ref (ad 85)), (1, .int (nI N)), (2, .int b)]) rfl ?_
          refine g_lveq (lv' := [(4, .int (nI (q + 1))), (3, .int (s_wr M St We pl b (q + 1))), (0, .ref (ad 85)), (1, .int (nI N)), (2, .int b)]) (by rw [s_wr_s]) ?_
          exact ihq _ ⟨sh2, ⟨m64, ⟨_, m65, r72⟩, ⟨_, m66, r73⟩, ⟨_, m67, r74⟩, ⟨_, m68, r75⟩, ⟨_, m69, r76⟩, ⟨_, m70, r77⟩⟩, fun j hj => (u4 j hj).trans (a4 j hj)⟩
        · -- 36
          have c33 : 30 < 30 := Nat.lt_of_not_le (fun z => c33 ((nI_leI (by omega) (by omega)).mpr z))
          exact absurd c33 (by omega)
      · -- loop 29: its body
        refine g_iload C 0 rfl dX5_wouldRun_29 ?_
        refine g_iload C 1 rfl dX5_wouldRun_31 ?_
        refine g_icmp_ge C (tgt := 74) dX5_wouldRun_33 (by decide) (fun c33 => ?_) (fun c33 => ?_)
        · -- 74
          have c33 : 30 ≤ k := (nI_leI (by omega) (by omega)).mp c33
          exact absurd c33 (by omega)
        · -- 36
          have c33 : k < 30 := Nat.lt_of_not_le (fun z => c33 ((nI_leI (by omega) (by omega)).mpr z))
          refine g_aload C 2 rfl dX5_wouldRun_36 ?_
          refine g_iload C 0 rfl dX5_wouldRun_38 ?_
          refine g_iald C 91 (by omega) m70 k rfl (by omega) (by decide) dX5_wouldRun_40 ?_
          refine g_top (r77 k (by omega) : g84 k = sh2 k) ?_
          refine g_top (u2 k (by omega) : sh2 k = s_tF M St We pl q k) ?_
          refine g_istore C (lv' := [(8, .int (s_tF M St We pl q k)), (7, .int (nI k)), (6, .int (nI 30)), (5, .ref (ad 91)), (3, .int (s_acc (s_G b (s_tF M St We pl q)) (s_wr M St We pl b q) k)), (4, .int (nI q)), (0, .ref (ad 85)), (1, .int (nI N)), (2, .int b)]) dX5_wouldRun_41 (by decide) rfl ?_
          refine g_iload_n C 4 rfl dX5_wouldRun_43 ?_
          refine g_iload_n C 8 rfl dX5_wouldRun_44 ?_
          refine g_via (fun v : Int32 => v = s_G b (s_tF M St We pl q) k) 66 (fun _ => [(8, .int (s_tF M St We pl q k)), (7, .int (nI k)), (6, .int (nI 30)), (5, .ref (ad 91)), (3, .int (s_acc (s_G b (s_tF M St We pl q)) (s_wr M St We pl b q) k)), (4, .int (nI q)), (0, .ref (ad 85)), (1, .int (nI N)), (2, .int b)]) (fun v => .int v :: [.int (s_acc (s_G b (s_tF M St We pl q)) (s_wr M St We pl b q) k)]) (fun v hv => ?_) (fun J => ?_)
          · -- join
            subst hv
            refine g_iadd C (v := (s_acc (s_G b (s_tF M St We pl q)) (s_wr M St We pl b q) k) + (s_G b (s_tF M St We pl q) k)) dX5_wouldRun_66 rfl ?_
            refine g_istore_n C (lv' := [(3, .int ((s_acc (s_G b (s_tF M St We pl q)) (s_wr M St We pl b q) k) + (s_G b (s_tF M St We pl q) k))), (8, .int (s_tF M St We pl q k)), (7, .int (nI k)), (6, .int (nI 30)), (5, .ref (ad 91)), (4, .int (nI q)), (0, .ref (ad 85)), (1, .int (nI N)), (2, .int b)]) dX5_wouldRun_67 (by decide) rfl ?_
            refine g_iinc C 2 rfl (v := nI (k + 1)) (lv' := [(7, .int (nI (k + 1))), (3, .int ((s_acc (s_G b (s_tF M St We pl q)) (s_wr M St We pl b q) k) + (s_G b (s_tF M St We pl q) k))), (8, .int (s_tF M St We pl q k)), (6, .int (nI 30)), (5, .ref (ad 91)), (4, .int (nI q)), (0, .ref (ad 85)), (1, .int (nI N)), (2, .int b)]) dX5_wouldRun_68 (nI_add _ _) (by decide) rfl ?_
            refine g_goto C (tgt := 29) dX5_wouldRun_71 (by decide) ?_
            refine g_lv [0, 3, 4, 1, 5, 6, 7, 8] (lv' := [(7, .int (nI (k + 1))), (6, .int (nI 30)), (5, .ref (ad 91)), (3, .int ((s_acc (s_G b (s_tF M St We pl q)) (s_wr M St We pl b q) k) + (s_G b (s_tF M St We pl q) k))), (4, .int (nI q)), (0, .ref (ad 85)), (1, .int (nI N)), (2, .int b)]) rfl ?_
            exact ihk
          · -- ways
            refine g_if_eq C (tgt := 56) dX5_wouldRun_45 (by decide) (fun c45 => ?_) (fun c45 => ?_)
            · -- 56
              refine g_iload C 0 rfl dX5_wouldRun_56 ?_
              refine g_if_ne C (tgt := 65) dX5_wouldRun_58 (by decide) (fun c58 => ?_) (fun c58 => ?_)
              · -- 65
                refine g_iconst C (v := nI 0) dX5_wouldRun_65 (by decide) ?_
                exact J _ (by rw [s_G, if_pos c45, s_lw, if_neg (fun z => c58 z.2)] <;> rfl)
              · -- 61
                refine g_iconst C (v := nI 1) dX5_wouldRun_61 (by decide) ?_
                refine g_goto C (tgt := 66) dX5_wouldRun_62 (by decide) ?_
                exact J _ (by rw [s_G, if_pos c45, s_lw, if_pos ⟨rfl, c58⟩] <;> rfl)
            · -- 48
              refine g_iload C 0 rfl dX5_wouldRun_48 ?_
              refine g_calli C (r_S C (st := [.int (s_acc (s_G b (s_tF M St We pl q)) (s_wr M St We pl b q) k)]) (c_X5_worth l V (s_tF M St We pl q k)) (va_cwS 1 C.ts gX5_wouldRun_X5_worth rfl rfl rfl (by decide +kernel) ⟨(Nat.le_of_ble_eq_true rfl), (Nat.le_of_ble_eq_true rfl)⟩) rfl rfl (Nat.le_of_ble_eq_true rfl) dX5_wouldRun_50 ⟨(Nat.le_of_ble_eq_true rfl), (Nat.le_of_ble_eq_true rfl)⟩) (fun r u hu => ?_)
              subst hu
              refine g_goto C (tgt := 66) dX5_wouldRun_53 (by decide) ?_
              exact J _ (by
                    have e8 := mw_enc (t := 0) (s_fault_32 (s_rM M q) St (s_rW St We q) pl k)
                    rw [enc_t0 _ rfl] at e8
                    rw [s_G, if_neg c45]
                    exact e8)

set_option maxHeartbeats 4000000 in
set_option maxRecDepth 100000 in
theorem c_X5_kept (l : Launch) (V : gT) {n : Nat} {ad : Nat → Nat} {el : Nat → va_E} {thr : Int32} {cnt : Nat} {M St We pl sh : Nat → Int32} {F T : Nat → Nat → Int32} (hn : 92 ≤ n) (hc : cnt ≤ 20) (h : X5At V ad el thr cnt M St We pl sh F T) : TT l V yX5_kept wsX5_kept { frames := 1, cells := 3, slots := 15, locals := 24 } n ad el [.ref (ad 85)] (QRn V n (fun u => u.1 = n + 3 ∧ (∀ j, j < n → u.2.1 j = ad j) ∧ (∀ j, j < n → u.2.2 j = el j) ∧ KeptAt V u.2.1 u.2.2 n M We)) 3 15 := by
  refine TT.body (cc := cX5_kept) (maxL := 1) (ret := (some (.array (.array .int)))) (by decide) rfl (Nat.le_of_ble_eq_true rfl) ?_
  intro p e s m below meth c C hnm
  refine g_lv [0] (lv' := [(0, .ref (ad 85))]) rfl ?_
  obtain ⟨m1, ⟨g16, m2, r9⟩, ⟨g17, m3, r10⟩, ⟨g18, m4, r11⟩, ⟨g19, m5, r12⟩, ⟨g20, m6, r13⟩, ⟨g21, m7, r14⟩⟩ := id h
  refine g_iconst C (v := nI 2) dX5_kept_0 (by decide) ?_
  refine g_newAA C (List.mem_of_getElem? (i := 1) rfl) (N := 2) (by decide) (by decide) (by decide) (Nat.le_of_ble_eq_true rfl) (Nat.le_of_ble_eq_true rfl) dX5_kept_1 (fun ad22 el23 ha24 he25 hb26 => ?_)
  refine g_lveq (lv' := [(0, .ref (ad22 85))]) (by rw [ha24 85 (by omega)]) ?_
  have m27 : el23 85 = .inr (5, [.int thr, .int (nI cnt), .ref (ad22 86), .ref (ad22 87), .ref (ad22 88), .ref (ad22 89), .ref (ad22 90), .ref (ad22 91)]) := by rw [hb26 85 (by omega), m1, ha24 86 (by omega), ha24 87 (by omega), ha24 88 (by omega), ha24 89 (by omega), ha24 90 (by omega), ha24 91 (by omega)]
  have m28 := (hb26 86 (by omega)).trans m2
  have m29 := (hb26 87 (by omega)).trans m3
  have m30 := (hb26 88 (by omega)).trans m4
  have m31 := (hb26 89 (by omega)).trans m5
  have m32 := (hb26 90 (by omega)).trans m6
  have m33 := (hb26 91 (by omega)).trans m7
  refine g_dup C dX5_kept_4 rfl ?_
  refine g_iconst C (v := nI 0) dX5_kept_5 (by decide) ?_
  refine g_aload_n C 0 rfl dX5_kept_6 ?_
  refine g_getf C 85 (by omega) m27 rfl 3 (by decide) (fun w h => (List.mem_cons_of_mem _ (List.mem_append_right _ h))) (List.mem_of_getElem? (i := 2) rfl) rfl rfl dX5_kept_7 ?_
  refine g_cloneI C (index := 104) (by
    intro w hw
    simp only [List.mem_cons, List.not_mem_nil, or_false] at hw
    rcases hw with rfl | rfl | rfl | rfl | rfl
    · exact (List.mem_of_getElem? (i := 3) rfl)
    · exact (List.mem_of_getElem? (i := 4) rfl)
    · exact (List.mem_of_getElem? (i := 5) rfl)
    · exact (List.mem_of_getElem? (i := 6) rfl)
    · exact (List.mem_of_getElem? (i := 7) rfl)) 87 (by omega) m29 (Nat.le_of_ble_eq_true rfl) (Nat.le_of_ble_eq_true rfl) (Nat.le_of_ble_eq_true rfl) (Nat.le_of_ble_eq_true rfl) dX5_kept_10 (fun ad34 el35 ha36 he37 hb38 => ?_)
  refine g_lveq (lv' := [(0, .ref (ad34 85))]) (by rw [ha36 85 (by omega)]) ?_
  refine g_steq (st' := .ref (ad34 (n + 1)) :: [.int (nI 0), .ref (ad34 n), .ref (ad34 n)]) (by rw [ha36 n (by omega)]) ?_
  have m39 : el35 85 = .inr (5, [.int thr, .int (nI cnt), .ref (ad34 86), .ref (ad34 87), .ref (ad34 88), .ref (ad34 89), .ref (ad34 90), .ref (ad34 91)]) := by rw [hb38 85 (by omega), m27, ha36 86 (by omega), ha36 87 (by omega), ha36 88 (by omega), ha36 89 (by omega), ha36 90 (by omega), ha36 91 (by omega)]
  have m40 := (hb38 86 (by omega)).trans m28
  have m41 := (hb38 87 (by omega)).trans m29
  have m42 := (hb38 88 (by omega)).trans m30
  have m43 := (hb38 89 (by omega)).trans m31
  have m44 := (hb38 90 (by omega)).trans m32
  have m45 := (hb38 91 (by omega)).trans m33
  have m46 := (hb38 n (by omega)).trans he25
  refine g_castI C (List.mem_of_getElem? (i := 1) rfl) (n + 1) (by omega) he37 dX5_kept_13 ?_
  refine g_aastA C n (by omega) (n + 1) (by omega) he37 m46 0 rfl (by decide) (by decide) dX5_kept_16 (fun el47 e48 o49 => ?_)
  have m50 := (o49 85 (by omega)).trans m39
  have m51 := (o49 86 (by omega)).trans m40
  have m52 := (o49 87 (by omega)).trans m41
  have m53 := (o49 88 (by omega)).trans m42
  have m54 := (o49 89 (by omega)).trans m43
  have m55 := (o49 90 (by omega)).trans m44
  have m56 := (o49 91 (by omega)).trans m45
  have m57 := (o49 (n + 1) (by omega)).trans he37
  refine g_dup C dX5_kept_17 rfl ?_
  refine g_iconst C (v := nI 1) dX5_kept_18 (by decide) ?_
  refine g_aload_n C 0 rfl dX5_kept_19 ?_
  refine g_getf C 85 (by omega) m50 rfl 5 (by decide) (fun w h => (List.mem_cons_of_mem _ (List.mem_append_right _ h))) (List.mem_of_getElem? (i := 8) rfl) rfl rfl dX5_kept_20 ?_
  refine g_cloneI C (index := 104) (by
    intro w hw
    simp only [List.mem_cons, List.not_mem_nil, or_false] at hw
    rcases hw with rfl | rfl | rfl | rfl | rfl
    · exact (List.mem_of_getElem? (i := 3) rfl)
    · exact (List.mem_of_getElem? (i := 4) rfl)
    · exact (List.mem_of_getElem? (i := 5) rfl)
    · exact (List.mem_of_getElem? (i := 6) rfl)
    · exact (List.mem_of_getElem? (i := 7) rfl)) 89 (by omega) m54 (Nat.le_of_ble_eq_true rfl) (Nat.le_of_ble_eq_true rfl) (Nat.le_of_ble_eq_true rfl) (Nat.le_of_ble_eq_true rfl) dX5_kept_23 (fun ad58 el59 ha60 he61 hb62 => ?_)
  refine g_lveq (lv' := [(0, .ref (ad58 85))]) (by rw [ha60 85 (by omega)]) ?_
  refine g_steq (st' := .ref (ad58 (n + 2)) :: [.int (nI 1), .ref (ad58 n), .ref (ad58 n)]) (by rw [ha60 n (by omega)]) ?_
  have m63 : el59 85 = .inr (5, [.int thr, .int (nI cnt), .ref (ad58 86), .ref (ad58 87), .ref (ad58 88), .ref (ad58 89), .ref (ad58 90), .ref (ad58 91)]) := by rw [hb62 85 (by omega), m50, ha60 86 (by omega), ha60 87 (by omega), ha60 88 (by omega), ha60 89 (by omega), ha60 90 (by omega), ha60 91 (by omega)]
  have m64 := (hb62 86 (by omega)).trans m51
  have m65 := (hb62 87 (by omega)).trans m52
  have m66 := (hb62 88 (by omega)).trans m53
  have m67 := (hb62 89 (by omega)).trans m54
  have m68 := (hb62 90 (by omega)).trans m55
  have m69 := (hb62 91 (by omega)).trans m56
  have m70 := (hb62 (n + 1) (by omega)).trans m57
  have m71 := (hb62 n (by omega)).trans e48
  refine g_castI C (List.mem_of_getElem? (i := 1) rfl) (n + 2) (by omega) he61 dX5_kept_26 ?_
  refine g_aastA C n (by omega) (n + 2) (by omega) he61 m71 1 rfl (by decide) (by decide) dX5_kept_29 (fun el72 e73 o74 => ?_)
  have m75 := (o74 85 (by omega)).trans m63
  have m76 := (o74 86 (by omega)).trans m64
  have m77 := (o74 87 (by omega)).trans m65
  have m78 := (o74 88 (by omega)).trans m66
  have m79 := (o74 89 (by omega)).trans m67
  have m80 := (o74 90 (by omega)).trans m68
  have m81 := (o74 91 (by omega)).trans m69
  have m82 := (o74 (n + 1) (by omega)).trans m70
  have m83 := (o74 (n + 2) (by omega)).trans he61
  exact g_aret C rfl dX5_kept_30 ⟨rfl, fun j hj => (ha60 j (by omega)).trans ((ha36 j (by omega)).trans (ha24 j (by omega))), fun j hj => (o74 j (by omega)).trans ((hb62 j (by omega)).trans ((o49 j (by omega)).trans ((hb38 j (by omega)).trans (hb26 j (by omega))))), ⟨⟨_, e73, (va_up_ne _ _ (by decide)).trans ((va_up_self _ _ _).trans (congrArg some (ha60 (n + 1) (by omega)).symm)), va_up_self _ _ _⟩, ⟨_, m82, r10⟩, ⟨_, m83, r12⟩⟩⟩ (Nat.le_of_ble_eq_true rfl) (Nat.le_of_ble_eq_true rfl)

set_option maxHeartbeats 4000000 in
set_option maxRecDepth 100000 in
theorem c_X5_bringBack (l : Launch) (V : gT) {n : Nat} {ad : Nat → Nat} {el : Nat → va_E} {thr : Int32} {cnt : Nat} {M M1 St We W1 pl sh : Nat → Int32} {F T : Nat → Nat → Int32} (k : Nat) (hk : 92 ≤ k) (hk2 : k + 3 ≤ n) (h : X5At V ad el thr cnt M1 St W1 pl sh F T) (hK : KeptAt V ad el k M We) : TT l V yX5_bringBack wsX5_bringBack { frames := 1, cells := 0, slots := 0, locals := 60 } n ad el [.ref (ad 85), .ref (ad k)] (QVw V n ad (fun u => X5At V ad u thr cnt M St We pl sh F T ∧ ∀ j, (j < 85 ∨ 92 ≤ j) → u j = el j)) 0 0 := by
  refine TT.body (cc := cX5_bringBack) (maxL := 2) (ret := none) (by decide) rfl (Nat.le_of_ble_eq_true rfl) ?_
  intro p e s m below meth c C hnm
  refine g_lv [0, 1] (lv' := [(0, .ref (ad 85)), (1, .ref (ad k))]) rfl ?_
  obtain ⟨m1, ⟨g16, m2, r9⟩, ⟨g17, m3, r10⟩, ⟨g18, m4, r11⟩, ⟨g19, m5, r12⟩, ⟨g20, m6, r13⟩, ⟨g21, m7, r14⟩⟩ := id h
  obtain ⟨⟨f, k1, k2, k3⟩, ⟨gm, k4, k5⟩, ⟨gw, k6, k7⟩⟩ := id hK
  refine g_aload_n C 1 rfl dX5_bringBack_0 ?_
  refine g_iconst C (v := nI 0) dX5_bringBack_1 (by decide) ?_
  refine g_aaldA C k (by omega) k1 0 rfl (by decide) (by decide) k2 dX5_bringBack_2 ?_
  refine g_iconst C (v := nI 0) dX5_bringBack_3 (by decide) ?_
  refine g_aload_n C 0 rfl dX5_bringBack_4 ?_
  refine g_getf C 85 (by omega) m1 rfl 3 (by decide) (fun w h => (List.mem_cons_of_mem _ (List.mem_append_right _ h))) (List.mem_of_getElem? (i := 1) rfl) rfl rfl dX5_bringBack_5 ?_
  refine g_iconst C (v := nI 0) dX5_bringBack_8 (by decide) ?_
  refine g_aload_n C 0 rfl dX5_bringBack_9 ?_
  refine g_getf C 85 (by omega) m1 rfl 3 (by decide) (fun w h => (List.mem_cons_of_mem _ (List.mem_append_right _ h))) (List.mem_of_getElem? (i := 1) rfl) rfl rfl dX5_bringBack_10 ?_
  refine g_alen C 87 (by omega) 0 rfl m3 (v := nI 6) rfl dX5_bringBack_13 ?_
  refine g_copyi C (List.mem_of_getElem? (i := 2) rfl) (List.mem_of_getElem? (i := 3) rfl) (List.mem_of_getElem? (i := 4) rfl) (List.mem_of_getElem? (i := 5) rfl) (k + 1) 87 (by omega) (by omega) k4 m3 0 0 6 rfl rfl rfl (by decide) (by decide) (by decide) (by decide) (Nat.le_of_ble_eq_true rfl) (Nat.le_of_ble_eq_true rfl) dX5_bringBack_14 (fun el22 e23 o24 => ?_)
  have r25 : ∀ j, j < 6 → va_cpy gm g17 0 0 6 j = M j := fun j hj => by
    rw [pk_cpy_in (by omega) (by omega)]
    exact (congrArg gm (show 0 + (j - 0) = j by omega)).trans (k5 j hj)
  have m26 := (o24 85 (by omega)).trans m1
  have m27 := (o24 86 (by omega)).trans m2
  have m28 := (o24 88 (by omega)).trans m4
  have m29 := (o24 89 (by omega)).trans m5
  have m30 := (o24 90 (by omega)).trans m6
  have m31 := (o24 91 (by omega)).trans m7
  have m32 := (o24 k (by omega)).trans k1
  have m33 := (o24 (k + 1) (by omega)).trans k4
  have m34 := (o24 (k + 2) (by omega)).trans k6
  refine g_aload_n C 1 rfl dX5_bringBack_17 ?_
  refine g_iconst C (v := nI 1) dX5_bringBack_18 (by decide) ?_
  refine g_aaldA C k (by omega) m32 1 rfl (by decide) (by decide) k3 dX5_bringBack_19 ?_
  refine g_iconst C (v := nI 0) dX5_bringBack_20 (by decide) ?_
  refine g_aload_n C 0 rfl dX5_bringBack_21 ?_
  refine g_getf C 85 (by omega) m26 rfl 5 (by decide) (fun w h => (List.mem_cons_of_mem _ (List.mem_append_right _ h))) (List.mem_of_getElem? (i := 6) rfl) rfl rfl dX5_bringBack_22 ?_
  refine g_iconst C (v := nI 0) dX5_bringBack_25 (by decide) ?_
  refine g_bipush C (v := nI 7) dX5_bringBack_26 (by decide) ?_
  refine g_copyi C (List.mem_of_getElem? (i := 2) rfl) (List.mem_of_getElem? (i := 3) rfl) (List.mem_of_getElem? (i := 4) rfl) (List.mem_of_getElem? (i := 5) rfl) (k + 2) 89 (by omega) (by omega) m34 m29 0 0 7 rfl rfl rfl (by decide) (by decide) (by decide) (by decide) (Nat.le_of_ble_eq_true rfl) (Nat.le_of_ble_eq_true rfl) dX5_bringBack_28 (fun el35 e36 o37 => ?_)
  have r38 : ∀ j, j < 7 → va_cpy gw g19 0 0 7 j = We j := fun j hj => by
    rw [pk_cpy_in (by omega) (by omega)]
    exact (congrArg gw (show 0 + (j - 0) = j by omega)).trans (k7 j hj)
  have m39 := (o37 85 (by omega)).trans m26
  have m40 := (o37 86 (by omega)).trans m27
  have m41 := (o37 88 (by omega)).trans m28
  have m42 := (o37 90 (by omega)).trans m30
  have m43 := (o37 91 (by omega)).trans m31
  have m44 := (o37 k (by omega)).trans m32
  have m45 := (o37 (k + 1) (by omega)).trans m33
  have m46 := (o37 (k + 2) (by omega)).trans m34
  have m47 := (o37 87 (by omega)).trans e23
  exact g_vret C rfl dX5_bringBack_31 el35 rfl rfl rfl ⟨⟨m39, ⟨_, m40, r9⟩, ⟨_, m47, r25⟩, ⟨_, m41, r11⟩, ⟨_, e36, r38⟩, ⟨_, m42, r13⟩, ⟨_, m43, r14⟩⟩, fun j hj => (o37 j (by omega)).trans ((o24 j (by omega)).trans (rfl))⟩ (Nat.le_of_ble_eq_true rfl) (Nat.le_of_ble_eq_true rfl)
