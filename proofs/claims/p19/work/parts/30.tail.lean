/-! ===== the law: the second half of a turn ===== -/
abbrev AL (s : State) : Nat → Prop := fun q => s.heap.size ≤ q
theorem neg1_ne {q : Nat} (hq : q < 1000) : ¬ (-1 : Int32) = nI q := fun z => by
  have h : (0 : Int32) ≤ nI q := nI_pos' (by omega)
  rw [← z] at h
  exact absurd h (by decide)
theorem end_3 (M : Nat → Int32) : s_end M 3 = M 3 - 5 := by
  show M 3 - 1 - 1 - 1 - 1 - 1 = M 3 - 5
  simp only [Int32.sub_eq_add_neg, Int32.add_assoc]
  rfl
theorem end_5 (M : Nat → Int32) : s_end M 5 = M 5 + 5 := by
  show M 5 + 1 + 1 + 1 + 1 + 1 = M 5 + 5
  simp only [Int32.add_assoc]
  rfl
/-- two places more ahead of the sheets, two fewer -/
def s_up (n j : Nat) : Nat := if j = 97 then n else if j = 98 then n + 1 else if j < 97 then j else j - 2
def s_dn (j : Nat) : Nat := if j < 97 then j else j + 2
theorem SimAt.sh {V : gT} {ad : Nat → Nat} {el : Nat → va_E} {B B' cnt : Nat} {M St We pl : Nat → Int32} {F T : Nat → Nat → Int32} (σ : Nat → Nat) (h : SimAt V ad el B cnt M St We pl F T) (h1 : ∀ j, 85 ≤ j → j < 97 → σ j = j) (h2 : ∀ j, j < 12 * cnt → σ (B' + j) = B + j) : SimAt V (fun j => ad (σ j)) (fun j => el (σ j)) B' cnt M St We pl F T := by
  obtain ⟨a1, a2, a3, a4, a5, a6, a7, a8⟩ := h
  have lo : ∀ j, 85 ≤ j → j < 97 → el (σ j) = el j := fun j x y => congrArg el (h1 j x y)
  have la : ∀ j, 85 ≤ j → j < 97 → ad (σ j) = ad j := fun j x y => congrArg ad (h1 j x y)
  have hs : ∀ k, k < cnt → ∀ j, j < 12 → σ (B' + 12 * k + j) = B + 12 * k + j := fun k hk j hj => by
    have := h2 (12 * k + j) (by omega)
    rw [show B' + 12 * k + j = B' + (12 * k + j) by omega, this]
    omega
  refine ⟨?_, a2.keep (lo 86 (by omega) (by omega)), a3.keep (lo 87 (by omega) (by omega)), a4.keep (lo 88 (by omega) (by omega)), a5.mv (fun j hj => lo _ (by omega) (by omega)) (fun j hj => la _ (by omega) (by omega)), ?_, ?_, fun k hk => ⟨(a8 k hk).1.mv (fun j hj => congrArg el (hs k hk j (by omega))) (fun j hj => congrArg ad (hs k hk j (by omega))), (a8 k hk).2.mv (fun j hj => ?_) (fun j hj => ?_)⟩⟩
  · show el (σ 85) = _
    rw [lo 85 (by omega) (by omega), a1]
    dsimp only
    rw [la 86 (by omega) (by omega), la 87 (by omega) (by omega), la 88 (by omega) (by omega), la 89 (by omega) (by omega), la 95 (by omega) (by omega), la 96 (by omega) (by omega)]
  · obtain ⟨g, b1, b2⟩ := a6
    refine ⟨g, (lo 95 (by omega) (by omega)).trans b1, fun k hk => (b2 k hk).trans (congrArg some ?_)⟩
    have := hs k hk 0 (by omega)
    exact (congrArg ad this).symm
  · obtain ⟨g, b1, b2⟩ := a7
    refine ⟨g, (lo 96 (by omega) (by omega)).trans b1, fun k hk => (b2 k hk).trans (congrArg some ?_)⟩
    have := hs k hk 6 (by omega)
    exact (congrArg ad this).symm
  · have := hs k hk (6 + j) (by omega)
    rw [show B' + 12 * k + 6 + j = B' + 12 * k + (6 + j) by omega]
    exact congrArg el (this.trans (by omega))
  · have := hs k hk (6 + j) (by omega)
    rw [show B' + 12 * k + 6 + j = B' + 12 * k + (6 + j) by omega]
    exact congrArg ad (this.trans (by omega))
theorem Inv.sh {V : gT} {n n' B' : Nat} {ad : Nat → Nat} {el : Nat → va_E} {B cnt : Nat} {M St We pl : Nat → Int32} {F T : Nat → Nat → Int32} (σ : Nat → Nat) (h : Inv V n ad el B cnt M St We pl F T) (hB : 97 ≤ B') (hn : n' = B' + 12 * cnt) (h1 : ∀ j, j < 97 → σ j = j) (h2 : ∀ j, j < 12 * cnt → σ (B' + j) = B + j) : Inv V n' (fun j => ad (σ j)) (fun j => el (σ j)) B' cnt M St We pl F T := by
  obtain ⟨-, g2, -, g4, g5, g6⟩ := h
  exact ⟨hB, g2, hn, (g4.keep (el' := fun j => el (σ j)) (fun j hj => congrArg el (h1 j (by omega)))).adr (fun j hj => congrArg ad (h1 j (by omega))), g5.sh σ (fun j _ hj => h1 j hj) h2, g6⟩

set_option maxHeartbeats 8000000 in
set_option maxRecDepth 100000 in
theorem law_tail {p : Program} {l : Launch} {e : Env} {s : State} {m : MethodId} {below : List Frame} {meth : Method} {c : Code} {V : gT} {Q : State → Prop} (C : CX V (AL s) RL cL_law 23 (some .boolean) wsL_law p s m #[Value.ref (g_b V)] meth c) {n : Nat} {ad : Nat → Nat} {el : Nat → va_E} {cells slots cnt : Nat} {M St We pl : Nat → Int32} {F T : Nat → Nat → Int32} (hcc : cells ≤ 10000) (hss : slots ≤ 100000) (hI : Inv V n ad el 99 cnt M St We pl F T) (t : Nat) {was : Nat → Int32} (hwas : el 97 = .inl (V.2 0, 30, .inl was)) (wv : Int32) (hwv : wv = -1 ∨ ∃ q, q < cnt ∧ wv = nI q ∧ ∀ k, k < 30 → was k = F q k) (K : GW p l e room_1 s m #[Value.ref (g_b V)] below meth c V (AL s) 23 Q n ad el cells slots 837 [(3, .int (nI t)), (2, .ref (ad 85)), (1, .ref (ad 0)), (0, .ref (g_b V))] []) : GW p l e room_1 s m #[Value.ref (g_b V)] below meth c V (AL s) 23 Q n ad el cells slots 415 [(3, .int (nI t)), (2, .ref (ad 85)), (1, .ref (ad 0)), (0, .ref (g_b V)), (6, .int wv), (7, .ref (ad 97))] [] := by
  obtain ⟨hB, hc, hn, h, hs, hP⟩ := id hI
  refine g_via (fun _ : Unit => True) 462 (fun _ => [(3, .int (nI t)), (2, .ref (ad 85)), (1, .ref (ad 0)), (0, .ref (g_b V)), (6, .int wv), (7, .ref (ad 97))]) (fun _ => []) (fun _ _ => ?_) (fun J462 => ?_)
  · -- from 462
    refine g_aload_n C 2 rfl dL_law_462 ?_
    refine g_iconst C (v := nI 0) dL_law_463 (by decide) ?_
    refine g_calli C (r_V C (st := []) (c_X4_count l V (by omega) hc h 0 (by omega)) (cwV 1 C.ts gL_law_X4_count rfl rfl rfl (by decide +kernel) ⟨(Nat.le_of_ble_eq_true rfl), (Nat.le_of_ble_eq_true rfl)⟩) (by omega) h.1 rfl rfl rfl (Nat.le_of_ble_eq_true rfl) dL_law_464 ⟨(by show _ ≤ 600130; omega), (by show _ ≤ 7301080; omega)⟩) (fun r u hu => ?_)
    subst hu
    refine g_top (rfl : s_cnt cnt M St We pl F T (nI 0) = nI cnt) ?_
    refine g_istore C (lv' := [(5, .int (nI cnt)), (3, .int (nI t)), (2, .ref (ad 85)), (1, .ref (ad 0)), (0, .ref (g_b V)), (6, .int wv), (7, .ref (ad 97))]) dL_law_467 (by decide) rfl ?_
    refine g_iconst C (v := nI 0) dL_law_469 (by decide) ?_
    refine g_istore C (lv' := [(16, .int (nI 0)), (5, .int (nI cnt)), (3, .int (nI t)), (2, .ref (ad 85)), (1, .ref (ad 0)), (0, .ref (g_b V)), (6, .int wv), (7, .ref (ad 97))]) dL_law_470 (by decide) rfl ?_
    refine g_iconst C (v := nI 0) dL_law_472 (by decide) ?_
    refine g_istore C (lv' := [(17, .int (nI 0)), (16, .int (nI 0)), (5, .int (nI cnt)), (3, .int (nI t)), (2, .ref (ad 85)), (1, .ref (ad 0)), (0, .ref (g_b V)), (6, .int wv), (7, .ref (ad 97))]) dL_law_473 (by decide) rfl ?_
    refine g_iconst C (v := nI 0) dL_law_475 (by decide) ?_
    refine g_istore C (lv' := [(18, .int (nI 0)), (17, .int (nI 0)), (16, .int (nI 0)), (5, .int (nI cnt)), (3, .int (nI t)), (2, .ref (ad 85)), (1, .ref (ad 0)), (0, .ref (g_b V)), (6, .int wv), (7, .ref (ad 97))]) dL_law_476 (by decide) rfl ?_
    refine g_iconst C (v := nI 0) dL_law_478 (by decide) ?_
    refine g_istore C (lv' := [(19, .int (nI 0)), (18, .int (nI 0)), (17, .int (nI 0)), (16, .int (nI 0)), (5, .int (nI cnt)), (3, .int (nI t)), (2, .ref (ad 85)), (1, .ref (ad 0)), (0, .ref (g_b V)), (6, .int wv), (7, .ref (ad 97))]) dL_law_479 (by decide) rfl ?_
    refine g_lv [0, 3, 2, 1, 4, 5, 6, 7, 8, 9, 10] (lv' := [(19, .int (nI 0)), (16, .int (nI 0)), (17, .int (nI 0)), (18, .int (nI 0)), (5, .int (nI cnt)), (3, .int (nI t)), (2, .ref (ad 85)), (1, .ref (ad 0)), (0, .ref (g_b V)), (6, .int wv), (7, .ref (ad 97))]) rfl ?_
    refine g_for cnt (fun (k : Nat) => [(19, .int (nI k)), (16, .int (s_sum (fun q => s_worths (F q) (T q)) k)), (17, .int (s_sum (fun q => s_left (T q)) k)), (18, .int (s_sum (fun q => s_leftWith (F q) (T q) 0) k)), (5, .int (nI cnt)), (3, .int (nI t)), (2, .ref (ad 85)), (1, .ref (ad 0)), (0, .ref (g_b V)), (6, .int wv), (7, .ref (ad 97))]) ?_ (fun k hk kh => ?_)
    · -- loop 481: its end
      refine g_iload C 0 rfl dL_law_481 ?_
      refine g_iload C 4 rfl dL_law_483 ?_
      refine g_icmp_ge C (tgt := 659) dL_law_485 (by decide) (fun c485 => ?_) (fun c485 => ?_)
      · -- 659
        have c485 : cnt ≤ cnt := (nI_leI (by omega) (by omega)).mp c485
        refine g_aload_n C 7 rfl dL_law_659 ?_
        refine g_bipush C (v := nI 9) dL_law_660 (by decide) ?_
        refine g_calli C (r_V C (st := []) (c_X4_count l V (by omega) hc h 9 (by omega)) (cwV 1 C.ts gL_law_X4_count rfl rfl rfl (by decide +kernel) ⟨(Nat.le_of_ble_eq_true rfl), (Nat.le_of_ble_eq_true rfl)⟩) (by omega) h.1 rfl rfl rfl (Nat.le_of_ble_eq_true rfl) dL_law_662 ⟨(by show _ ≤ 600130; omega), (by show _ ≤ 7301080; omega)⟩) (fun r u hu => ?_)
        subst hu
        refine g_top (rfl : s_cnt cnt M St We pl F T (nI 9) = s_val F T cnt) ?_
        refine g_iload C 1 rfl dL_law_665 ?_
        refine g_icmp_ne C (tgt := 697) dL_law_667 (by decide) (fun c667 => ?_) (fun c667 => ?_)
        · -- 697
          exact absurd rfl c667
        · -- 670
          refine g_via (fun _ : Unit => True) 699 (fun _ => [(19, .int (nI cnt)), (16, .int (s_sum (fun q => s_worths (F q) (T q)) cnt)), (17, .int (s_sum (fun q => s_left (T q)) cnt)), (18, .int (s_sum (fun q => s_leftWith (F q) (T q) 0) cnt)), (5, .int (nI cnt)), (3, .int (nI t)), (2, .ref (ad 85)), (1, .ref (ad 0)), (0, .ref (g_b V)), (6, .int wv), (7, .ref (ad 97))]) (fun _ => []) (fun _ _ => ?_) (fun J699 => ?_)
          · -- from 699
            refine g_via (fun _ : Unit => True) 788 (fun _ => [(17, .int (s_sum (fun q => s_left (T q)) cnt)), (18, .int (s_sum (fun q => s_leftWith (F q) (T q) 0) cnt)), (3, .int (nI t)), (2, .ref (ad 85)), (1, .ref (ad 0)), (0, .ref (g_b V)), (6, .int wv), (7, .ref (ad 97))]) (fun _ => []) (fun _ _ => ?_) (fun J788 => ?_)
            · -- from 788
              refine g_iconst C (v := nI 0) dL_law_788 (by decide) ?_
              refine g_istore C (lv' := [(19, .int (nI 0)), (17, .int (s_sum (fun q => s_left (T q)) cnt)), (18, .int (s_sum (fun q => s_leftWith (F q) (T q) 0) cnt)), (3, .int (nI t)), (2, .ref (ad 85)), (1, .ref (ad 0)), (0, .ref (g_b V)), (6, .int wv), (7, .ref (ad 97))]) dL_law_789 (by decide) rfl ?_
              refine g_iconst C (v := nI 0) dL_law_791 (by decide) ?_
              refine g_istore C (lv' := [(20, .int (nI 0)), (19, .int (nI 0)), (17, .int (s_sum (fun q => s_left (T q)) cnt)), (18, .int (s_sum (fun q => s_leftWith (F q) (T q) 0) cnt)), (3, .int (nI t)), (2, .ref (ad 85)), (1, .ref (ad 0)), (0, .ref (g_b V)), (6, .int wv), (7, .ref (ad 97))]) dL_law_792 (by decide) rfl ?_
              refine g_lv [0, 1, 2, 3, 4, 5, 6, 7, 8, 9] (lv' := [(20, .int (nI 0)), (19, .int (nI 0)), (17, .int (s_sum (fun q => s_left (T q)) cnt)), (18, .int (s_sum (fun q => s_leftWith (F q) (T q) 0) cnt)), (3, .int (nI t)), (2, .ref (ad 85)), (1, .ref (ad 0)), (0, .ref (g_b V)), (6, .int wv), (7, .ref (ad 97))]) rfl ?_
              refine g_for 32 (fun (mk : Nat) => [(20, .int (nI mk)), (19, .int (s_sum (fun m => s_with F T (nI m) cnt) mk)), (17, .int (s_sum (fun q => s_left (T q)) cnt)), (18, .int (s_sum (fun q => s_leftWith (F q) (T q) 0) cnt)), (3, .int (nI t)), (2, .ref (ad 85)), (1, .ref (ad 0)), (0, .ref (g_b V)), (6, .int wv), (7, .ref (ad 97))]) ?_ (fun mk hm mh => ?_)
              · -- loop 794: its end
                refine g_iload C 0 rfl dL_law_794 ?_
                refine g_bipush C (v := nI 32) dL_law_796 (by decide) ?_
                refine g_icmp_ge C (tgt := 818) dL_law_798 (by decide) (fun c798 => ?_) (fun c798 => ?_)
                rotate_left
                · exact absurd c798 (by decide)
                refine g_iload C 1 rfl dL_law_818 ?_
                refine g_iload C 2 rfl dL_law_820 ?_
                refine g_icmp_ne C (tgt := 835) dL_law_822 (by decide) (fun c822 => ?_) (fun c822 => ?_)
                · -- 835
                  exact absurd (masks_all T hP.2.1) c822
                · -- 825
                  refine g_aload_n C 6 rfl dL_law_825 ?_
                  refine g_iconst C (v := nI 0) dL_law_826 (by decide) ?_
                  refine g_calli C (r_V C (st := []) (c_X4_like l V (by omega) hc h 0 (by omega)) (cwV 1 C.ts gL_law_X4_like rfl rfl rfl (by decide +kernel) ⟨(Nat.le_of_ble_eq_true rfl), (Nat.le_of_ble_eq_true rfl)⟩) (by omega) h.1 rfl rfl rfl (Nat.le_of_ble_eq_true rfl) dL_law_827 ⟨(by show _ ≤ 600130; omega), (by show _ ≤ 7301080; omega)⟩) (fun r u hu => ?_)
                  subst hu
                  refine g_iload C 3 rfl dL_law_830 ?_
                  refine g_icmp_eq C (tgt := 837) dL_law_832 (by decide) (fun c832 => ?_) (fun c832 => ?_)
                  · -- 837
                    refine g_lv [4, 5, 6, 7] (lv' := [(3, .int (nI t)), (2, .ref (ad 85)), (1, .ref (ad 0)), (0, .ref (g_b V))]) rfl ?_
                    exact K
                  · -- 835
                    exact absurd rfl c832
              · -- loop 794: its body
                refine g_iload C 0 rfl dL_law_794 ?_
                refine g_bipush C (v := nI 32) dL_law_796 (by decide) ?_
                refine g_icmp_ge C (tgt := 818) dL_law_798 (by decide) (fun c798 => ?_) (fun c798 => ?_)
                · -- 818
                  have c798 : 32 ≤ mk := (nI_leI (by omega) (by omega)).mp c798
                  exact absurd c798 (by omega)
                · -- 801
                  have c798 : mk < 32 := Nat.lt_of_not_le (fun z => c798 ((nI_leI (by omega) (by omega)).mpr z))
                  refine g_iload C 1 rfl dL_law_801 ?_
                  refine g_aload_n C 6 rfl dL_law_803 ?_
                  refine g_iload C 0 rfl dL_law_804 ?_
                  refine g_calli C (r_V C (st := [.int (s_sum (fun m => s_with F T (nI m) cnt) mk)]) (c_X4_like l V (by omega) hc h mk (by omega)) (cwV 1 C.ts gL_law_X4_like rfl rfl rfl (by decide +kernel) ⟨(Nat.le_of_ble_eq_true rfl), (Nat.le_of_ble_eq_true rfl)⟩) (by omega) h.1 rfl rfl rfl (Nat.le_of_ble_eq_true rfl) dL_law_806 ⟨(by show _ ≤ 600130; omega), (by show _ ≤ 7301080; omega)⟩) (fun r u hu => ?_)
                  subst hu
                  refine g_iadd C (v := (s_sum (fun m => s_with F T (nI m) cnt) mk) + (s_with F T (nI mk) cnt)) dL_law_809 rfl ?_
                  refine g_istore C (lv' := [(19, .int ((s_sum (fun m => s_with F T (nI m) cnt) mk) + (s_with F T (nI mk) cnt))), (20, .int (nI mk)), (17, .int (s_sum (fun q => s_left (T q)) cnt)), (18, .int (s_sum (fun q => s_leftWith (F q) (T q) 0) cnt)), (3, .int (nI t)), (2, .ref (ad 85)), (1, .ref (ad 0)), (0, .ref (g_b V)), (6, .int wv), (7, .ref (ad 97))]) dL_law_810 (by decide) rfl ?_
                  refine g_iinc C 1 rfl (v := nI (mk + 1)) (lv' := [(20, .int (nI (mk + 1))), (19, .int ((s_sum (fun m => s_with F T (nI m) cnt) mk) + (s_with F T (nI mk) cnt))), (17, .int (s_sum (fun q => s_left (T q)) cnt)), (18, .int (s_sum (fun q => s_leftWith (F q) (T q) 0) cnt)), (3, .int (nI t)), (2, .ref (ad 85)), (1, .ref (ad 0)), (0, .ref (g_b V)), (6, .int wv), (7, .ref (ad 97))]) dL_law_812 (nI_add _ _) (by decide) rfl ?_
                  refine g_goto C (tgt := 794) dL_law_815 (by decide) ?_
                  refine g_lv [0, 1, 2, 3, 4, 5, 6, 7, 8, 9] (lv' := [(20, .int (nI (mk + 1))), (19, .int ((s_sum (fun m => s_with F T (nI m) cnt) mk) + (s_with F T (nI mk) cnt))), (17, .int (s_sum (fun q => s_left (T q)) cnt)), (18, .int (s_sum (fun q => s_leftWith (F q) (T q) 0) cnt)), (3, .int (nI t)), (2, .ref (ad 85)), (1, .ref (ad 0)), (0, .ref (g_b V)), (6, .int wv), (7, .ref (ad 97))]) rfl ?_
                  refine g_lveq (lv' := [(20, .int (nI (mk + 1))), (19, .int (s_sum (fun m => s_with F T (nI m) cnt) (mk + 1))), (17, .int (s_sum (fun q => s_left (T q)) cnt)), (18, .int (s_sum (fun q => s_leftWith (F q) (T q) 0) cnt)), (3, .int (nI t)), (2, .ref (ad 85)), (1, .ref (ad 0)), (0, .ref (g_b V)), (6, .int wv), (7, .ref (ad 97))]) (rfl) ?_
                  exact mh
            · -- to 788
              rcases hwv with rfl | ⟨q, hq, rfl, hwq⟩
              · -- none
                refine g_iconst C (v := nI 0) dL_law_699 (by decide) ?_
                refine g_istore C (lv' := [(19, .int (nI 0)), (16, .int (s_sum (fun q => s_worths (F q) (T q)) cnt)), (17, .int (s_sum (fun q => s_left (T q)) cnt)), (18, .int (s_sum (fun q => s_leftWith (F q) (T q) 0) cnt)), (5, .int (nI cnt)), (3, .int (nI t)), (2, .ref (ad 85)), (1, .ref (ad 0)), (0, .ref (g_b V)), (6, .int ((-1))), (7, .ref (ad 97))]) dL_law_700 (by decide) rfl ?_
                refine g_iload C 0 rfl dL_law_702 ?_
                refine g_iconst C (v := nI 5) dL_law_704 (by decide) ?_
                refine g_icmp_ge C (tgt := 788) dL_law_705 (by decide) (fun c705 => ?_) (fun c705 => ?_)
                · exact absurd c705 (by decide)
                refine g_iload C 9 rfl dL_law_708 ?_
                refine g_if_lt C (tgt := 788) dL_law_710 (by decide) (fun c710 => ?_) (fun c710 => ?_)
                · -- 788
                  refine g_lv [2, 3, 5, 6, 7, 8, 9, 10] (lv' := [(17, .int (s_sum (fun q => s_left (T q)) cnt)), (18, .int (s_sum (fun q => s_leftWith (F q) (T q) 0) cnt)), (3, .int (nI t)), (2, .ref (ad 85)), (1, .ref (ad 0)), (0, .ref (g_b V)), (6, .int ((-1))), (7, .ref (ad 97))]) rfl ?_
                  exact J788 () trivial
                · -- 713
                  exact absurd (by decide) c710
              · -- q
                refine g_iconst C (v := nI 0) dL_law_699 (by decide) ?_
                refine g_istore C (lv' := [(19, .int (nI 0)), (16, .int (s_sum (fun q => s_worths (F q) (T q)) cnt)), (17, .int (s_sum (fun q => s_left (T q)) cnt)), (18, .int (s_sum (fun q => s_leftWith (F q) (T q) 0) cnt)), (5, .int (nI cnt)), (3, .int (nI t)), (2, .ref (ad 85)), (1, .ref (ad 0)), (0, .ref (g_b V)), (6, .int (nI q)), (7, .ref (ad 97))]) dL_law_700 (by decide) rfl ?_
                refine g_lv [0, 2, 3, 5, 6, 7, 8, 9, 10] (lv' := [(19, .int (nI 0)), (17, .int (s_sum (fun q => s_left (T q)) cnt)), (18, .int (s_sum (fun q => s_leftWith (F q) (T q) 0) cnt)), (3, .int (nI t)), (2, .ref (ad 85)), (1, .ref (ad 0)), (0, .ref (g_b V)), (6, .int (nI q)), (7, .ref (ad 97))]) rfl ?_
                refine g_for 5 (fun (i : Nat) => [(19, .int (nI i)), (17, .int (s_sum (fun q => s_left (T q)) cnt)), (18, .int (s_sum (fun q => s_leftWith (F q) (T q) 0) cnt)), (3, .int (nI t)), (2, .ref (ad 85)), (1, .ref (ad 0)), (0, .ref (g_b V)), (6, .int (nI q)), (7, .ref (ad 97))]) ?_ (fun i hi ih => ?_)
                · -- loop 702: its end
                  refine g_iload C 0 rfl dL_law_702 ?_
                  refine g_iconst C (v := nI 5) dL_law_704 (by decide) ?_
                  refine g_icmp_ge C (tgt := 788) dL_law_705 (by decide) (fun c705 => ?_) (fun c705 => ?_)
                  rotate_left
                  · exact absurd c705 (by decide)
                  refine g_lv [1, 2, 3, 4, 5, 6, 7, 8] (lv' := [(17, .int (s_sum (fun q => s_left (T q)) cnt)), (18, .int (s_sum (fun q => s_leftWith (F q) (T q) 0) cnt)), (3, .int (nI t)), (2, .ref (ad 85)), (1, .ref (ad 0)), (0, .ref (g_b V)), (6, .int (nI q)), (7, .ref (ad 97))]) rfl ?_
                  exact J788 () trivial
                · -- loop 702: its body
                  refine g_iload C 0 rfl dL_law_702 ?_
                  refine g_iconst C (v := nI 5) dL_law_704 (by decide) ?_
                  refine g_icmp_ge C (tgt := 788) dL_law_705 (by decide) (fun c705 => ?_) (fun c705 => ?_)
                  · -- 788
                    have c705 : 5 ≤ i := (nI_leI (by omega) (by omega)).mp c705
                    exact absurd c705 (by omega)
                  · -- 708
                    have c705 : i < 5 := Nat.lt_of_not_le (fun z => c705 ((nI_leI (by omega) (by omega)).mpr z))
                    refine g_iload C 7 rfl dL_law_708 ?_
                    refine g_if_lt C (tgt := 788) dL_law_710 (by decide) (fun c710 => ?_) (fun c710 => ?_)
                    · -- 788
                      exact absurd c710 (nI_pos (by omega))
                    · -- 713
                      refine g_iconst C (v := nI 0) dL_law_713 (by decide) ?_
                      refine g_istore C (lv' := [(20, .int (nI 0)), (19, .int (nI i)), (17, .int (s_sum (fun q => s_left (T q)) cnt)), (18, .int (s_sum (fun q => s_leftWith (F q) (T q) 0) cnt)), (3, .int (nI t)), (2, .ref (ad 85)), (1, .ref (ad 0)), (0, .ref (g_b V)), (6, .int (nI q)), (7, .ref (ad 97))]) dL_law_714 (by decide) rfl ?_
                      refine g_lv [0, 1, 2, 3, 4, 5, 6, 7, 8, 9] (lv' := [(20, .int (nI 0)), (19, .int (nI i)), (17, .int (s_sum (fun q => s_left (T q)) cnt)), (18, .int (s_sum (fun q => s_leftWith (F q) (T q) 0) cnt)), (3, .int (nI t)), (2, .ref (ad 85)), (1, .ref (ad 0)), (0, .ref (g_b V)), (6, .int (nI q)), (7, .ref (ad 97))]) rfl ?_
                      refine g_for 5 (fun (j : Nat) => [(20, .int (nI j)), (19, .int (nI i)), (17, .int (s_sum (fun q => s_left (T q)) cnt)), (18, .int (s_sum (fun q => s_leftWith (F q) (T q) 0) cnt)), (3, .int (nI t)), (2, .ref (ad 85)), (1, .ref (ad 0)), (0, .ref (g_b V)), (6, .int (nI q)), (7, .ref (ad 97))]) ?_ (fun j hj jh => ?_)
                      · -- loop 716: its end
                        refine g_iload C 0 rfl dL_law_716 ?_
                        refine g_iconst C (v := nI 5) dL_law_718 (by decide) ?_
                        refine g_icmp_ge C (tgt := 782) dL_law_719 (by decide) (fun c719 => ?_) (fun c719 => ?_)
                        rotate_left
                        · exact absurd c719 (by decide)
                        refine g_iinc C 1 rfl (v := nI (i + 1)) (lv' := [(19, .int (nI (i + 1))), (20, .int (nI 5)), (17, .int (s_sum (fun q => s_left (T q)) cnt)), (18, .int (s_sum (fun q => s_leftWith (F q) (T q) 0) cnt)), (3, .int (nI t)), (2, .ref (ad 85)), (1, .ref (ad 0)), (0, .ref (g_b V)), (6, .int (nI q)), (7, .ref (ad 97))]) dL_law_782 (nI_add _ _) (by decide) rfl ?_
                        refine g_goto C (tgt := 702) dL_law_785 (by decide) ?_
                        refine g_lv [0, 2, 3, 4, 5, 6, 7, 8, 9] (lv' := [(19, .int (nI (i + 1))), (17, .int (s_sum (fun q => s_left (T q)) cnt)), (18, .int (s_sum (fun q => s_leftWith (F q) (T q) 0) cnt)), (3, .int (nI t)), (2, .ref (ad 85)), (1, .ref (ad 0)), (0, .ref (g_b V)), (6, .int (nI q)), (7, .ref (ad 97))]) rfl ?_
                        exact ih
                      · -- loop 716: its body
                        refine g_iload C 0 rfl dL_law_716 ?_
                        refine g_iconst C (v := nI 5) dL_law_718 (by decide) ?_
                        refine g_icmp_ge C (tgt := 782) dL_law_719 (by decide) (fun c719 => ?_) (fun c719 => ?_)
                        · -- 782
                          have c719 : 5 ≤ j := (nI_leI (by omega) (by omega)).mp c719
                          exact absurd c719 (by omega)
                        · -- 722
                          have c719 : j < 5 := Nat.lt_of_not_le (fun z => c719 ((nI_leI (by omega) (by omega)).mpr z))
                          have hR := hP.2.2.2.2 q hq i hi j hj
                          refine g_aload_n C 6 rfl dL_law_722 ?_
                          refine g_iload C 8 rfl dL_law_723 ?_
                          refine g_iload C 1 rfl dL_law_725 ?_
                          refine g_iload C 0 rfl dL_law_727 ?_
                          refine g_calli C (r_V C (st := []) (c_X4_faults l V (by omega) hc h q (by omega) i (by omega) j (by omega)) (cwV 3 C.ts gL_law_X4_faults rfl rfl rfl (by decide +kernel) ⟨(Nat.le_of_ble_eq_true rfl), (Nat.le_of_ble_eq_true rfl)⟩) (by omega) h.1 rfl rfl rfl (Nat.le_of_ble_eq_true rfl) dL_law_729 ⟨(by show _ ≤ 600130; omega), (by show _ ≤ 7301080; omega)⟩) (fun r u hu => ?_)
                          subst hu
                          refine g_istore C (lv' := [(21, .int (F q (6 * i + j))), (20, .int (nI j)), (19, .int (nI i)), (17, .int (s_sum (fun q => s_left (T q)) cnt)), (18, .int (s_sum (fun q => s_leftWith (F q) (T q) 0) cnt)), (3, .int (nI t)), (2, .ref (ad 85)), (1, .ref (ad 0)), (0, .ref (g_b V)), (6, .int (nI q)), (7, .ref (ad 97))]) dL_law_732 (by decide) rfl ?_
                          refine g_aload_n C 7 rfl dL_law_734 ?_
                          refine g_iload C 9 rfl dL_law_735 ?_
                          refine g_iload C 2 rfl dL_law_737 ?_
                          refine g_iload C 1 rfl dL_law_739 ?_
                          refine g_iconst C (v := nI 1) dL_law_741 (by decide) ?_
                          refine g_iadd C (v := nI (j + 1)) dL_law_742 (nI_add _ _) ?_
                          refine g_calli C (r_V C (st := []) (c_X4_faults l V (by omega) hc h q (by omega) i (by omega) (j + 1) (by omega)) (cwV 3 C.ts gL_law_X4_faults rfl rfl rfl (by decide +kernel) ⟨(Nat.le_of_ble_eq_true rfl), (Nat.le_of_ble_eq_true rfl)⟩) (by omega) h.1 rfl rfl rfl (Nat.le_of_ble_eq_true rfl) dL_law_743 ⟨(by show _ ≤ 600130; omega), (by show _ ≤ 7301080; omega)⟩) (fun r u hu => ?_)
                          subst hu
                          refine g_istore C (lv' := [(22, .int (F q (6 * i + (j + 1)))), (21, .int (F q (6 * i + j))), (20, .int (nI j)), (19, .int (nI i)), (17, .int (s_sum (fun q => s_left (T q)) cnt)), (18, .int (s_sum (fun q => s_leftWith (F q) (T q) 0) cnt)), (3, .int (nI t)), (2, .ref (ad 85)), (1, .ref (ad 0)), (0, .ref (g_b V)), (6, .int (nI q)), (7, .ref (ad 97))]) dL_law_746 (by decide) rfl ?_
                          refine g_iload C 1 rfl dL_law_748 ?_
                          refine g_iconst C (v := nI 2) dL_law_750 (by decide) ?_
                          refine g_irem C (v := (F q (6 * i + j)) - (F q (6 * i + j)) / 2 * 2) dL_law_751 (by decide) rfl ?_
                          refine g_iload C 0 rfl dL_law_752 ?_
                          refine g_iconst C (v := nI 2) dL_law_754 (by decide) ?_
                          refine g_irem C (v := (F q (6 * i + (j + 1))) - (F q (6 * i + (j + 1))) / 2 * 2) dL_law_755 (by decide) rfl ?_
                          refine g_icmp_ne C (tgt := 774) dL_law_756 (by decide) (fun c756 => ?_) (fun c756 => ?_)
                          · -- 774
                            exact absurd hR.1 c756
                          · -- 759
                            refine g_iload C 1 rfl dL_law_759 ?_
                            refine g_iconst C (v := nI 4) dL_law_761 (by decide) ?_
                            refine g_idiv C (v := (F q (6 * i + j)) / 4) dL_law_762 (by decide) rfl ?_
                            refine g_iconst C (v := nI 2) dL_law_763 (by decide) ?_
                            refine g_irem C (v := ((F q (6 * i + j)) / 4) - ((F q (6 * i + j)) / 4) / 2 * 2) dL_law_764 (by decide) rfl ?_
                            refine g_iload C 0 rfl dL_law_765 ?_
                            refine g_iconst C (v := nI 2) dL_law_767 (by decide) ?_
                            refine g_idiv C (v := (F q (6 * i + (j + 1))) / 2) dL_law_768 (by decide) rfl ?_
                            refine g_iconst C (v := nI 2) dL_law_769 (by decide) ?_
                            refine g_irem C (v := ((F q (6 * i + (j + 1))) / 2) - ((F q (6 * i + (j + 1))) / 2) / 2 * 2) dL_law_770 (by decide) rfl ?_
                            refine g_icmp_eq C (tgt := 776) dL_law_771 (by decide) (fun c771 => ?_) (fun c771 => ?_)
                            · -- 776
                              refine g_iinc C 2 rfl (v := nI (j + 1)) (lv' := [(20, .int (nI (j + 1))), (22, .int (F q (6 * i + (j + 1)))), (21, .int (F q (6 * i + j))), (19, .int (nI i)), (17, .int (s_sum (fun q => s_left (T q)) cnt)), (18, .int (s_sum (fun q => s_leftWith (F q) (T q) 0) cnt)), (3, .int (nI t)), (2, .ref (ad 85)), (1, .ref (ad 0)), (0, .ref (g_b V)), (6, .int (nI q)), (7, .ref (ad 97))]) dL_law_776 (nI_add _ _) (by decide) rfl ?_
                              refine g_goto C (tgt := 716) dL_law_779 (by decide) ?_
                              refine g_lv [0, 3, 4, 5, 6, 7, 8, 9, 10, 11] (lv' := [(20, .int (nI (j + 1))), (19, .int (nI i)), (17, .int (s_sum (fun q => s_left (T q)) cnt)), (18, .int (s_sum (fun q => s_leftWith (F q) (T q) 0) cnt)), (3, .int (nI t)), (2, .ref (ad 85)), (1, .ref (ad 0)), (0, .ref (g_b V)), (6, .int (nI q)), (7, .ref (ad 97))]) rfl ?_
                              exact jh
                            · -- 774
                              exact absurd hR.2 c771
          · -- to 699
            refine g_aload_n C 7 rfl dL_law_670 ?_
            refine g_calld C (r_V C (st := []) (c_X4_share l V (by omega) hc h) (cwV 0 C.ts gL_law_X4_share rfl rfl rfl (by decide +kernel) ⟨(Nat.le_of_ble_eq_true rfl), (Nat.le_of_ble_eq_true rfl)⟩) (by omega) h.1 rfl rfl rfl (Nat.le_of_ble_eq_true rfl) dL_law_671 ⟨(by show _ ≤ 600130; omega), (by show _ ≤ 7301080; omega)⟩) (fun r u hu => ?_)
            subst hu
            refine g_iload C 4 rfl dL_law_674 ?_
            refine g_if_ne C (tgt := 683) dL_law_676 (by decide) (fun c676 => ?_) (fun c676 => ?_)
            · have hpos : 0 < cnt := by
                rcases Nat.eq_zero_or_pos cnt with e | e
                · subst e; exact absurd rfl c676
                · exact e
              refine g_iload C 3 rfl dL_law_683 ?_
              refine g_i2d C dL_law_685 ?_
              refine g_bipush C (v := nI 30) dL_law_686 (by decide) ?_
              refine g_iload C 4 rfl dL_law_688 ?_
              refine g_imul C (v := nI (30 * cnt)) dL_law_690 (pk_mul _ _) ?_
              refine g_i2d C dL_law_691 ?_
              refine g_ddiv C dL_law_692 (s_share_n64 (F := F) (T := T) hc hpos) ?_
              refine g_dcmp C dL_law_693 ?_
              refine g_top ((by rw [share_pos hpos]; exact dcmp_refl (s_share_n64 hc hpos)) : Op.cmpValue (FP.dcmp (s_share F T cnt) (FP.ddiv (FP.i2d (s_with F T 0 cnt)) (FP.i2d (nI (30 * cnt))))) .l = nI 0) ?_
              refine g_if_eq C (tgt := 699) dL_law_694 (by decide) (fun c694 => ?_) (fun c694 => ?_)
              rotate_left
              · exact absurd c694 (by decide)
              refine g_lv [0, 1, 2, 3, 4, 5, 6, 7, 8, 9, 10] (lv' := [(19, .int (nI cnt)), (16, .int (s_sum (fun q => s_worths (F q) (T q)) cnt)), (17, .int (s_sum (fun q => s_left (T q)) cnt)), (18, .int (s_sum (fun q => s_leftWith (F q) (T q) 0) cnt)), (5, .int (nI cnt)), (3, .int (nI t)), (2, .ref (ad 85)), (1, .ref (ad 0)), (0, .ref (g_b V)), (6, .int wv), (7, .ref (ad 97))]) rfl ?_
              exact J699 () trivial
            · have hz : cnt = 0 := by
                rcases Nat.eq_zero_or_pos cnt with e | e
                · exact e
                · exact absurd c676 (nI_ne0 (by omega) (by omega))
              refine g_dconst0 C dL_law_679 ?_
              refine g_goto C (tgt := 693) dL_law_680 (by decide) ?_
              refine g_dcmp C dL_law_693 ?_
              refine g_top ((by rw [share_0 hz]; exact dcmp_refl dc0_n64) : Op.cmpValue (FP.dcmp (s_share F T cnt) (FP.dconst0)) .l = nI 0) ?_
              refine g_if_eq C (tgt := 699) dL_law_694 (by decide) (fun c694 => ?_) (fun c694 => ?_)
              rotate_left
              · exact absurd c694 (by decide)
              refine g_lv [0, 1, 2, 3, 4, 5, 6, 7, 8, 9, 10] (lv' := [(19, .int (nI cnt)), (16, .int (s_sum (fun q => s_worths (F q) (T q)) cnt)), (17, .int (s_sum (fun q => s_left (T q)) cnt)), (18, .int (s_sum (fun q => s_leftWith (F q) (T q) 0) cnt)), (5, .int (nI cnt)), (3, .int (nI t)), (2, .ref (ad 85)), (1, .ref (ad 0)), (0, .ref (g_b V)), (6, .int wv), (7, .ref (ad 97))]) rfl ?_
              exact J699 () trivial
      · -- 488
        have c485 : cnt < cnt := Nat.lt_of_not_le (fun z => c485 ((nI_leI (by omega) (by omega)).mpr z))
        exact absurd c485 (by omega)
    · -- loop 481: its body
      refine g_iload C 0 rfl dL_law_481 ?_
      refine g_iload C 4 rfl dL_law_483 ?_
      refine g_icmp_ge C (tgt := 659) dL_law_485 (by decide) (fun c485 => ?_) (fun c485 => ?_)
      · -- 659
        have c485 : cnt ≤ k := (nI_leI (by omega) (by omega)).mp c485
        exact absurd c485 (by omega)
      · -- 488
        have c485 : k < cnt := Nat.lt_of_not_le (fun z => c485 ((nI_leI (by omega) (by omega)).mpr z))
        refine g_iload C 1 rfl dL_law_488 ?_
        refine g_aload_n C 7 rfl dL_law_490 ?_
        refine g_iload C 0 rfl dL_law_491 ?_
        refine g_iconst C (v := nI 2) dL_law_493 (by decide) ?_
        refine g_calli C (r_V C (st := [.int (s_sum (fun q => s_worths (F q) (T q)) k)]) (c_X4_sheet l V (by omega) hc h k (by omega) 2 (by omega)) (cwV 2 C.ts gL_law_X4_sheet rfl rfl rfl (by decide +kernel) ⟨(Nat.le_of_ble_eq_true rfl), (Nat.le_of_ble_eq_true rfl)⟩) (by omega) h.1 rfl rfl rfl (Nat.le_of_ble_eq_true rfl) dL_law_494 ⟨(by show _ ≤ 600130; omega), (by show _ ≤ 7301080; omega)⟩) (fun r u hu => ?_)
        subst hu
        refine g_top (sheet_2 (F k) (T k) : s_sheet (F k) (T k) (nI 2) = s_worths (F k) (T k)) ?_
        refine g_iadd C (v := (s_sum (fun q => s_worths (F q) (T q)) k) + (s_worths (F k) (T k))) dL_law_497 rfl ?_
        refine g_istore C (lv' := [(16, .int ((s_sum (fun q => s_worths (F q) (T q)) k) + (s_worths (F k) (T k)))), (19, .int (nI k)), (17, .int (s_sum (fun q => s_left (T q)) k)), (18, .int (s_sum (fun q => s_leftWith (F q) (T q) 0) k)), (5, .int (nI cnt)), (3, .int (nI t)), (2, .ref (ad 85)), (1, .ref (ad 0)), (0, .ref (g_b V)), (6, .int wv), (7, .ref (ad 97))]) dL_law_498 (by decide) rfl ?_
        refine g_iload C 2 rfl dL_law_500 ?_
        refine g_aload_n C 7 rfl dL_law_502 ?_
        refine g_iload C 1 rfl dL_law_503 ?_
        refine g_iconst C (v := nI 0) dL_law_505 (by decide) ?_
        refine g_calli C (r_V C (st := [.int (s_sum (fun q => s_left (T q)) k)]) (c_X4_sheet l V (by omega) hc h k (by omega) 0 (by omega)) (cwV 2 C.ts gL_law_X4_sheet rfl rfl rfl (by decide +kernel) ⟨(Nat.le_of_ble_eq_true rfl), (Nat.le_of_ble_eq_true rfl)⟩) (by omega) h.1 rfl rfl rfl (Nat.le_of_ble_eq_true rfl) dL_law_506 ⟨(by show _ ≤ 600130; omega), (by show _ ≤ 7301080; omega)⟩) (fun r u hu => ?_)
        subst hu
        refine g_top (sheet_0 (F k) (T k) : s_sheet (F k) (T k) (nI 0) = s_left (T k)) ?_
        refine g_iadd C (v := (s_sum (fun q => s_left (T q)) k) + (s_left (T k))) dL_law_509 rfl ?_
        refine g_istore C (lv' := [(17, .int ((s_sum (fun q => s_left (T q)) k) + (s_left (T k)))), (16, .int ((s_sum (fun q => s_worths (F q) (T q)) k) + (s_worths (F k) (T k)))), (19, .int (nI k)), (18, .int (s_sum (fun q => s_leftWith (F q) (T q) 0) k)), (5, .int (nI cnt)), (3, .int (nI t)), (2, .ref (ad 85)), (1, .ref (ad 0)), (0, .ref (g_b V)), (6, .int wv), (7, .ref (ad 97))]) dL_law_510 (by decide) rfl ?_
        refine g_iload C 3 rfl dL_law_512 ?_
        refine g_aload_n C 7 rfl dL_law_514 ?_
        refine g_iload C 2 rfl dL_law_515 ?_
        refine g_iconst C (v := nI 1) dL_law_517 (by decide) ?_
        refine g_calli C (r_V C (st := [.int (s_sum (fun q => s_leftWith (F q) (T q) 0) k)]) (c_X4_sheet l V (by omega) hc h k (by omega) 1 (by omega)) (cwV 2 C.ts gL_law_X4_sheet rfl rfl rfl (by decide +kernel) ⟨(Nat.le_of_ble_eq_true rfl), (Nat.le_of_ble_eq_true rfl)⟩) (by omega) h.1 rfl rfl rfl (Nat.le_of_ble_eq_true rfl) dL_law_518 ⟨(by show _ ≤ 600130; omega), (by show _ ≤ 7301080; omega)⟩) (fun r u hu => ?_)
        subst hu
        refine g_top (sheet_1 (F k) (T k) : s_sheet (F k) (T k) (nI 1) = s_leftWith (F k) (T k) 0) ?_
        refine g_iadd C (v := (s_sum (fun q => s_leftWith (F q) (T q) 0) k) + (s_leftWith (F k) (T k) 0)) dL_law_521 rfl ?_
        refine g_istore C (lv' := [(18, .int ((s_sum (fun q => s_leftWith (F q) (T q) 0) k) + (s_leftWith (F k) (T k) 0))), (17, .int ((s_sum (fun q => s_left (T q)) k) + (s_left (T k)))), (16, .int ((s_sum (fun q => s_worths (F q) (T q)) k) + (s_worths (F k) (T k)))), (19, .int (nI k)), (5, .int (nI cnt)), (3, .int (nI t)), (2, .ref (ad 85)), (1, .ref (ad 0)), (0, .ref (g_b V)), (6, .int wv), (7, .ref (ad 97))]) dL_law_522 (by decide) rfl ?_
        obtain ⟨d9, k9, w9, p9, o9, b9, e0, e1, e2, e3, e4, e5, f1, f2, f3, f4, f5, f6, f7, f8⟩ := sheet_facts (T k) (hP.2.1 k hk)
        refine g_aload_n C 7 rfl dL_law_524 ?_
        refine g_iload C 3 rfl dL_law_525 ?_
        refine g_iconst C (v := nI 1) dL_law_527 (by decide) ?_
        refine g_calli C (r_V C (st := []) (c_X4_sheet l V (by omega) hc h k (by omega) 1 (by omega)) (cwV 2 C.ts gL_law_X4_sheet rfl rfl rfl (by decide +kernel) ⟨(Nat.le_of_ble_eq_true rfl), (Nat.le_of_ble_eq_true rfl)⟩) (by omega) h.1 rfl rfl rfl (Nat.le_of_ble_eq_true rfl) dL_law_528 ⟨(by show _ ≤ 600130; omega), (by show _ ≤ 7301080; omega)⟩) (fun r u hu => ?_)
        subst hu
        refine g_top (e1 : s_sheet (F k) (T k) (nI 1) = nI k9) ?_
        refine g_aload_n C 7 rfl dL_law_531 ?_
        refine g_iload C 3 rfl dL_law_532 ?_
        refine g_iconst C (v := nI 0) dL_law_534 (by decide) ?_
        refine g_calli C (r_V C (st := [.int (nI k9)]) (c_X4_sheet l V (by omega) hc h k (by omega) 0 (by omega)) (cwV 2 C.ts gL_law_X4_sheet rfl rfl rfl (by decide +kernel) ⟨(Nat.le_of_ble_eq_true rfl), (Nat.le_of_ble_eq_true rfl)⟩) (by omega) h.1 rfl rfl rfl (Nat.le_of_ble_eq_true rfl) dL_law_535 ⟨(by show _ ≤ 600130; omega), (by show _ ≤ 7301080; omega)⟩) (fun r u hu => ?_)
        subst hu
        refine g_top (e0 : s_sheet (F k) (T k) (nI 0) = nI d9) ?_
        refine g_icmp_gt C (tgt := 651) dL_law_538 (by decide) (fun c538 => ?_) (fun c538 => ?_)
        · -- 651
          have c538 : d9 < k9 := (nI_ltI (by omega) (by omega)).mp c538
          exact absurd c538 (by omega)
        · -- 541
          have c538 : k9 ≤ d9 := Nat.le_of_not_lt (fun z => c538 ((nI_ltI (by omega) (by omega)).mpr z))
          refine g_aload_n C 7 rfl dL_law_541 ?_
          refine g_iload C 3 rfl dL_law_542 ?_
          refine g_iconst C (v := nI 5) dL_law_544 (by decide) ?_
          refine g_calli C (r_V C (st := []) (c_X4_sheet l V (by omega) hc h k (by omega) 5 (by omega)) (cwV 2 C.ts gL_law_X4_sheet rfl rfl rfl (by decide +kernel) ⟨(Nat.le_of_ble_eq_true rfl), (Nat.le_of_ble_eq_true rfl)⟩) (by omega) h.1 rfl rfl rfl (Nat.le_of_ble_eq_true rfl) dL_law_545 ⟨(by show _ ≤ 600130; omega), (by show _ ≤ 7301080; omega)⟩) (fun r u hu => ?_)
          subst hu
          refine g_top (e5 : s_sheet (F k) (T k) (nI 5) = nI b9) ?_
          refine g_aload_n C 7 rfl dL_law_548 ?_
          refine g_iload C 3 rfl dL_law_549 ?_
          refine g_iconst C (v := nI 1) dL_law_551 (by decide) ?_
          refine g_calli C (r_V C (st := [.int (nI b9)]) (c_X4_sheet l V (by omega) hc h k (by omega) 1 (by omega)) (cwV 2 C.ts gL_law_X4_sheet rfl rfl rfl (by decide +kernel) ⟨(Nat.le_of_ble_eq_true rfl), (Nat.le_of_ble_eq_true rfl)⟩) (by omega) h.1 rfl rfl rfl (Nat.le_of_ble_eq_true rfl) dL_law_552 ⟨(by show _ ≤ 600130; omega), (by show _ ≤ 7301080; omega)⟩) (fun r u hu => ?_)
          subst hu
          refine g_top (e1 : s_sheet (F k) (T k) (nI 1) = nI k9) ?_
          refine g_icmp_gt C (tgt := 651) dL_law_555 (by decide) (fun c555 => ?_) (fun c555 => ?_)
          · -- 651
            have c555 : k9 < b9 := (nI_ltI (by omega) (by omega)).mp c555
            exact absurd c555 (by omega)
          · -- 558
            have c555 : b9 ≤ k9 := Nat.le_of_not_lt (fun z => c555 ((nI_ltI (by omega) (by omega)).mpr z))
            refine g_via (fun _ : Unit => True) 591 (fun _ => [(18, .int ((s_sum (fun q => s_leftWith (F q) (T q) 0) k) + (s_leftWith (F k) (T k) 0))), (17, .int ((s_sum (fun q => s_left (T q)) k) + (s_left (T k)))), (16, .int ((s_sum (fun q => s_worths (F q) (T q)) k) + (s_worths (F k) (T k)))), (19, .int (nI k)), (5, .int (nI cnt)), (3, .int (nI t)), (2, .ref (ad 85)), (1, .ref (ad 0)), (0, .ref (g_b V)), (6, .int wv), (7, .ref (ad 97))]) (fun _ => []) (fun _ _ => ?_) (fun J591 => ?_)
            · -- from 591
              refine g_aload_n C 7 rfl dL_law_591 ?_
              refine g_iload C 3 rfl dL_law_592 ?_
              refine g_iconst C (v := nI 2) dL_law_594 (by decide) ?_
              refine g_calli C (r_V C (st := []) (c_X4_sheet l V (by omega) hc h k (by omega) 2 (by omega)) (cwV 2 C.ts gL_law_X4_sheet rfl rfl rfl (by decide +kernel) ⟨(Nat.le_of_ble_eq_true rfl), (Nat.le_of_ble_eq_true rfl)⟩) (by omega) h.1 rfl rfl rfl (Nat.le_of_ble_eq_true rfl) dL_law_595 ⟨(by show _ ≤ 600130; omega), (by show _ ≤ 7301080; omega)⟩) (fun r u hu => ?_)
              subst hu
              refine g_top (e2 : s_sheet (F k) (T k) (nI 2) = nI w9) ?_
              refine g_aload_n C 7 rfl dL_law_598 ?_
              refine g_iload C 3 rfl dL_law_599 ?_
              refine g_iconst C (v := nI 1) dL_law_601 (by decide) ?_
              refine g_calli C (r_V C (st := [.int (nI w9)]) (c_X4_sheet l V (by omega) hc h k (by omega) 1 (by omega)) (cwV 2 C.ts gL_law_X4_sheet rfl rfl rfl (by decide +kernel) ⟨(Nat.le_of_ble_eq_true rfl), (Nat.le_of_ble_eq_true rfl)⟩) (by omega) h.1 rfl rfl rfl (Nat.le_of_ble_eq_true rfl) dL_law_602 ⟨(by show _ ≤ 600130; omega), (by show _ ≤ 7301080; omega)⟩) (fun r u hu => ?_)
              subst hu
              refine g_top (e1 : s_sheet (F k) (T k) (nI 1) = nI k9) ?_
              refine g_icmp_lt C (tgt := 651) dL_law_605 (by decide) (fun c605 => ?_) (fun c605 => ?_)
              · -- 651
                have c605 : w9 < k9 := (nI_ltI (by omega) (by omega)).mp c605
                exact absurd c605 (by omega)
              · -- 608
                have c605 : k9 ≤ w9 := Nat.le_of_not_lt (fun z => c605 ((nI_ltI (by omega) (by omega)).mpr z))
                refine g_aload_n C 7 rfl dL_law_608 ?_
                refine g_iload C 3 rfl dL_law_609 ?_
                refine g_iconst C (v := nI 2) dL_law_611 (by decide) ?_
                refine g_calli C (r_V C (st := []) (c_X4_sheet l V (by omega) hc h k (by omega) 2 (by omega)) (cwV 2 C.ts gL_law_X4_sheet rfl rfl rfl (by decide +kernel) ⟨(Nat.le_of_ble_eq_true rfl), (Nat.le_of_ble_eq_true rfl)⟩) (by omega) h.1 rfl rfl rfl (Nat.le_of_ble_eq_true rfl) dL_law_612 ⟨(by show _ ≤ 600130; omega), (by show _ ≤ 7301080; omega)⟩) (fun r u hu => ?_)
                subst hu
                refine g_top (e2 : s_sheet (F k) (T k) (nI 2) = nI w9) ?_
                refine g_bipush C (v := nI 25) dL_law_615 (by decide) ?_
                refine g_aload_n C 7 rfl dL_law_617 ?_
                refine g_iload C 3 rfl dL_law_618 ?_
                refine g_iconst C (v := nI 0) dL_law_620 (by decide) ?_
                refine g_calli C (r_V C (st := [.int (nI 25), .int (nI w9)]) (c_X4_sheet l V (by omega) hc h k (by omega) 0 (by omega)) (cwV 2 C.ts gL_law_X4_sheet rfl rfl rfl (by decide +kernel) ⟨(Nat.le_of_ble_eq_true rfl), (Nat.le_of_ble_eq_true rfl)⟩) (by omega) h.1 rfl rfl rfl (Nat.le_of_ble_eq_true rfl) dL_law_621 ⟨(by show _ ≤ 600130; omega), (by show _ ≤ 7301080; omega)⟩) (fun r u hu => ?_)
                subst hu
                refine g_top (e0 : s_sheet (F k) (T k) (nI 0) = nI d9) ?_
                refine g_imul C (v := nI (25 * d9)) dL_law_624 (pk_mul _ _) ?_
                refine g_icmp_gt C (tgt := 651) dL_law_625 (by decide) (fun c625 => ?_) (fun c625 => ?_)
                · -- 651
                  have c625 : (25 * d9) < w9 := (nI_ltI (by omega) (by omega)).mp c625
                  exact absurd c625 (by omega)
                · -- 628
                  have c625 : w9 ≤ (25 * d9) := Nat.le_of_not_lt (fun z => c625 ((nI_ltI (by omega) (by omega)).mpr z))
                  refine g_aload_n C 7 rfl dL_law_628 ?_
                  refine g_iload C 3 rfl dL_law_629 ?_
                  refine g_iconst C (v := nI 3) dL_law_631 (by decide) ?_
                  refine g_calli C (r_V C (st := []) (c_X4_sheet l V (by omega) hc h k (by omega) 3 (by omega)) (cwV 2 C.ts gL_law_X4_sheet rfl rfl rfl (by decide +kernel) ⟨(Nat.le_of_ble_eq_true rfl), (Nat.le_of_ble_eq_true rfl)⟩) (by omega) h.1 rfl rfl rfl (Nat.le_of_ble_eq_true rfl) dL_law_632 ⟨(by show _ ≤ 600130; omega), (by show _ ≤ 7301080; omega)⟩) (fun r u hu => ?_)
                  subst hu
                  refine g_top (e3 : s_sheet (F k) (T k) (nI 3) = nI p9) ?_
                  refine g_bipush C (v := nI 25) dL_law_635 (by decide) ?_
                  refine g_icmp_gt C (tgt := 651) dL_law_637 (by decide) (fun c637 => ?_) (fun c637 => ?_)
                  · -- 651
                    have c637 : 25 < p9 := (nI_ltI (by omega) (by omega)).mp c637
                    exact absurd c637 (by omega)
                  · -- 640
                    have c637 : p9 ≤ 25 := Nat.le_of_not_lt (fun z => c637 ((nI_ltI (by omega) (by omega)).mpr z))
                    refine g_aload_n C 7 rfl dL_law_640 ?_
                    refine g_iload C 3 rfl dL_law_641 ?_
                    refine g_iconst C (v := nI 4) dL_law_643 (by decide) ?_
                    refine g_calli C (r_V C (st := []) (c_X4_sheet l V (by omega) hc h k (by omega) 4 (by omega)) (cwV 2 C.ts gL_law_X4_sheet rfl rfl rfl (by decide +kernel) ⟨(Nat.le_of_ble_eq_true rfl), (Nat.le_of_ble_eq_true rfl)⟩) (by omega) h.1 rfl rfl rfl (Nat.le_of_ble_eq_true rfl) dL_law_644 ⟨(by show _ ≤ 600130; omega), (by show _ ≤ 7301080; omega)⟩) (fun r u hu => ?_)
                    subst hu
                    refine g_top (e4 : s_sheet (F k) (T k) (nI 4) = nI o9) ?_
                    refine g_iconst C (v := nI 5) dL_law_647 (by decide) ?_
                    refine g_icmp_le C (tgt := 653) dL_law_648 (by decide) (fun c648 => ?_) (fun c648 => ?_)
                    · -- 653
                      have c648 : o9 ≤ 5 := (nI_leI (by omega) (by omega)).mp c648
                      refine g_iinc C 3 rfl (v := nI (k + 1)) (lv' := [(19, .int (nI (k + 1))), (18, .int ((s_sum (fun q => s_leftWith (F q) (T q) 0) k) + (s_leftWith (F k) (T k) 0))), (17, .int ((s_sum (fun q => s_left (T q)) k) + (s_left (T k)))), (16, .int ((s_sum (fun q => s_worths (F q) (T q)) k) + (s_worths (F k) (T k)))), (5, .int (nI cnt)), (3, .int (nI t)), (2, .ref (ad 85)), (1, .ref (ad 0)), (0, .ref (g_b V)), (6, .int wv), (7, .ref (ad 97))]) dL_law_653 (nI_add _ _) (by decide) rfl ?_
                      refine g_goto C (tgt := 481) dL_law_656 (by decide) ?_
                      refine g_lv [0, 3, 2, 1, 4, 5, 6, 7, 8, 9, 10] (lv' := [(19, .int (nI (k + 1))), (16, .int ((s_sum (fun q => s_worths (F q) (T q)) k) + (s_worths (F k) (T k)))), (17, .int ((s_sum (fun q => s_left (T q)) k) + (s_left (T k)))), (18, .int ((s_sum (fun q => s_leftWith (F q) (T q) 0) k) + (s_leftWith (F k) (T k) 0))), (5, .int (nI cnt)), (3, .int (nI t)), (2, .ref (ad 85)), (1, .ref (ad 0)), (0, .ref (g_b V)), (6, .int wv), (7, .ref (ad 97))]) rfl ?_
                      refine g_lveq (lv' := [(19, .int (nI (k + 1))), (16, .int (s_sum (fun q => s_worths (F q) (T q)) (k + 1))), (17, .int (s_sum (fun q => s_left (T q)) (k + 1))), (18, .int (s_sum (fun q => s_leftWith (F q) (T q) 0) (k + 1))), (5, .int (nI cnt)), (3, .int (nI t)), (2, .ref (ad 85)), (1, .ref (ad 0)), (0, .ref (g_b V)), (6, .int wv), (7, .ref (ad 97))]) (rfl) ?_
                      exact kh
                    · -- 651
                      have c648 : 5 < o9 := Nat.lt_of_not_le (fun z => c648 ((nI_leI (by omega) (by omega)).mpr z))
                      exact absurd c648 (by omega)
            · -- to 591
              rcases Nat.eq_zero_or_pos k9 with hz1 | hp1
              · have hz5 : b9 = 0 := by omega
                refine g_aload_n C 7 rfl dL_law_558 ?_
                refine g_iload C 3 rfl dL_law_559 ?_
                refine g_iconst C (v := nI 1) dL_law_561 (by decide) ?_
                refine g_calli C (r_V C (st := []) (c_X4_sheet l V (by omega) hc h k (by omega) 1 (by omega)) (cwV 2 C.ts gL_law_X4_sheet rfl rfl rfl (by decide +kernel) ⟨(Nat.le_of_ble_eq_true rfl), (Nat.le_of_ble_eq_true rfl)⟩) (by omega) h.1 rfl rfl rfl (Nat.le_of_ble_eq_true rfl) dL_law_562 ⟨(by show _ ≤ 600130; omega), (by show _ ≤ 7301080; omega)⟩) (fun r u hu => ?_)
                subst hu
                refine g_top (e1.trans (congrArg nI hz1) : s_sheet (F k) (T k) (nI 1) = nI 0) ?_
                refine g_if_le C (tgt := 572) dL_law_565 (by decide) (fun c565 => ?_) (fun c565 => ?_)
                rotate_left
                · exact absurd c565 (by decide)
                refine g_iconst C (v := nI 0) dL_law_572 (by decide) ?_
                refine g_aload_n C 7 rfl dL_law_573 ?_
                refine g_iload C 3 rfl dL_law_574 ?_
                refine g_iconst C (v := nI 5) dL_law_576 (by decide) ?_
                refine g_calli C (r_V C (st := [.int (nI 0)]) (c_X4_sheet l V (by omega) hc h k (by omega) 5 (by omega)) (cwV 2 C.ts gL_law_X4_sheet rfl rfl rfl (by decide +kernel) ⟨(Nat.le_of_ble_eq_true rfl), (Nat.le_of_ble_eq_true rfl)⟩) (by omega) h.1 rfl rfl rfl (Nat.le_of_ble_eq_true rfl) dL_law_577 ⟨(by show _ ≤ 600130; omega), (by show _ ≤ 7301080; omega)⟩) (fun r u hu => ?_)
                subst hu
                refine g_top (e5.trans (congrArg nI hz5) : s_sheet (F k) (T k) (nI 5) = nI 0) ?_
                refine g_if_le C (tgt := 587) dL_law_580 (by decide) (fun c580 => ?_) (fun c580 => ?_)
                rotate_left
                · exact absurd c580 (by decide)
                refine g_iconst C (v := nI 0) dL_law_587 (by decide) ?_
                refine g_icmp_ne C (tgt := 651) dL_law_588 (by decide) (fun c588 => ?_) (fun c588 => ?_)
                · exact absurd c588 (by decide)
                refine g_lv [0, 1, 2, 3, 4, 5, 6, 7, 8, 9, 10] (lv' := [(18, .int ((s_sum (fun q => s_leftWith (F q) (T q) 0) k) + (s_leftWith (F k) (T k) 0))), (17, .int ((s_sum (fun q => s_left (T q)) k) + (s_left (T k)))), (16, .int ((s_sum (fun q => s_worths (F q) (T q)) k) + (s_worths (F k) (T k)))), (19, .int (nI k)), (5, .int (nI cnt)), (3, .int (nI t)), (2, .ref (ad 85)), (1, .ref (ad 0)), (0, .ref (g_b V)), (6, .int wv), (7, .ref (ad 97))]) rfl ?_
                exact J591 () trivial
              · have hp5 : 0 < b9 := by omega
                refine g_aload_n C 7 rfl dL_law_558 ?_
                refine g_iload C 3 rfl dL_law_559 ?_
                refine g_iconst C (v := nI 1) dL_law_561 (by decide) ?_
                refine g_calli C (r_V C (st := []) (c_X4_sheet l V (by omega) hc h k (by omega) 1 (by omega)) (cwV 2 C.ts gL_law_X4_sheet rfl rfl rfl (by decide +kernel) ⟨(Nat.le_of_ble_eq_true rfl), (Nat.le_of_ble_eq_true rfl)⟩) (by omega) h.1 rfl rfl rfl (Nat.le_of_ble_eq_true rfl) dL_law_562 ⟨(by show _ ≤ 600130; omega), (by show _ ≤ 7301080; omega)⟩) (fun r u hu => ?_)
                subst hu
                refine g_top (e1 : s_sheet (F k) (T k) (nI 1) = nI k9) ?_
                refine g_if_le C (tgt := 572) dL_law_565 (by decide) (fun c565 => ?_) (fun c565 => ?_)
                · -- 572
                  exact absurd c565 (nI_nle hp1 (by omega))
                · -- 568
                  refine g_iconst C (v := nI 1) dL_law_568 (by decide) ?_
                  refine g_goto C (tgt := 573) dL_law_569 (by decide) ?_
                  refine g_aload_n C 7 rfl dL_law_573 ?_
                  refine g_iload C 3 rfl dL_law_574 ?_
                  refine g_iconst C (v := nI 5) dL_law_576 (by decide) ?_
                  refine g_calli C (r_V C (st := [.int (nI 1)]) (c_X4_sheet l V (by omega) hc h k (by omega) 5 (by omega)) (cwV 2 C.ts gL_law_X4_sheet rfl rfl rfl (by decide +kernel) ⟨(Nat.le_of_ble_eq_true rfl), (Nat.le_of_ble_eq_true rfl)⟩) (by omega) h.1 rfl rfl rfl (Nat.le_of_ble_eq_true rfl) dL_law_577 ⟨(by show _ ≤ 600130; omega), (by show _ ≤ 7301080; omega)⟩) (fun r u hu => ?_)
                  subst hu
                  refine g_top (e5 : s_sheet (F k) (T k) (nI 5) = nI b9) ?_
                  refine g_if_le C (tgt := 587) dL_law_580 (by decide) (fun c580 => ?_) (fun c580 => ?_)
                  · -- 587
                    exact absurd c580 (nI_nle hp5 (by omega))
                  · -- 583
                    refine g_iconst C (v := nI 1) dL_law_583 (by decide) ?_
                    refine g_goto C (tgt := 588) dL_law_584 (by decide) ?_
                    refine g_icmp_ne C (tgt := 651) dL_law_588 (by decide) (fun c588 => ?_) (fun c588 => ?_)
                    · exact absurd c588 (by decide)
                    refine g_lv [0, 1, 2, 3, 4, 5, 6, 7, 8, 9, 10] (lv' := [(18, .int ((s_sum (fun q => s_leftWith (F q) (T q) 0) k) + (s_leftWith (F k) (T k) 0))), (17, .int ((s_sum (fun q => s_left (T q)) k) + (s_left (T k)))), (16, .int ((s_sum (fun q => s_worths (F q) (T q)) k) + (s_worths (F k) (T k)))), (19, .int (nI k)), (5, .int (nI cnt)), (3, .int (nI t)), (2, .ref (ad 85)), (1, .ref (ad 0)), (0, .ref (g_b V)), (6, .int wv), (7, .ref (ad 97))]) rfl ?_
                    exact J591 () trivial
  · -- to 462
    rcases hwv with rfl | ⟨q, hq, rfl, hwq⟩
    · -- none
      refine g_iconst C (v := nI 0) dL_law_415 (by decide) ?_
      refine g_istore C (lv' := [(16, .int (nI 0)), (3, .int (nI t)), (2, .ref (ad 85)), (1, .ref (ad 0)), (0, .ref (g_b V)), (6, .int ((-1))), (7, .ref (ad 97))]) dL_law_416 (by decide) rfl ?_
      refine g_iload C 0 rfl dL_law_418 ?_
      refine g_bipush C (v := nI 30) dL_law_420 (by decide) ?_
      refine g_icmp_ge C (tgt := 462) dL_law_422 (by decide) (fun c422 => ?_) (fun c422 => ?_)
      · exact absurd c422 (by decide)
      refine g_iload C 5 rfl dL_law_425 ?_
      refine g_if_lt C (tgt := 462) dL_law_427 (by decide) (fun c427 => ?_) (fun c427 => ?_)
      · -- 462
        refine g_lv [1, 2, 3, 4, 5, 6] (lv' := [(3, .int (nI t)), (2, .ref (ad 85)), (1, .ref (ad 0)), (0, .ref (g_b V)), (6, .int ((-1))), (7, .ref (ad 97))]) rfl ?_
        exact J462 () trivial
      · -- 430
        exact absurd (by decide) c427
    · -- q
      refine g_iconst C (v := nI 0) dL_law_415 (by decide) ?_
      refine g_istore C (lv' := [(16, .int (nI 0)), (3, .int (nI t)), (2, .ref (ad 85)), (1, .ref (ad 0)), (0, .ref (g_b V)), (6, .int (nI q)), (7, .ref (ad 97))]) dL_law_416 (by decide) rfl ?_
      refine g_lv [0, 1, 2, 3, 4, 5, 6] (lv' := [(16, .int (nI 0)), (3, .int (nI t)), (2, .ref (ad 85)), (1, .ref (ad 0)), (0, .ref (g_b V)), (6, .int (nI q)), (7, .ref (ad 97))]) rfl ?_
      refine g_for 30 (fun (k : Nat) => [(16, .int (nI k)), (3, .int (nI t)), (2, .ref (ad 85)), (1, .ref (ad 0)), (0, .ref (g_b V)), (6, .int (nI q)), (7, .ref (ad 97))]) ?_ (fun k hk kh => ?_)
      · -- loop 418: its end
        refine g_iload C 0 rfl dL_law_418 ?_
        refine g_bipush C (v := nI 30) dL_law_420 (by decide) ?_
        refine g_icmp_ge C (tgt := 462) dL_law_422 (by decide) (fun c422 => ?_) (fun c422 => ?_)
        rotate_left
        · exact absurd c422 (by decide)
        refine g_lv [1, 2, 3, 4, 5, 6] (lv' := [(3, .int (nI t)), (2, .ref (ad 85)), (1, .ref (ad 0)), (0, .ref (g_b V)), (6, .int (nI q)), (7, .ref (ad 97))]) rfl ?_
        exact J462 () trivial
      · -- loop 418: its body
        refine g_iload C 0 rfl dL_law_418 ?_
        refine g_bipush C (v := nI 30) dL_law_420 (by decide) ?_
        refine g_icmp_ge C (tgt := 462) dL_law_422 (by decide) (fun c422 => ?_) (fun c422 => ?_)
        · -- 462
          have c422 : 30 ≤ k := (nI_leI (by omega) (by omega)).mp c422
          exact absurd c422 (by omega)
        · -- 425
          have c422 : k < 30 := Nat.lt_of_not_le (fun z => c422 ((nI_leI (by omega) (by omega)).mpr z))
          refine g_iload C 5 rfl dL_law_425 ?_
          refine g_if_lt C (tgt := 462) dL_law_427 (by decide) (fun c427 => ?_) (fun c427 => ?_)
          · -- 462
            exact absurd c427 (nI_pos (by omega))
          · -- 430
            refine g_aload_n C 3 rfl dL_law_430 ?_
            refine g_iload C 5 rfl dL_law_431 ?_
            refine g_iload C 0 rfl dL_law_433 ?_
            refine g_bipush C (v := nI 6) dL_law_435 (by decide) ?_
            refine g_idiv C (v := nI (k / 6)) dL_law_437 (by decide) (pk_div (by omega) (by omega) (by omega)) ?_
            refine g_iload C 0 rfl dL_law_438 ?_
            refine g_bipush C (v := nI 6) dL_law_440 (by decide) ?_
            refine g_irem C (v := nI (k % 6)) dL_law_442 (by decide) (pk_rem (by omega) (by omega) (by omega)) ?_
            refine g_calli C (r_V C (st := []) (c_X4_faults l V (by omega) hc h q (by omega) (k / 6) (by omega) (k % 6) (by omega)) (cwV 3 C.ts gL_law_X4_faults rfl rfl rfl (by decide +kernel) ⟨(Nat.le_of_ble_eq_true rfl), (Nat.le_of_ble_eq_true rfl)⟩) (by omega) h.1 rfl rfl rfl (Nat.le_of_ble_eq_true rfl) dL_law_443 ⟨(by show _ ≤ 600130; omega), (by show _ ≤ 7301080; omega)⟩) (fun r u hu => ?_)
            subst hu
            refine g_aload C 6 rfl dL_law_446 ?_
            refine g_iload C 0 rfl dL_law_448 ?_
            refine g_iald C 97 (by omega) hwas k rfl (by omega) (by decide) dL_law_450 ?_
            refine g_icmp_eq C (tgt := 456) dL_law_451 (by decide) (fun c451 => ?_) (fun c451 => ?_)
            · -- 456
              refine g_iinc C 0 rfl (v := nI (k + 1)) (lv' := [(16, .int (nI (k + 1))), (3, .int (nI t)), (2, .ref (ad 85)), (1, .ref (ad 0)), (0, .ref (g_b V)), (6, .int (nI q)), (7, .ref (ad 97))]) dL_law_456 (nI_add _ _) (by decide) rfl ?_
              refine g_goto C (tgt := 418) dL_law_459 (by decide) ?_
              refine g_lv [0, 1, 2, 3, 4, 5, 6] (lv' := [(16, .int (nI (k + 1))), (3, .int (nI t)), (2, .ref (ad 85)), (1, .ref (ad 0)), (0, .ref (g_b V)), (6, .int (nI q)), (7, .ref (ad 97))]) rfl ?_
              exact kh
            · -- 454
              exact absurd ((congrArg (F q) (show 6 * (k / 6) + k % 6 = k by omega)).trans (hwq k hk).symm) c451
