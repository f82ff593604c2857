/-! ===== the trial ===== -/
def TrAt (V : gT) (ad : Nat → Nat) (el : Nat → va_E) (k : Nat) (a b : Int32) (M St We f t : Nat → Int32) : Prop :=
  el k = .inr (3, [.ref (ad (k + 1)), .ref (ad (k + 10)), .int a, .int b]) ∧ MacAt V ad el (k + 1) M St We ∧ ShtAt V ad el (k + 10) f t
theorem TrAt.keep {V : gT} {ad : Nat → Nat} {el el' : Nat → va_E} {k : Nat} {a b : Int32} {M St We f t : Nat → Int32} (h : TrAt V ad el k a b M St We f t) (ho : ∀ j, k ≤ j → j < k + 13 → el' j = el j) : TrAt V ad el' k a b M St We f t :=
  ⟨(ho k (by omega) (by omega)).trans h.1, h.2.1.keep (fun j h1 h2 => ho j (by omega) (by omega)), h.2.2.keep (fun j h1 h2 => ho j (by omega) (by omega))⟩
theorem TrAt.adr {V : gT} {ad ad' : Nat → Nat} {el : Nat → va_E} {k : Nat} {a b : Int32} {M St We f t : Nat → Int32} (h : TrAt V ad el k a b M St We f t) (ho : ∀ j, k ≤ j → j < k + 13 → ad' j = ad j) : TrAt V ad' el k a b M St We f t :=
  ⟨by rw [h.1, ho _ (by omega) (by omega), ho _ (by omega) (by omega)], h.2.1.adr (fun j h1 h2 => ho j (by omega) (by omega)), h.2.2.adr (fun j h1 h2 => ho j (by omega) (by omega))⟩
theorem s_lw_congr {f g t : Nat → Int32} {x : Int32} (e : ∀ j, j < 30 → f j = g j) : s_leftWith f t x = s_leftWith g t x := s_sum_congr (fun j hj => by show s_lw (f j) _ _ = s_lw (g j) _ _; rw [e j hj])
theorem s_wo_congr {f g t : Nat → Int32} (e : ∀ j, j < 30 → f j = g j) : s_worths f t = s_worths g t := s_sum_congr (fun j hj => by show s_worth (f j) _ = s_worth (g j) _; rw [e j hj])

set_option maxHeartbeats 4000000 in
set_option maxRecDepth 100000 in
theorem c_X3_perforateFrom (l : Launch) (V : gT) {n : Nat} {ad : Nat → Nat} {el : Nat → va_E} {k k2 kp : Nat} {a0 b0 : Int32} {M0 St0 We0 M St We f t pl : Nat → Int32} (hk : k + 13 ≤ n) (hk2 : k2 + 9 ≤ n) (hd : k + 13 ≤ k2 ∨ k2 + 9 ≤ k) (h : TrAt V ad el k a0 b0 M0 St0 We0 f t) (h2 : MacAt V ad el k2 M St We) (hkp : kp < n) (hpl : el kp = .inl (V.2 1, 30, .inl pl)) (hd3 : kp < k ∨ k + 13 ≤ kp) (x : Int32) (N : Nat) (hN : N < 2 ^ 31) : TT l V yX3_perforateFrom wsX3_perforateFrom { frames := 4, cells := 0, slots := 0, locals := 92 } n ad el [.ref (ad k), .ref (ad k2), .int x, .ref (ad kp), .int (nI N)] (QVw V n ad (fun u => (∃ f1 : Nat → Int32, TrAt V ad u k (s_tC (upd M 0 x) St We pl t N) (s_tV (upd M 0 x) St We pl t N) (s_rM (upd M 0 x) N) St (s_rW St We N) f1 t) ∧ ∀ j, (j < k ∨ k + 13 ≤ j) → u j = el j)) 0 0 := by
  refine TT.body (cc := cX3_perforateFrom) (maxL := 6) (ret := none) (by decide) rfl (Nat.le_of_ble_eq_true rfl) ?_
  intro p e s m below meth c C hnm
  refine g_lv [0, 1, 2, 3, 4] (lv' := [(0, .ref (ad k)), (1, .ref (ad k2)), (2, .int x), (3, .ref (ad kp)), (4, .int (nI N))]) rfl ?_
  obtain ⟨ht, hm, hs⟩ := id h
  obtain ⟨hM1, ⟨g2, hA3, hg4⟩, hp5⟩ := id hm
  obtain ⟨hM6, ⟨g7, hA8, hg9⟩, hp10⟩ := id h2
  obtain ⟨hs11, ha12, hb13⟩ := id hs
  refine g_aload_n C 0 rfl dX3_perforateFrom_0 ?_
  refine g_getf C k (by omega) ht rfl 0 (by decide) (fun w h => (List.mem_cons_of_mem _ (List.mem_append_left _ (List.mem_append_left _ (List.mem_append_left _ (List.mem_append_right _ h)))))) (List.mem_of_getElem? (i := 1) rfl) rfl rfl dX3_perforateFrom_1 ?_
  refine g_aload_n C 1 rfl dX3_perforateFrom_4 ?_
  refine g_callv C (r_V C (st := []) (c_X0_becomeLike l V (k := k + 1) (k2 := k2) (M0 := M0) (St0 := St0) (We0 := We0) (M := M) (St := St) (We := We) (by omega) (by omega) (by omega) ⟨hM1, ⟨_, hA3, fun i hi => (hg4 i hi)⟩, hp5⟩ ⟨hM6, ⟨_, hA8, fun i hi => (hg9 i hi)⟩, hp10⟩) (cwV 1 C.ts gX3_perforateFrom_X0_becomeLike rfl rfl rfl (by decide +kernel) ⟨(Nat.le_of_ble_eq_true rfl), (Nat.le_of_ble_eq_true rfl)⟩) (by omega) hM1 rfl rfl rfl (Nat.le_of_ble_eq_true rfl) dX3_perforateFrom_5 ⟨(Nat.le_of_ble_eq_true rfl), (Nat.le_of_ble_eq_true rfl)⟩) (fun u hu => ?_)
  obtain ⟨u1, u2⟩ := hu
  have m14 := (u2 (k) (by omega)).trans ht
  have m15 := (u2 (k2) (by omega)).trans hM6
  have m16 := (u2 (k2 + 1) (by omega)).trans hA8
  have m17 := (u2 (k + 10) (by omega)).trans hs11
  have m18 := (u2 (k + 11) (by omega)).trans ha12
  have m19 := (u2 (k + 12) (by omega)).trans hb13
  have m20 := (u2 (kp) (by omega)).trans hpl
  have m21 : ∀ q, q < 7 → u (k2 + 2 + q) = .inr (1, [.int (St q), .int (We q)]) := fun q hq => (u2 (k2 + 2 + q) (by omega)).trans (hp10 q hq)
  obtain ⟨hM22, ⟨g23, hA24, hg25⟩, hp26⟩ := id u1
  refine g_aload_n C 0 rfl dX3_perforateFrom_8 ?_
  refine g_getf C k (by omega) m14 rfl 0 (by decide) (fun w h => (List.mem_cons_of_mem _ (List.mem_append_left _ (List.mem_append_left _ (List.mem_append_left _ (List.mem_append_right _ h)))))) (List.mem_of_getElem? (i := 1) rfl) rfl rfl dX3_perforateFrom_9 ?_
  refine g_iload_n C 2 rfl dX3_perforateFrom_12 ?_
  refine g_putfN C (k + 1) (by omega) hM22 rfl 1 (by decide) (fun w h => (List.mem_cons_of_mem _ (List.mem_append_left _ (List.mem_append_left _ (List.mem_append_right _ h))))) tyX0 tyX0_ok nmX0 (List.mem_of_getElem? (i := 4) rfl) rfl rfl rfl rfl (Nat.le_of_ble_eq_true rfl) dX3_perforateFrom_13 (fun el27 e28 o29 => ?_)
  replace e28 : el27 (k + 1) = .inr (0, [.ref (ad (k + 2)), .int x, .int (M 1), .int (M 2), .int (M 3), .int (M 5), .int (M 4)]) := e28
  have m30 := (o29 k (by omega)).trans m14
  have m31 := (o29 k2 (by omega)).trans m15
  have m32 := (o29 (k2 + 1) (by omega)).trans m16
  have m33 := (o29 (k + 10) (by omega)).trans m17
  have m34 := (o29 (k + 11) (by omega)).trans m18
  have m35 := (o29 (k + 12) (by omega)).trans m19
  have m36 := (o29 kp (by omega)).trans m20
  have m37 := (o29 (k + 2) (by omega)).trans hA24
  have m38 : ∀ q, q < 7 → el27 (k2 + 2 + q) = .inr (1, [.int (St q), .int (We q)]) := fun q hq => (o29 (k2 + 2 + q) (by omega)).trans (m21 q hq)
  have m39 : ∀ q, q < 7 → el27 (k + 3 + q) = .inr (1, [.int (St q), .int (We q)]) := fun q hq => (o29 (k + 3 + q) (by omega)).trans (hp26 q hq)
  refine g_aload_n C 0 rfl dX3_perforateFrom_16 ?_
  refine g_iconst C (v := nI 0) dX3_perforateFrom_17 (by decide) ?_
  refine g_putf C k (by omega) m30 rfl 2 (by decide) (fun w h => (List.mem_cons_of_mem _ (List.mem_append_left _ (List.mem_append_left _ (List.mem_append_left _ (List.mem_append_right _ h)))))) tyX3 tyX3_ok nmX3 (List.mem_of_getElem? (i := 2) rfl) rfl rfl rfl rfl (Nat.le_of_ble_eq_true rfl) dX3_perforateFrom_18 (fun el40 e41 o42 => ?_)
  replace e41 : el40 k = .inr (3, [.ref (ad (k + 1)), .ref (ad (k + 10)), .int (nI 0), .int b0]) := e41
  have m43 := (o42 k2 (by omega)).trans m31
  have m44 := (o42 (k2 + 1) (by omega)).trans m32
  have m45 := (o42 (k + 10) (by omega)).trans m33
  have m46 := (o42 (k + 11) (by omega)).trans m34
  have m47 := (o42 (k + 12) (by omega)).trans m35
  have m48 := (o42 kp (by omega)).trans m36
  have m49 := (o42 (k + 2) (by omega)).trans m37
  have m50 := (o42 (k + 1) (by omega)).trans e28
  have m51 : ∀ q, q < 7 → el40 (k2 + 2 + q) = .inr (1, [.int (St q), .int (We q)]) := fun q hq => (o42 (k2 + 2 + q) (by omega)).trans (m38 q hq)
  have m52 : ∀ q, q < 7 → el40 (k + 3 + q) = .inr (1, [.int (St q), .int (We q)]) := fun q hq => (o42 (k + 3 + q) (by omega)).trans (m39 q hq)
  refine g_aload_n C 0 rfl dX3_perforateFrom_21 ?_
  refine g_iconst C (v := nI 0) dX3_perforateFrom_22 (by decide) ?_
  refine g_putf C k (by omega) e41 rfl 3 (by decide) (fun w h => (List.mem_cons_of_mem _ (List.mem_append_left _ (List.mem_append_left _ (List.mem_append_left _ (List.mem_append_right _ h)))))) tyX3 tyX3_ok nmX3 (List.mem_of_getElem? (i := 3) rfl) rfl rfl rfl rfl (Nat.le_of_ble_eq_true rfl) dX3_perforateFrom_23 (fun el53 e54 o55 => ?_)
  replace e54 : el53 k = .inr (3, [.ref (ad (k + 1)), .ref (ad (k + 10)), .int (nI 0), .int (nI 0)]) := e54
  have m56 := (o55 k2 (by omega)).trans m43
  have m57 := (o55 (k2 + 1) (by omega)).trans m44
  have m58 := (o55 (k + 10) (by omega)).trans m45
  have m59 := (o55 (k + 11) (by omega)).trans m46
  have m60 := (o55 (k + 12) (by omega)).trans m47
  have m61 := (o55 kp (by omega)).trans m48
  have m62 := (o55 (k + 2) (by omega)).trans m49
  have m63 := (o55 (k + 1) (by omega)).trans m50
  have m64 : ∀ q, q < 7 → el53 (k2 + 2 + q) = .inr (1, [.int (St q), .int (We q)]) := fun q hq => (o55 (k2 + 2 + q) (by omega)).trans (m51 q hq)
  have m65 : ∀ q, q < 7 → el53 (k + 3 + q) = .inr (1, [.int (St q), .int (We q)]) := fun q hq => (o55 (k + 3 + q) (by omega)).trans (m52 q hq)
  refine g_iconst C (v := nI 0) dX3_perforateFrom_26 (by decide) ?_
  refine g_istore C (lv' := [(5, .int (nI 0)), (0, .ref (ad k)), (1, .ref (ad k2)), (2, .int x), (3, .ref (ad kp)), (4, .int (nI N))]) dX3_perforateFrom_27 (by decide) rfl ?_
  refine g_lv [0, 1, 4, 5] (lv' := [(5, .int (nI 0)), (0, .ref (ad k)), (3, .ref (ad kp)), (4, .int (nI N))]) rfl ?_
  refine g_forE N (fun (i : Nat) => [(5, .int (nI i)), (0, .ref (ad k)), (3, .ref (ad kp)), (4, .int (nI N))]) (fun i el1 => el1 k = .inr (3, [.ref (ad (k + 1)), .ref (ad (k + 10)), .int (s_tC (upd M 0 x) St We pl t i), .int (s_tV (upd M 0 x) St We pl t i)]) ∧ MacAt V ad el1 (k + 1) (s_rM (upd M 0 x) i) St (s_rW St We i) ∧ (∃ f1 : Nat → Int32, ShtAt V ad el1 (k + 10) f1 t) ∧ ∀ j, (j < k ∨ k + 13 ≤ j) → el1 j = el j) ⟨e54, ⟨m63, ⟨_, m62, fun i hi => (hg25 i hi)⟩, m65⟩, ⟨f, m58, m59, m60⟩, fun j hj => (o55 j (by omega)).trans ((o42 j (by omega)).trans ((o29 j (by omega)).trans (u2 j (by omega))))⟩ (fun el1 h1 => ?_) (fun i el1 hi h1 ih => ?_)
  · -- loop 29: its end
    obtain ⟨b1, b2, ⟨f1, b3⟩, a4⟩ := id h1
    have m66 := (a4 (kp) (by omega)).trans hpl
    obtain ⟨hM67, ⟨g68, hA69, hg70⟩, hp71⟩ := id b2
    obtain ⟨hs72, ha73, hb74⟩ := id b3
    refine g_iload C 0 rfl dX3_perforateFrom_29 ?_
    refine g_iload C 3 rfl dX3_perforateFrom_31 ?_
    refine g_icmp_ge C (tgt := 87) dX3_perforateFrom_33 (by decide) (fun c33 => ?_) (fun c33 => ?_)
    · -- 87
      have c33 : N ≤ N := (nI_leI (by omega) (by omega)).mp c33
      exact g_vret C rfl dX3_perforateFrom_87 el1 rfl rfl rfl ⟨⟨f1, b1, b2, b3⟩, a4⟩ (Nat.le_of_ble_eq_true rfl) (Nat.le_of_ble_eq_true rfl)
    · -- 36
      have c33 : N < N := Nat.lt_of_not_le (fun z => c33 ((nI_leI (by omega) (by omega)).mpr z))
      exact absurd c33 (by omega)
  · -- loop 29: its body
    obtain ⟨b1, b2, ⟨f1, b3⟩, a4⟩ := id h1
    have m75 := (a4 (kp) (by omega)).trans hpl
    obtain ⟨hM76, ⟨g77, hA78, hg79⟩, hp80⟩ := id b2
    obtain ⟨hs81, ha82, hb83⟩ := id b3
    refine g_iload C 0 rfl dX3_perforateFrom_29 ?_
    refine g_iload C 3 rfl dX3_perforateFrom_31 ?_
    refine g_icmp_ge C (tgt := 87) dX3_perforateFrom_33 (by decide) (fun c33 => ?_) (fun c33 => ?_)
    · -- 87
      have c33 : N ≤ i := (nI_leI (by omega) (by omega)).mp c33
      exact absurd c33 (by omega)
    · -- 36
      have c33 : i < N := Nat.lt_of_not_le (fun z => c33 ((nI_leI (by omega) (by omega)).mpr z))
      refine g_aload_n C 1 rfl dX3_perforateFrom_36 ?_
      refine g_getf C k (by omega) b1 rfl 0 (by decide) (fun w h => (List.mem_cons_of_mem _ (List.mem_append_left _ (List.mem_append_left _ (List.mem_append_left _ (List.mem_append_right _ h)))))) (List.mem_of_getElem? (i := 1) rfl) rfl rfl dX3_perforateFrom_37 ?_
      refine g_aload_n C 2 rfl dX3_perforateFrom_40 ?_
      refine g_aload_n C 1 rfl dX3_perforateFrom_41 ?_
      refine g_getf C k (by omega) b1 rfl 1 (by decide) (fun w h => (List.mem_cons_of_mem _ (List.mem_append_left _ (List.mem_append_left _ (List.mem_append_left _ (List.mem_append_right _ h)))))) (List.mem_of_getElem? (i := 4) rfl) rfl rfl dX3_perforateFrom_42 ?_
      refine g_callv C (r_V C (st := []) (c_X0_perforate l V (k := k + 1) (kp := kp) (ks := k + 10) (by omega) b2 (by omega) m75 (by omega) b3 (by omega) (by omega) (by omega)) (cwV 2 C.ts gX3_perforateFrom_X0_perforate rfl rfl rfl (by decide +kernel) ⟨(Nat.le_of_ble_eq_true rfl), (Nat.le_of_ble_eq_true rfl)⟩) (by omega) hM76 rfl rfl rfl (Nat.le_of_ble_eq_true rfl) dX3_perforateFrom_45 ⟨(Nat.le_of_ble_eq_true rfl), (Nat.le_of_ble_eq_true rfl)⟩) (fun v hv => ?_)
      obtain ⟨v1, ⟨f2, v2, v4⟩, v3⟩ := hv
      have m84 := (v3 (kp) (by omega) (by omega)).trans m75
      have m85 := (v3 (k) (by omega) (by omega)).trans b1
      obtain ⟨hM86, ⟨g87, hA88, hg89⟩, hp90⟩ := id v1
      obtain ⟨hs91, ha92, hb93⟩ := id v2
      refine g_aload_n C 1 rfl dX3_perforateFrom_48 ?_
      refine g_dup C dX3_perforateFrom_49 rfl ?_
      refine g_getf C k (by omega) m85 rfl 2 (by decide) (fun w h => (List.mem_cons_of_mem _ (List.mem_append_left _ (List.mem_append_left _ (List.mem_append_left _ (List.mem_append_right _ h)))))) (List.mem_of_getElem? (i := 2) rfl) rfl rfl dX3_perforateFrom_50 ?_
      refine g_aload_n C 1 rfl dX3_perforateFrom_53 ?_
      refine g_getf C k (by omega) m85 rfl 1 (by decide) (fun w h => (List.mem_cons_of_mem _ (List.mem_append_left _ (List.mem_append_left _ (List.mem_append_left _ (List.mem_append_right _ h)))))) (List.mem_of_getElem? (i := 4) rfl) rfl rfl dX3_perforateFrom_54 ?_
      refine g_iconst C (v := nI 0) dX3_perforateFrom_57 (by decide) ?_
      refine g_calli C (r_V C (st := [.int (s_tC (upd M 0 x) St We pl t i), .ref (ad k)]) (c_X2_leftWith l V (by omega) hs91 ha92 hb93 0) (cwV 1 C.ts gX3_perforateFrom_X2_leftWith rfl rfl rfl (by decide +kernel) ⟨(Nat.le_of_ble_eq_true rfl), (Nat.le_of_ble_eq_true rfl)⟩) (by omega) hs91 rfl rfl rfl (Nat.le_of_ble_eq_true rfl) dX3_perforateFrom_58 ⟨(Nat.le_of_ble_eq_true rfl), (Nat.le_of_ble_eq_true rfl)⟩) (fun r u hu => ?_)
      subst hu
      refine g_top (s_lw_congr v4 : s_leftWith f2 t 0 = s_leftWith (s_tF (upd M 0 x) St We pl i) t 0) ?_
      refine g_iadd C (v := (s_tC (upd M 0 x) St We pl t i) + (s_leftWith (s_tF (upd M 0 x) St We pl i) t 0)) dX3_perforateFrom_61 rfl ?_
      refine g_putf C k (by omega) m85 rfl 2 (by decide) (fun w h => (List.mem_cons_of_mem _ (List.mem_append_left _ (List.mem_append_left _ (List.mem_append_left _ (List.mem_append_right _ h)))))) tyX3 tyX3_ok nmX3 (List.mem_of_getElem? (i := 2) rfl) rfl rfl rfl rfl (Nat.le_of_ble_eq_true rfl) dX3_perforateFrom_62 (fun el94 e95 o96 => ?_)
      replace e95 : el94 k = .inr (3, [.ref (ad (k + 1)), .ref (ad (k + 10)), .int ((s_tC (upd M 0 x) St We pl t i) + (s_leftWith (s_tF (upd M 0 x) St We pl i) t 0)), .int (s_tV (upd M 0 x) St We pl t i)]) := e95
      have m97 := (o96 kp (by omega)).trans m84
      have m98 := (o96 (k + 1) (by omega)).trans hM86
      have m99 := (o96 (k + 2) (by omega)).trans hA88
      have m100 := (o96 (k + 10) (by omega)).trans hs91
      have m101 := (o96 (k + 11) (by omega)).trans ha92
      have m102 := (o96 (k + 12) (by omega)).trans hb93
      have m103 : ∀ q, q < 7 → el94 (k + 3 + q) = .inr (1, [.int (St q), .int (s_W St (s_rW St We i) 5 q)]) := fun q hq => (o96 (k + 3 + q) (by omega)).trans (hp90 q hq)
      refine g_aload_n C 1 rfl dX3_perforateFrom_65 ?_
      refine g_dup C dX3_perforateFrom_66 rfl ?_
      refine g_getf C k (by omega) e95 rfl 3 (by decide) (fun w h => (List.mem_cons_of_mem _ (List.mem_append_left _ (List.mem_append_left _ (List.mem_append_left _ (List.mem_append_right _ h)))))) (List.mem_of_getElem? (i := 3) rfl) rfl rfl dX3_perforateFrom_67 ?_
      refine g_aload_n C 1 rfl dX3_perforateFrom_70 ?_
      refine g_getf C k (by omega) e95 rfl 1 (by decide) (fun w h => (List.mem_cons_of_mem _ (List.mem_append_left _ (List.mem_append_left _ (List.mem_append_left _ (List.mem_append_right _ h)))))) (List.mem_of_getElem? (i := 4) rfl) rfl rfl dX3_perforateFrom_71 ?_
      refine g_calli C (r_V C (st := [.int (s_tV (upd M 0 x) St We pl t i), .ref (ad k)]) (c_X2_worth l V (by omega) m100 m101 m102) (cwV 0 C.ts gX3_perforateFrom_X2_worth rfl rfl rfl (by decide +kernel) ⟨(Nat.le_of_ble_eq_true rfl), (Nat.le_of_ble_eq_true rfl)⟩) (by omega) m100 rfl rfl rfl (Nat.le_of_ble_eq_true rfl) dX3_perforateFrom_74 ⟨(Nat.le_of_ble_eq_true rfl), (Nat.le_of_ble_eq_true rfl)⟩) (fun r u hu => ?_)
      subst hu
      refine g_top (s_wo_congr v4 : s_worths f2 t = s_worths (s_tF (upd M 0 x) St We pl i) t) ?_
      refine g_iadd C (v := (s_tV (upd M 0 x) St We pl t i) + (s_worths (s_tF (upd M 0 x) St We pl i) t)) dX3_perforateFrom_77 rfl ?_
      refine g_putf C k (by omega) e95 rfl 3 (by decide) (fun w h => (List.mem_cons_of_mem _ (List.mem_append_left _ (List.mem_append_left _ (List.mem_append_left _ (List.mem_append_right _ h)))))) tyX3 tyX3_ok nmX3 (List.mem_of_getElem? (i := 3) rfl) rfl rfl rfl rfl (Nat.le_of_ble_eq_true rfl) dX3_perforateFrom_78 (fun el104 e105 o106 => ?_)
      replace e105 : el104 k = .inr (3, [.ref (ad (k + 1)), .ref (ad (k + 10)), .int ((s_tC (upd M 0 x) St We pl t i) + (s_leftWith (s_tF (upd M 0 x) St We pl i) t 0)), .int ((s_tV (upd M 0 x) St We pl t i) + (s_worths (s_tF (upd M 0 x) St We pl i) t))]) := e105
      have m107 := (o106 kp (by omega)).trans m97
      have m108 := (o106 (k + 1) (by omega)).trans m98
      have m109 := (o106 (k + 2) (by omega)).trans m99
      have m110 := (o106 (k + 10) (by omega)).trans m100
      have m111 := (o106 (k + 11) (by omega)).trans m101
      have m112 := (o106 (k + 12) (by omega)).trans m102
      have m113 : ∀ q, q < 7 → el104 (k + 3 + q) = .inr (1, [.int (St q), .int (s_W St (s_rW St We i) 5 q)]) := fun q hq => (o106 (k + 3 + q) (by omega)).trans (m103 q hq)
      refine g_iinc C 0 rfl (v := nI (i + 1)) (lv' := [(5, .int (nI (i + 1))), (0, .ref (ad k)), (3, .ref (ad kp)), (4, .int (nI N))]) dX3_perforateFrom_81 (nI_add _ _) (by decide) rfl ?_
      refine g_goto C (tgt := 29) dX3_perforateFrom_84 (by decide) ?_
      refine g_lv [0, 1, 2, 3] (lv' := [(5, .int (nI (i + 1))), (0, .ref (ad k)), (3, .ref (ad kp)), (4, .int (nI N))]) rfl ?_
      exact ih _ ⟨e105, ⟨m108, ⟨_, m109, fun i hi => (hg89 i hi)⟩, m113⟩, ⟨f2, m110, m111, m112⟩, fun j hj => (o106 j (by omega)).trans ((o96 j (by omega)).trans ((v3 j (by omega) (by omega)).trans (a4 j hj)))⟩

set_option maxHeartbeats 4000000 in
set_option maxRecDepth 100000 in
theorem c_X3_answer (l : Launch) (V : gT) {n : Nat} {ad : Nat → Nat} {el : Nat → va_E} {k : Nat} {a b : Int32} {M St We f t : Nat → Int32} (hk : k + 13 ≤ n) (h : TrAt V ad el k a b M St We f t) (x : Int32) : TT l V yX3_answer wsX3_answer { frames := 2, cells := 0, slots := 0, locals := 42 } n ad el [.ref (ad k), .int x] (QIr V n ad el (fun r => r = if x = 0 then a else if x = 1 then b else if x = 2 then s_broken St We else M 2)) 0 0 := by
  refine TT.body (cc := cX3_answer) (maxL := 2) (ret := (some .int)) (by decide) rfl (Nat.le_of_ble_eq_true rfl) ?_
  intro p e s m below meth c C hnm
  refine g_lv [0, 1] (lv' := [(0, .ref (ad k)), (1, .int x)]) rfl ?_
  obtain ⟨ht, hm, hs⟩ := id h
  obtain ⟨hM1, ⟨g2, hA3, hg4⟩, hp5⟩ := id hm
  refine g_iload_n C 1 rfl dX3_answer_0 ?_
  by_cases q0 : x = 0
  · -- case
    refine g_tableIn C (tgt := 28) (off := 27) dX3_answer_1 (by rw [q0]; decide) (by rw [q0]; decide) (by rw [q0]; rfl) (by decide) ?_
    refine g_aload_n C 0 rfl dX3_answer_28 ?_
    refine g_getf C k (by omega) ht rfl 2 (by decide) (fun w h => (List.mem_cons_of_mem _ (List.mem_append_left _ (List.mem_append_left _ (List.mem_append_right _ h))))) (List.mem_of_getElem? (i := 1) rfl) rfl rfl dX3_answer_29 ?_
    exact g_iret C rfl dX3_answer_32 () rfl rfl rfl (by rw [if_pos q0]) (Nat.le_of_ble_eq_true rfl) (Nat.le_of_ble_eq_true rfl)
  by_cases q1 : x = 1
  · -- case
    refine g_tableIn C (tgt := 33) (off := 32) dX3_answer_1 (by rw [q1]; decide) (by rw [q1]; decide) (by rw [q1]; rfl) (by decide) ?_
    refine g_aload_n C 0 rfl dX3_answer_33 ?_
    refine g_getf C k (by omega) ht rfl 3 (by decide) (fun w h => (List.mem_cons_of_mem _ (List.mem_append_left _ (List.mem_append_left _ (List.mem_append_right _ h))))) (List.mem_of_getElem? (i := 2) rfl) rfl rfl dX3_answer_34 ?_
    exact g_iret C rfl dX3_answer_37 () rfl rfl rfl (by rw [if_neg q0, if_pos q1]) (Nat.le_of_ble_eq_true rfl) (Nat.le_of_ble_eq_true rfl)
  by_cases q2 : x = 2
  · -- case
    refine g_tableIn C (tgt := 38) (off := 37) dX3_answer_1 (by rw [q2]; decide) (by rw [q2]; decide) (by rw [q2]; rfl) (by decide) ?_
    refine g_aload_n C 0 rfl dX3_answer_38 ?_
    refine g_getf C k (by omega) ht rfl 0 (by decide) (fun w h => (List.mem_cons_of_mem _ (List.mem_append_left _ (List.mem_append_left _ (List.mem_append_right _ h))))) (List.mem_of_getElem? (i := 3) rfl) rfl rfl dX3_answer_39 ?_
    refine g_calli C (r_V C (st := []) (c_X0_brokenPins l V (by omega) ⟨hM1, ⟨_, hA3, fun i hi => (hg4 i hi)⟩, hp5⟩) (cwV 0 C.ts gX3_answer_X0_brokenPins rfl rfl rfl (by decide +kernel) ⟨(Nat.le_of_ble_eq_true rfl), (Nat.le_of_ble_eq_true rfl)⟩) (by omega) hM1 rfl rfl rfl (Nat.le_of_ble_eq_true rfl) dX3_answer_42 ⟨(Nat.le_of_ble_eq_true rfl), (Nat.le_of_ble_eq_true rfl)⟩) (fun r u hu => ?_)
    subst hu
    exact g_iret C rfl dX3_answer_45 () rfl rfl rfl (by rw [if_neg q0, if_neg q1, if_pos q2]) (Nat.le_of_ble_eq_true rfl) (Nat.le_of_ble_eq_true rfl)
  have qq : x.toInt < 0 ∨ 2 < x.toInt := by
    have z0 : x.toInt ≠ 0 := fun z => q0 (Int32.toInt_inj.mp z)
    have z1 : x.toInt ≠ 1 := fun z => q1 (Int32.toInt_inj.mp z)
    have z2 : x.toInt ≠ 2 := fun z => q2 (Int32.toInt_inj.mp z)
    omega
  refine g_tableOut C (tgt := 46) dX3_answer_1 qq (by decide) ?_
  refine g_aload_n C 0 rfl dX3_answer_46 ?_
  refine g_getf C k (by omega) ht rfl 0 (by decide) (fun w h => (List.mem_cons_of_mem _ (List.mem_append_left _ (List.mem_append_left _ (List.mem_append_right _ h))))) (List.mem_of_getElem? (i := 3) rfl) rfl rfl dX3_answer_47 ?_
  refine g_getfN C (k + 1) (by omega) hM1 rfl 3 (by decide) (fun w h => (List.mem_cons_of_mem _ (List.mem_append_left _ (List.mem_append_right _ h)))) (List.mem_of_getElem? (i := 8) rfl) rfl rfl dX3_answer_50 ?_
  exact g_iret C rfl dX3_answer_53 () rfl rfl rfl (by rw [if_neg q0, if_neg q1, if_neg q2]) (Nat.le_of_ble_eq_true rfl) (Nat.le_of_ble_eq_true rfl)
