/-! ===== the law's own machine: run ===== -/
abbrev QIn (V : gT) (post : Int32 → gS → Prop) := QI V post (fun u => u.1) (fun u => u.2.1) (fun u => u.2.2)
/-- the places behind a run: the two new arrays stand where the old ones stood -/
def s_sig (n j : Nat) : Nat := if j = 95 then n else if j = 96 then n + 1 else if j < n then j else j + 2
theorem s_sig_lo {n j : Nat} (h : j < n) (h1 : j ≠ 95) (h2 : j ≠ 96) : s_sig n j = j := by rw [s_sig, if_neg h1, if_neg h2, if_pos h]
theorem s_sig_hi {n j : Nat} (hn : 97 ≤ n) (h : n ≤ j) : s_sig n j = j + 2 := by rw [s_sig, if_neg (by omega), if_neg (by omega), if_neg (by omega)]
theorem s_sig_95 (n : Nat) : s_sig n 95 = n := if_pos rfl
theorem s_sig_96 (n : Nat) : s_sig n 96 = n + 1 := by rw [s_sig, if_neg (by omega), if_pos rfl]
theorem s_sig_lt {n k : Nat} (hn : 97 ≤ n) (h : k < n + 12) : s_sig n k < n + 14 := by
  unfold s_sig
  split
  · omega
  · split
    · omega
    · split <;> omega
theorem s_sig_inj {n i j : Nat} (hn : 97 ≤ n) (h : s_sig n i = s_sig n j) : i = j := by
  unfold s_sig at h
  split at h
  · split at h
    · omega
    · split at h
      · omega
      · split at h <;> omega
  · split at h
    · split at h
      · omega
      · split at h
        · omega
        · split at h <;> omega
    · split at h
      · split at h
        · omega
        · split at h
          · omega
          · split at h <;> omega
      · split at h
        · omega
        · split at h
          · omega
          · split at h <;> omega
theorem SimAt.grow {V : gT} {ad : Nat → Nat} {el0 el : Nat → va_E} {B cnt n : Nat} {M St We pl f t : Nat → Int32} {F T : Nat → Nat → Int32} (hB : 97 ≤ B) (hn : n = B + 12 * cnt) (h : SimAt V ad el0 B cnt M St We pl F T)
    (h85 : el 85 = .inr (5, [.int (M 0), .int (M 1), .int (M 2), .int (M 3), .int (M 4), .int (M 5), .ref (ad 86), .ref (ad 87), .ref (ad 88), .ref (ad 89), .ref (ad n), .ref (ad (n + 1))])) (ho : ∀ j, j < n → j ≠ 85 → el j = el0 j)
    (ha : RfA V el n 7 (cnt + 1) (fun k => if k < cnt then ad (B + 12 * k) else ad (n + 2))) (hg : RfA V el (n + 1) 2 (cnt + 1) (fun k => if k < cnt then ad (B + 12 * k + 6) else ad (n + 8))) (hf : RwI V ad el (n + 2) f) (ht : RwZ V ad el (n + 8) t) :
    SimAt V (fun j => ad (s_sig n j)) (fun j => el (s_sig n j)) B (cnt + 1) M St We pl (va_up F cnt f) (va_up T cnt t) := by
  obtain ⟨a1, a2, a3, a4, a5, a6, a7, a8⟩ := h
  have lo : ∀ j, j < n → j ≠ 95 → j ≠ 96 → s_sig n j = j := fun j h h1 h2 => s_sig_lo h h1 h2
  have hi : ∀ j, n ≤ j → s_sig n j = j + 2 := fun j h => s_sig_hi (by omega) h
  refine ⟨?_, ?_, ?_, ?_, ?_, ?_, ?_, fun k hk => ?_⟩
  · show el (s_sig n 85) = _
    rw [lo 85 (by omega) (by omega) (by omega), h85]
    dsimp only
    rw [lo 86 (by omega) (by omega) (by omega), lo 87 (by omega) (by omega) (by omega), lo 88 (by omega) (by omega) (by omega), lo 89 (by omega) (by omega) (by omega), s_sig_95, s_sig_96]
  · exact a2.keep (by show el (s_sig n 86) = _; rw [lo 86 (by omega) (by omega) (by omega)]; exact ho _ (by omega) (by omega))
  · exact a3.keep (by show el (s_sig n 87) = _; rw [lo 87 (by omega) (by omega) (by omega)]; exact ho _ (by omega) (by omega))
  · exact a4.keep (by show el (s_sig n 88) = _; rw [lo 88 (by omega) (by omega) (by omega)]; exact ho _ (by omega) (by omega))
  · exact a5.mv (fun j hj => by show el (s_sig n (89 + j)) = _; rw [lo _ (by omega) (by omega) (by omega)]; exact ho _ (by omega) (by omega)) (fun j hj => by show ad (s_sig n (89 + j)) = _; rw [lo _ (by omega) (by omega) (by omega)])
  · obtain ⟨g, h1, h2⟩ := ha
    refine ⟨g, by show el (s_sig n 95) = _; rw [s_sig_95]; exact h1, fun k hk => (h2 k hk).trans (congrArg some ?_)⟩
    show (if k < cnt then ad (B + 12 * k) else ad (n + 2)) = ad (s_sig n (B + 12 * k))
    by_cases e : k < cnt
    · rw [if_pos e, lo _ (by omega) (by omega) (by omega)]
    · rw [if_neg e, hi _ (by omega), show B + 12 * k = n by rw [hn, show k = cnt by omega]]
  · obtain ⟨g, h1, h2⟩ := hg
    refine ⟨g, by show el (s_sig n 96) = _; rw [s_sig_96]; exact h1, fun k hk => (h2 k hk).trans (congrArg some ?_)⟩
    show (if k < cnt then ad (B + 12 * k + 6) else ad (n + 8)) = ad (s_sig n (B + 12 * k + 6))
    by_cases e : k < cnt
    · rw [if_pos e, lo _ (by omega) (by omega) (by omega)]
    · rw [if_neg e, hi _ (by omega), show B + 12 * k = n by rw [hn, show k = cnt by omega]]
  · by_cases e : k = cnt
    · subst e
      rw [va_up_self, va_up_self]
      refine ⟨hf.mv (fun j hj => ?_) (fun j hj => ?_), ht.mv (fun j hj => ?_) (fun j hj => ?_)⟩
      · show el (s_sig n _) = _
        rw [hi _ (by omega)]
        exact congrArg el (by omega)
      · show ad (s_sig n _) = _
        rw [hi _ (by omega)]
        exact congrArg ad (by omega)
      · show el (s_sig n _) = _
        rw [hi _ (by omega)]
        exact congrArg el (by omega)
      · show ad (s_sig n _) = _
        rw [hi _ (by omega)]
        exact congrArg ad (by omega)
    · rw [va_up_ne _ _ e, va_up_ne _ _ e]
      obtain ⟨b1, b2⟩ := a8 k (by omega)
      refine ⟨b1.mv (fun j hj => ?_) (fun j hj => ?_), b2.mv (fun j hj => ?_) (fun j hj => ?_)⟩
      · show el (s_sig n _) = _
        rw [lo _ (by omega) (by omega) (by omega)]
        exact ho _ (by omega) (by omega)
      · show ad (s_sig n _) = _
        rw [lo _ (by omega) (by omega) (by omega)]
      · show el (s_sig n _) = _
        rw [lo _ (by omega) (by omega) (by omega)]
        exact ho _ (by omega) (by omega)
      · show ad (s_sig n _) = _
        rw [lo _ (by omega) (by omega) (by omega)]

set_option maxHeartbeats 4000000 in
set_option maxRecDepth 100000 in
theorem c_X5_run (l : Launch) (V : gT) {n : Nat} {ad : Nat → Nat} {el : Nat → va_E} {B cnt : Nat} {M St We pl : Nat → Int32} {F T : Nat → Nat → Int32} (hB : 97 ≤ B) (hc : cnt < 20) (hn : n = B + 12 * cnt) (hs : SimAt V ad el B cnt M St We pl F T) (h4 : 0 < M 4) : TT l V yX5_run wsX5_run { frames := 1, cells := 14, slots := 112, locals := 24 } n ad el [.ref (ad 85)] (QIn V (fun r u => r = nI cnt ∧ u.1 = B + 12 * (cnt + 1) ∧ (∀ j, j < n → j ≠ 95 → j ≠ 96 → u.2.1 j = ad j) ∧ SimAt V u.2.1 u.2.2 B (cnt + 1) (s_end M) St (s_W St We 5) pl (va_up F cnt (s_fault M St We pl)) (va_up T cnt (fun _ => 0)) ∧ ∀ j, j < n → (j < 85 ∨ 97 ≤ j) → u.2.2 j = el j)) 14 112 := by
  refine TT.body (cc := cX5_run) (maxL := 5) (ret := (some .int)) (by decide) rfl (Nat.le_of_ble_eq_true rfl) ?_
  intro p e s m below meth c C hnm
  refine g_lv [0] (lv' := [(0, .ref (ad 85))]) rfl ?_
  obtain ⟨y1, y2, y3, y4, y5, y6, y7, y8⟩ := id hs
  obtain ⟨g9, h10, z11⟩ := id y6
  obtain ⟨g12, h13, z14⟩ := id y7
  refine g_aload_n C 0 rfl dX5_run_0 ?_
  refine g_getf C 85 (by omega) y1 rfl 10 (by decide) (fun w h => (List.mem_cons_of_mem _ (List.mem_append_right _ h))) (List.mem_of_getElem? (i := 1) rfl) rfl rfl dX5_run_1 ?_
  refine g_alen C 95 (by omega) 7 rfl h10 (v := nI cnt) rfl dX5_run_4 ?_
  refine g_istore_n C (lv' := [(1, .int (nI cnt)), (0, .ref (ad 85))]) dX5_run_5 (by decide) rfl ?_
  refine g_iload_n C 0 rfl dX5_run_6 ?_
  refine g_iconst C (v := nI 1) dX5_run_7 (by decide) ?_
  refine g_iadd C (v := nI (cnt + 1)) dX5_run_8 (nI_add _ _) ?_
  refine g_newAA C 7 (ty := .array .int) (by simp [g_aat]) rfl (List.mem_of_getElem? (i := 2) rfl) (N := cnt + 1) (nI_pos (by omega)) (nI_clamp (by omega)) (by omega) (by show _ ≤ 14; omega) (by show _ ≤ 112; omega) dX5_run_9 (fun ad15 el16 ha17 he18 hb19 => ?_)
  refine g_lveq (lv' := [(1, .int (nI cnt)), (0, .ref (ad15 85))]) (by rw [ha17 85 (by omega)]) ?_
  have m20 : el16 85 = .inr (5, [.int (M 0), .int (M 1), .int (M 2), .int (M 3), .int (M 4), .int (M 5), .ref (ad15 86), .ref (ad15 87), .ref (ad15 88), .ref (ad15 89), .ref (ad15 95), .ref (ad15 96)]) := by rw [hb19 85 (by omega), y1, ha17 86 (by omega), ha17 87 (by omega), ha17 88 (by omega), ha17 89 (by omega), ha17 95 (by omega), ha17 96 (by omega)]
  have m21 := (hb19 95 (by omega)).trans h10
  have m22 := (hb19 96 (by omega)).trans h13
  refine g_astore_n C (lv' := [(2, .ref (ad15 n)), (1, .int (nI cnt)), (0, .ref (ad15 85))]) dX5_run_12 (by decide) rfl ?_
  refine g_iload_n C 1 rfl dX5_run_13 ?_
  refine g_iconst C (v := nI 1) dX5_run_14 (by decide) ?_
  refine g_iadd C (v := nI (cnt + 1)) dX5_run_15 (nI_add _ _) ?_
  refine g_newAA C 2 (ty := .array .boolean) (by simp [g_aat]) rfl (List.mem_of_getElem? (i := 4) rfl) (N := cnt + 1) (nI_pos (by omega)) (nI_clamp (by omega)) (by omega) (by show _ ≤ 14; omega) (by show _ ≤ 112; omega) dX5_run_16 (fun ad23 el24 ha25 he26 hb27 => ?_)
  refine g_lveq (lv' := [(2, .ref (ad23 n)), (1, .int (nI cnt)), (0, .ref (ad23 85))]) (by rw [ha25 85 (by omega), ha25 n (by omega)]) ?_
  have m28 : el24 85 = .inr (5, [.int (M 0), .int (M 1), .int (M 2), .int (M 3), .int (M 4), .int (M 5), .ref (ad23 86), .ref (ad23 87), .ref (ad23 88), .ref (ad23 89), .ref (ad23 95), .ref (ad23 96)]) := by rw [hb27 85 (by omega), m20, ha25 86 (by omega), ha25 87 (by omega), ha25 88 (by omega), ha25 89 (by omega), ha25 95 (by omega), ha25 96 (by omega)]
  have m29 := (hb27 95 (by omega)).trans m21
  have m30 := (hb27 96 (by omega)).trans m22
  have m31 := (hb27 n (by omega)).trans he18
  refine g_astore_n C (lv' := [(3, .ref (ad23 (n + 1))), (2, .ref (ad23 n)), (1, .int (nI cnt)), (0, .ref (ad23 85))]) dX5_run_19 (by decide) rfl ?_
  refine g_iconst C (v := nI 0) dX5_run_20 (by decide) ?_
  refine g_istore C (lv' := [(4, .int (nI 0)), (3, .ref (ad23 (n + 1))), (2, .ref (ad23 n)), (1, .int (nI cnt)), (0, .ref (ad23 85))]) dX5_run_21 (by decide) rfl ?_
  refine g_lv [0, 4, 3, 2, 1] (lv' := [(4, .int (nI 0)), (0, .ref (ad23 85)), (1, .int (nI cnt)), (2, .ref (ad23 n)), (3, .ref (ad23 (n + 1)))]) rfl ?_
  have had : ∀ j, j < n → ad23 j = ad j := fun j hj => (ha25 j (by omega)).trans (ha17 j hj)
  have hel : ∀ j, j < n → el24 j = el j := fun j hj => (hb27 j (by omega)).trans (hb19 j hj)
  have hs1 : SimAt V ad23 el24 B cnt M St We pl F T := (hs.keep (fun j hj => hel j (by omega))).adr (fun j hj => had j (by omega))
  refine g_forE cnt (fun (i : Nat) => [(4, .int (nI i)), (0, .ref (ad23 85)), (1, .int (nI cnt)), (2, .ref (ad23 n)), (3, .ref (ad23 (n + 1)))]) (fun i el1 => (∃ g : Nat → Option Nat, el1 n = .inl (V.2 7, cnt + 1, .inr (.inr (.inr (.inr g)))) ∧ ∀ q, q < i → g q = some (ad23 (B + 12 * q))) ∧ (∃ g : Nat → Option Nat, el1 (n + 1) = .inl (V.2 2, cnt + 1, .inr (.inr (.inr (.inr g)))) ∧ ∀ q, q < i → g q = some (ad23 (B + 12 * q + 6))) ∧ ∀ j, j < n → el1 j = el24 j) ⟨⟨_, m31, fun q hq => absurd hq (by omega)⟩, ⟨_, he26, fun q hq => absurd hq (by omega)⟩, fun j _ => rfl⟩ (fun el1 h1 => ?_) (fun i el1 hi h1 ih => ?_)
  · -- loop 23: its end
    obtain ⟨⟨g1, a1, a2⟩, ⟨g2, b1, b2⟩, b3⟩ := id h1
    have hs2 : SimAt V ad23 el1 B cnt M St We pl F T := hs1.keep (fun j hj => b3 j (by omega))
    obtain ⟨y32, y33, y34, y35, y36, y37, y38, y39⟩ := id hs2
    obtain ⟨g40, h41, z42⟩ := id y37
    obtain ⟨g43, h44, z45⟩ := id y38
    refine g_iload C 0 rfl dX5_run_23 ?_
    refine g_iload_n C 2 rfl dX5_run_25 ?_
    refine g_icmp_ge C (tgt := 57) dX5_run_26 (by decide) (fun c26 => ?_) (fun c26 => ?_)
    · -- 57
      have c26 : cnt ≤ cnt := (nI_leI (by omega) (by omega)).mp c26
      refine g_aload_n C 3 rfl dX5_run_57 ?_
      refine g_iload_n C 2 rfl dX5_run_58 ?_
      refine g_aload_n C 1 rfl dX5_run_59 ?_
      refine g_callr C (r_V C (st := [.int (nI cnt), .ref (ad23 n)]) (c_X5_sheet l V hB (by omega) (n := n + 1 + 1) (by omega) hs2 h4) (cwV 0 C.ts gX5_run_X5_sheet rfl rfl rfl (by decide +kernel) ⟨(Nat.le_of_ble_eq_true rfl), (Nat.le_of_ble_eq_true rfl)⟩) (by omega) y32 rfl rfl rfl (Nat.le_of_ble_eq_true rfl) dX5_run_60 ⟨(by show _ ≤ 14; omega), (by show _ ≤ 112; omega)⟩) (fun n9 ad9 u hu => ?_)
      obtain ⟨e9, had9, hs9, hrw9, hel9⟩ := hu
      dsimp only at e9 had9 hs9 hrw9 hel9 ⊢
      subst e9
      have a46 := (hel9 n (by omega) (by omega) (by omega) (by omega)).trans a1
      have b47 := (hel9 (n + 1) (by omega) (by omega) (by omega) (by omega)).trans b1
      refine g_lveq (lv' := [(4, .int (nI cnt)), (0, .ref (ad9 85)), (1, .int (nI cnt)), (2, .ref (ad9 n)), (3, .ref (ad9 (n + 1)))]) (by rw [had9 85 (by omega), had9 n (by omega), had9 (n + 1) (by omega)]) ?_
      refine g_steq (st' := .ref (ad9 (n + 2)) :: [.int (nI cnt), .ref (ad9 n)]) (by rw [had9 n (by omega)]) ?_
      obtain ⟨⟨g9, k9, -⟩, -⟩ := id hrw9
      refine g_aastA C n (by omega) 7 5 (ty := .array .int) (by simp [g_aat]) rfl rfl (n + 2) (by omega) k9 a46 cnt rfl (by omega) (by omega) dX5_run_63 (fun el48 e49 o50 => ?_)
      have m51 := (o50 (n + 1) (by omega)).trans b47
      have m52 := (o50 (n + 2) (by omega)).trans k9
      have m53 := (o50 85 (by omega)).trans hs9.1
      have P54 := hrw9.keep (fun j h1 h2 => o50 j (by omega))
      refine g_aload_n C 4 rfl dX5_run_64 ?_
      refine g_iload_n C 2 rfl dX5_run_65 ?_
      refine g_iconst C (v := nI 5) dX5_run_66 (by decide) ?_
      refine g_bipush C (v := nI 6) dX5_run_67 (by decide) ?_
      refine g_mna C 6 1 (ty := .boolean) (by simp [g_aat]) rfl rfl (List.mem_of_getElem? (i := 4) rfl) (List.mem_of_getElem? (i := 5) rfl) (N := 5) (M := 6) (by decide) (by decide) (by decide) (by decide) (Nat.le_of_ble_eq_true rfl) (Nat.le_of_ble_eq_true rfl) (Nat.le_of_ble_eq_true rfl) rfl rfl (fun c => g_inner c 6 .boolean rfl) (by show _ ≤ 14; omega) (by show _ ≤ 112; omega) dX5_run_69 (fun ad55 el56 ha57 he58 hr59 hb60 => ?_)
      refine g_lveq (lv' := [(4, .int (nI cnt)), (0, .ref (ad55 85)), (1, .int (nI cnt)), (2, .ref (ad55 n)), (3, .ref (ad55 (n + 1)))]) (by rw [ha57 85 (by omega), ha57 n (by omega), ha57 (n + 1) (by omega)]) ?_
      refine g_steq (st' := .ref (ad55 (n + 8)) :: [.int (nI cnt), .ref (ad55 (n + 1))]) (by rw [ha57 (n + 1) (by omega)]) ?_
      have m61 := (hb60 (n + 1) (by omega)).trans m51
      have m62 := (hb60 (n + 2) (by omega)).trans m52
      have m63 : el56 85 = .inr (5, [.int (s_end M 0), .int (s_end M 1), .int (s_end M 2), .int (s_end M 3), .int (s_end M 4), .int (s_end M 5), .ref (ad55 86), .ref (ad55 87), .ref (ad55 88), .ref (ad55 89), .ref (ad55 95), .ref (ad55 96)]) := by rw [hb60 85 (by omega), m53, ha57 86 (by omega), ha57 87 (by omega), ha57 88 (by omega), ha57 89 (by omega), ha57 95 (by omega), ha57 96 (by omega)]
      have m64 := (hb60 n (by omega)).trans e49
      have P65 := (P54.keep (fun j h1 h2 => hb60 j (by omega))).adr (fun j h1 h2 => ha57 j (by omega))
      have P66 : RwZ V ad55 el56 (n + 8) (fun _ => 0) := ⟨⟨_, he58, fun i hi => if_pos hi⟩, fun r hr => ⟨_, hr59 r hr, fun c hc => rfl⟩⟩
      obtain ⟨⟨g8, k8, -⟩, -⟩ := id P66
      refine g_aastA C (n + 1) (by omega) 2 6 (ty := .array .boolean) (by simp [g_aat]) rfl rfl (n + 8) (by omega) k8 m61 cnt rfl (by omega) (by omega) dX5_run_73 (fun el67 e68 o69 => ?_)
      have m70 := (o69 (n + 2) (by omega)).trans m62
      have m71 := (o69 85 (by omega)).trans m63
      have m72 := (o69 n (by omega)).trans m64
      have m73 := (o69 (n + 8) (by omega)).trans k8
      have P74 := P65.keep (fun j h1 h2 => o69 j (by omega))
      have P75 := P66.keep (fun j h1 h2 => o69 j (by omega))
      refine g_aload_n C 1 rfl dX5_run_74 ?_
      refine g_aload_n C 3 rfl dX5_run_75 ?_
      refine g_putf C 85 (by omega) m71 rfl 10 (by decide) (fun w h => (List.mem_cons_of_mem _ (List.mem_append_right _ h))) tyX5 tyX5_ok nmX5 (List.mem_of_getElem? (i := 1) rfl) rfl rfl rfl rfl (Nat.le_of_ble_eq_true rfl) dX5_run_76 (fun el76 e77 o78 => ?_)
      replace e77 : el76 85 = .inr (5, [.int (s_end M 0), .int (s_end M 1), .int (s_end M 2), .int (s_end M 3), .int (s_end M 4), .int (s_end M 5), .ref (ad55 86), .ref (ad55 87), .ref (ad55 88), .ref (ad55 89), .ref (ad55 n), .ref (ad55 96)]) := e77
      have m79 := (o78 (n + 2) (by omega)).trans m70
      have m80 := (o78 n (by omega)).trans m72
      have m81 := (o78 (n + 8) (by omega)).trans m73
      have m82 := (o78 (n + 1) (by omega)).trans e68
      have P83 := P74.keep (fun j h1 h2 => o78 j (by omega))
      have P84 := P75.keep (fun j h1 h2 => o78 j (by omega))
      refine g_aload_n C 1 rfl dX5_run_79 ?_
      refine g_aload_n C 4 rfl dX5_run_80 ?_
      refine g_putf C 85 (by omega) e77 rfl 11 (by decide) (fun w h => (List.mem_cons_of_mem _ (List.mem_append_right _ h))) tyX5 tyX5_ok nmX5 (List.mem_of_getElem? (i := 3) rfl) rfl rfl rfl rfl (Nat.le_of_ble_eq_true rfl) dX5_run_81 (fun el85 e86 o87 => ?_)
      replace e86 : el85 85 = .inr (5, [.int (s_end M 0), .int (s_end M 1), .int (s_end M 2), .int (s_end M 3), .int (s_end M 4), .int (s_end M 5), .ref (ad55 86), .ref (ad55 87), .ref (ad55 88), .ref (ad55 89), .ref (ad55 n), .ref (ad55 (n + 1))]) := e86
      have m88 := (o87 (n + 2) (by omega)).trans m79
      have m89 := (o87 n (by omega)).trans m80
      have m90 := (o87 (n + 8) (by omega)).trans m81
      have m91 := (o87 (n + 1) (by omega)).trans m82
      have P92 := P83.keep (fun j h1 h2 => o87 j (by omega))
      have P93 := P84.keep (fun j h1 h2 => o87 j (by omega))
      refine g_iload_n C 2 rfl dX5_run_84 ?_
      have hadF : ∀ j, j < n → ad55 j = ad j := fun j hj => (ha57 j (by omega)).trans ((had9 j (by omega)).trans (had j hj))
      have hs10 : SimAt V ad55 u B cnt (s_end M) St (s_W St We 5) pl F T := hs9.adr (fun j hj => ha57 j (by omega))
      have hR1 : RfA V el85 n 7 (cnt + 1) (fun k => if k < cnt then ad55 (B + 12 * k) else ad55 (n + 2)) := ⟨_, m89, fun k hk => by
          (try dsimp only)
          by_cases e : k = cnt
          · subst e; rw [va_up_self, if_neg (Nat.lt_irrefl k)]; rw [ha57 _ (by omega)]
          · rw [va_up_ne _ _ e, if_pos (by omega), a2 k (by omega), ha57 _ (by omega), had9 _ (by omega)]⟩
      have hR2 : RfA V el85 (n + 1) 2 (cnt + 1) (fun k => if k < cnt then ad55 (B + 12 * k + 6) else ad55 (n + 8)) := ⟨_, m91, fun k hk => by
          (try dsimp only)
          by_cases e : k = cnt
          · subst e; rw [va_up_self, if_neg (Nat.lt_irrefl k)]
          · rw [va_up_ne _ _ e, if_pos (by omega), b2 k (by omega), ha57 _ (by omega), had9 _ (by omega)]⟩
      have hS := SimAt.grow hB hn hs10 e86 (fun j hj h5 => (o87 j (by omega)).trans ((o78 j (by omega)).trans ((o69 j (by omega)).trans ((hb60 j (by omega)).trans (o50 j (by omega)))))) hR1 hR2 P92 P93
      refine g_perm (s_sig n) (n' := n + 12) (ad' := fun j => ad55 (s_sig n j)) (el' := fun j => el85 (s_sig n j)) (fun k hk => (by have := s_sig_lt (n := n) (by omega) hk; omega)) (fun i j _ _ h => s_sig_inj (by omega) h) (fun _ _ => rfl) (fun _ _ => rfl) ?_
      exact g_iret C rfl dX5_run_85 (n + 12, (fun j => ad55 (s_sig n j)), (fun j => el85 (s_sig n j))) rfl rfl rfl ⟨rfl, (show n + 12 = _ by omega), fun j hj h5 h6 => (congrArg ad55 (s_sig_lo hj h5 h6)).trans (hadF j hj), hS, fun j hj h5 => (congrArg el85 (s_sig_lo hj (by omega) (by omega))).trans ((o87 j (by omega)).trans ((o78 j (by omega)).trans ((o69 j (by omega)).trans ((hb60 j (by omega)).trans ((o50 j (by omega)).trans (((hel9 j (by omega) (by omega) (by omega) (by omega)).trans ((b3 j hj).trans (hel j hj)))))))))⟩ (by omega) (by omega)
    · -- 29
      have c26 : cnt < cnt := Nat.lt_of_not_le (fun z => c26 ((nI_leI (by omega) (by omega)).mpr z))
      exact absurd c26 (by omega)
  · -- loop 23: its body
    obtain ⟨⟨g1, a1, a2⟩, ⟨g2, b1, b2⟩, b3⟩ := id h1
    have hs2 : SimAt V ad23 el1 B cnt M St We pl F T := hs1.keep (fun j hj => b3 j (by omega))
    obtain ⟨y94, y95, y96, y97, y98, y99, y100, y101⟩ := id hs2
    obtain ⟨g102, h103, z104⟩ := id y99
    obtain ⟨g105, h106, z107⟩ := id y100
    refine g_iload C 0 rfl dX5_run_23 ?_
    refine g_iload_n C 2 rfl dX5_run_25 ?_
    refine g_icmp_ge C (tgt := 57) dX5_run_26 (by decide) (fun c26 => ?_) (fun c26 => ?_)
    · -- 57
      have c26 : cnt ≤ i := (nI_leI (by omega) (by omega)).mp c26
      exact absurd c26 (by omega)
    · -- 29
      have c26 : i < cnt := Nat.lt_of_not_le (fun z => c26 ((nI_leI (by omega) (by omega)).mpr z))
      refine g_aload_n C 3 rfl dX5_run_29 ?_
      refine g_iload C 0 rfl dX5_run_30 ?_
      refine g_aload_n C 1 rfl dX5_run_32 ?_
      refine g_getf C 85 (by omega) y94 rfl 10 (by decide) (fun w h => (List.mem_cons_of_mem _ (List.mem_append_right _ h))) (List.mem_of_getElem? (i := 1) rfl) rfl rfl dX5_run_33 ?_
      refine g_iload C 0 rfl dX5_run_36 ?_
      refine g_aaldA C 95 (by omega) 7 rfl h103 i rfl (by omega) (by omega) (z104 i (by omega)) dX5_run_38 ?_
      obtain ⟨⟨g108, h109, z110⟩, r111⟩ := id (y101 i (by omega)).1
      refine g_aastA C n (by omega) 7 5 (ty := .array .int) (by simp [g_aat]) rfl rfl (B + 12 * i) (by omega) h109 a1 i rfl (by omega) (by omega) dX5_run_39 (fun el112 e113 o114 => ?_)
      have m115 := (o114 85 (by omega)).trans y94
      have m116 := (o114 95 (by omega)).trans h103
      have m117 := (o114 96 (by omega)).trans h106
      have m118 := (o114 (n + 1) (by omega)).trans b1
      have m119 := (o114 (B + 12 * i) (by omega)).trans h109
      refine g_aload_n C 4 rfl dX5_run_40 ?_
      refine g_iload C 0 rfl dX5_run_41 ?_
      have hs3 : SimAt V ad23 el112 B cnt M St We pl F T := hs2.keep (fun j hj => o114 j (by omega))
      obtain ⟨y120, y121, y122, y123, y124, y125, y126, y127⟩ := id hs3
      obtain ⟨g128, h129, z130⟩ := id y125
      obtain ⟨g131, h132, z133⟩ := id y126
      refine g_aload_n C 1 rfl dX5_run_43 ?_
      refine g_getf C 85 (by omega) y120 rfl 11 (by decide) (fun w h => (List.mem_cons_of_mem _ (List.mem_append_right _ h))) (List.mem_of_getElem? (i := 3) rfl) rfl rfl dX5_run_44 ?_
      refine g_iload C 0 rfl dX5_run_47 ?_
      refine g_aaldA C 96 (by omega) 2 rfl h132 i rfl (by omega) (by omega) (z133 i (by omega)) dX5_run_49 ?_
      obtain ⟨⟨g134, h135, z136⟩, r137⟩ := id (y127 i (by omega)).2
      refine g_aastA C (n + 1) (by omega) 2 6 (ty := .array .boolean) (by simp [g_aat]) rfl rfl (B + 12 * i + 6) (by omega) h135 m118 i rfl (by omega) (by omega) dX5_run_50 (fun el138 e139 o140 => ?_)
      have m141 := (o140 85 (by omega)).trans y120
      have m142 := (o140 95 (by omega)).trans h129
      have m143 := (o140 96 (by omega)).trans h132
      have m144 := (o140 n (by omega)).trans e113
      have m145 := (o140 (B + 12 * i + 6) (by omega)).trans h135
      refine g_iinc C 0 rfl (v := nI (i + 1)) (lv' := [(4, .int (nI (i + 1))), (0, .ref (ad23 85)), (1, .int (nI cnt)), (2, .ref (ad23 n)), (3, .ref (ad23 (n + 1)))]) dX5_run_51 (nI_add _ _) (by decide) rfl ?_
      refine g_goto C (tgt := 23) dX5_run_54 (by decide) ?_
      refine g_lv [0, 1, 2, 3, 4] (lv' := [(4, .int (nI (i + 1))), (0, .ref (ad23 85)), (1, .int (nI cnt)), (2, .ref (ad23 n)), (3, .ref (ad23 (n + 1)))]) rfl ?_
      exact ih _ ⟨⟨_, m144, fun q hq => by
          (try dsimp only)
          by_cases e : q = i
          · subst e; rw [va_up_self]
          · rw [va_up_ne _ _ e]; exact a2 q (by omega)⟩, ⟨_, e139, fun q hq => by
          (try dsimp only)
          by_cases e : q = i
          · subst e; rw [va_up_self]
          · rw [va_up_ne _ _ e]; exact b2 q (by omega)⟩, fun j hj => (o140 j (by omega)).trans ((o114 j (by omega)).trans (b3 j hj))⟩
