/-! ===== the law's own machine: what it tells of a sheet ===== -/
section GF2
variable {p : Program} {l : Launch} {e : Env} {R : Room} {s : State} {m : MethodId} {args : Array Value} {below : List Frame} {meth : Method} {c : Code} {V : gT} {A : Nat → Prop} {nL : Nat} {Q : State → Prop} {n : Nat} {ad : Nat → Nat} {el : Nat → va_E} {cells slots pc : Nat} {lv : List (Nat × Value)} {st : List Value}
/-- a loop that makes cells and forgets them -/
theorem g_forC (N : Nat) (cf sf : Nat → Nat) (lvf : Nat → List (Nat × Value)) (hx : GW p l e R s m args below meth c V A nL Q n ad el (cf N) (sf N) pc (lvf N) st) (hs : ∀ i, i < N → GW p l e R s m args below meth c V A nL Q n ad el (cf (i + 1)) (sf (i + 1)) pc (lvf (i + 1)) st → GW p l e R s m args below meth c V A nL Q n ad el (cf i) (sf i) pc (lvf i) st) : GW p l e R s m args below meth c V A nL Q n ad el (cf 0) (sf 0) pc (lvf 0) st :=
  g_down (fun i => GW p l e R s m args below meth c V A nL Q n ad el (cf i) (sf i) pc (lvf i) st) N hx hs 0 (Nat.zero_le _)
end GF2
set_option maxRecDepth 100000 in
theorem rem2_a : ∀ w, w < 32 → nI w - nI w / 2 * 2 = if nI w &&& 1 = 0 then 0 else 1 := by decide +kernel
theorem rem2 {x : Int32} (h : F32 x) : x - x / 2 * 2 = if x &&& 1 = 0 then 0 else 1 := by
  obtain ⟨w, hw, rfl⟩ := h
  exact rem2_a w hw
set_option maxRecDepth 100000 in
theorem inv8_a : ∀ w, w < 32 → ∀ v, v < 32 → (nI w / 8 - nI w / 8 / 2 * 2 = nI v / 8 - nI v / 8 / 2 * 2 ↔ (nI w ^^^ nI v) &&& 8 = 0) := by decide +kernel
theorem inv8 {x y : Int32} (h : F32 x) (h2 : F32 y) : x / 8 - x / 8 / 2 * 2 = y / 8 - y / 8 / 2 * 2 ↔ (x ^^^ y) &&& 8 = 0 := by
  obtain ⟨w, hw, rfl⟩ := h
  obtain ⟨v, hv, rfl⟩ := h2
  exact inv8_a w hw v hv
theorem pr_end (f t : Nat → Int32) (i : Nat) (a : Int32) : s_acc (fun c => if c < 5 then s_pr (f (6 * i + c)) (t (6 * i + c)) (f (6 * i + c + 1)) (t (6 * i + c + 1)) else 0) a 6 = s_acc (fun c => s_pr (f (6 * i + c)) (t (6 * i + c)) (f (6 * i + c + 1)) (t (6 * i + c + 1))) a 5 := by
  simp [s_acc]
/-- whether the column q is clean in the k rows from the row a on -/
def s_clf (f t : Nat → Int32) (a : Nat) : Nat → Nat → Int32
  | 0, _ => 1
  | k + 1, q => if s_clf f t a k q = 0 then 0 else if t (6 * (a + k) + q) = 0 ∧ f (6 * (a + k) + q) = 0 then 1 else 0
theorem s_clf_nar (f t : Nat → Int32) (a q : Nat) : ∀ k, vp_nar .boolean (s_clf f t a k q) = s_clf f t a k q
  | 0 => by rw [s_clf]; rfl
  | k + 1 => by
    unfold s_clf
    split
    · rfl
    · split <;> rfl
theorem s_clf_iff (f t : Nat → Int32) (a q : Nat) : ∀ k, ¬ s_clf f t a k q = 0 ↔ ∀ r, a ≤ r → r < a + k → t (6 * r + q) = 0 ∧ f (6 * r + q) = 0
  | 0 => ⟨fun _ r h1 h2 => absurd h2 (by omega), fun _ z => absurd z (by rw [s_clf]; decide)⟩
  | k + 1 => by
    have ih := s_clf_iff f t a q k
    rw [s_clf]
    by_cases e : s_clf f t a k q = 0
    · rw [if_pos e]
      exact ⟨fun z => absurd rfl z, fun z => absurd e (ih.mpr (fun r h1 h2 => z r h1 (by omega)))⟩
    · rw [if_neg e]
      by_cases e2 : t (6 * (a + k) + q) = 0 ∧ f (6 * (a + k) + q) = 0
      · rw [if_pos e2]
        refine ⟨fun _ r h1 h2 => ?_, fun _ z => absurd z (by decide)⟩
        by_cases e3 : r = a + k
        · subst e3; exact e2
        · exact (ih.mp e) r h1 (by omega)
      · rw [if_neg e2]
        exact ⟨fun z => absurd rfl z, fun z => absurd (z (a + k) (by omega) (by omega)) e2⟩
set_option maxRecDepth 100000 in
theorem bit_a : ∀ w, w < 64 → ∀ q, q < 6 → (nI w &&& ((1 : Int32) <<< (nI q &&& 31)) = 0 ↔ w.testBit q = false) := by decide +kernel
theorem s_clf_bit (f t : Nat → Int32) (a k : Nat) {q : Nat} (hq : q < 6) : s_clf f t a (k + 1) q = 0 ↔ s_cols f t a (k + 1) &&& ((1 : Int32) <<< (nI q &&& 31)) = 0 := by
  obtain ⟨w, hw, e, hb⟩ := s_cols_w f t a (k + 1)
  rw [e, bit_a w hw q hq]
  have h1 := hb q hq
  have h2 := s_clf_iff f t a q (k + 1)
  constructor
  · intro z
    cases h3 : w.testBit q with
    | false => rfl
    | true => exact absurd z (h2.mpr (h1.mp h3).2)
  · intro z
    by_cases h4 : s_clf f t a (k + 1) q = 0
    · exact h4
    · have h5 := h2.mp h4
      have h6 := h1.mpr ⟨h5 a (by omega) (by omega), h5⟩
      rw [z] at h6
      exact absurd h6 (by decide)
theorem s_run_n (b : Int32) : ∀ c, ∃ r, r ≤ c ∧ s_run b c = nI r
  | 0 => ⟨0, by omega, rfl⟩
  | c + 1 => by
    obtain ⟨r, hr, e⟩ := s_run_n b c
    rw [s_run]
    by_cases h : b &&& ((1 : Int32) <<< (nI c &&& 31)) = 0
    · rw [if_pos h]; exact ⟨0, by omega, rfl⟩
    · rw [if_neg h, e]; exact ⟨r + 1, by omega, nI_1 r⟩
theorem s_max_n {a b : Nat} (ha : a < 2 ^ 31) (hb : b < 2 ^ 31) : s_max (nI a) (nI b) = nI (max a b) := by
  unfold s_max
  by_cases h : a < b
  · rw [if_pos (nI_lt h hb), Nat.max_eq_right (by omega)]
  · rw [if_neg (nI_nlt (by omega) ha), Nat.max_eq_left (by omega)]
theorem s_longest_n (b : Int32) : ∀ c, c ≤ 6 → ∃ r, r ≤ c ∧ s_longest b c = nI r
  | 0, _ => ⟨0, by omega, rfl⟩
  | c + 1, hc => by
    obtain ⟨r, hr, e⟩ := s_longest_n b c (by omega)
    obtain ⟨v, hv, e2⟩ := s_run_n b (c + 1)
    exact ⟨max r v, by omega, by rw [s_longest, e, e2, s_max_n (by omega) (by omega)]⟩
theorem blk_step (D b : Int32) (k j : Nat) (hk : k ≤ 5) (hj : j < 6) : s_max (s_max D (nI k * s_longest b j)) (s_run b (j + 1) * nI k) = s_max D (nI k * s_longest b (j + 1)) := by
  obtain ⟨r, hr, e⟩ := s_longest_n b j (by omega)
  obtain ⟨v, hv, e2⟩ := s_run_n b (j + 1)
  rw [s_max_assoc, s_longest, e, e2, s_max_n (by omega) (by omega), pk_mul, pk_mul, pk_mul]
  have b1 : k * r ≤ 5 * 6 := Nat.mul_le_mul hk (by omega)
  have b2 : v * k ≤ 6 * 5 := Nat.mul_le_mul (by omega) hk
  rw [s_max_n (by omega) (by omega)]
  congr 2
  rw [Nat.mul_comm v k]
  by_cases h : r ≤ v
  · rw [Nat.max_eq_right h, Nat.max_eq_right (Nat.mul_le_mul_left k h)]
  · have h2 : v ≤ r := by omega
    rw [Nat.max_eq_left h2, Nat.max_eq_left (Nat.mul_le_mul_left k h2)]
theorem blk_0 {D : Int32} (b : Int32) (k : Nat) (h : 0 ≤ D) : s_max D (nI k * s_longest b 0) = D := by
  have e : nI k * s_longest b 0 = 0 := by
    show nI k * nI 0 = nI 0
    rw [pk_mul]
    exact congrArg nI (Nat.mul_zero k)
  rw [e]
  exact s_max_0 h

set_option maxHeartbeats 4000000 in
set_option maxRecDepth 100000 in
theorem c_X5_told (l : Launch) (V : gT) {n : Nat} {ad : Nat → Nat} {el : Nat → va_E} {B cnt : Nat} {M St We pl : Nat → Int32} {F T : Nat → Nat → Int32} (hB : 97 ≤ B) (hc : cnt ≤ 20) (hn : B + 12 * cnt ≤ n) (hs : SimAt V ad el B cnt M St We pl F T) (k : Nat) (hk : k < cnt) (w : Nat) (hw : w < 6) (hF : ∀ j, j < 30 → F32 (F k j)) : TT l V yX5_told wsX5_told { frames := 1, cells := 5, slots := 30, locals := 24 } n ad el [.ref (ad 85), .int (nI k), .int (nI w)] (QIr V n ad el (fun r => r = s_sheet (F k) (T k) (nI w))) 5 30 := by
  refine TT.body (cc := cX5_told) (maxL := 10) (ret := (some .int)) (by decide) rfl (Nat.le_of_ble_eq_true rfl) ?_
  intro p e s m below meth c C hnm
  refine g_lv [0, 1, 2] (lv' := [(0, .ref (ad 85)), (1, .int (nI k)), (2, .int (nI w))]) rfl ?_
  obtain ⟨y1, y2, y3, y4, y5, y6, y7, y8⟩ := id hs
  obtain ⟨g9, h10, z11⟩ := id y6
  obtain ⟨g12, h13, z14⟩ := id y7
  rcases (show w = 0 ∨ w = 1 ∨ w = 2 ∨ w = 3 ∨ w = 4 ∨ w = 5 by omega) with rfl | rfl | rfl | rfl | rfl | rfl
  · -- what = 0
    refine g_iconst C (v := nI 0) dX5_told_0 (by decide) ?_
    refine g_istore_n C (lv' := [(3, .int (nI 0)), (0, .ref (ad 85)), (1, .int (nI k)), (2, .int (nI 0))]) dX5_told_1 (by decide) rfl ?_
    refine g_iconst C (v := nI 0) dX5_told_2 (by decide) ?_
    refine g_istore C (lv' := [(4, .int (nI 0)), (3, .int (nI 0)), (0, .ref (ad 85)), (1, .int (nI k)), (2, .int (nI 0))]) dX5_told_3 (by decide) rfl ?_
    refine g_lv [0, 1, 2, 3, 4] (lv' := [(4, .int (nI 0)), (3, .int (nI 0)), (0, .ref (ad 85)), (1, .int (nI k)), (2, .int (nI 0))]) rfl ?_
    refine g_for 5 (fun (i : Nat) => [(4, .int (nI i)), (3, .int (s_sum (fun j => if T k j = 0 then 1 else 0) (6 * i))), (0, .ref (ad 85)), (1, .int (nI k)), (2, .int (nI 0))]) ?_ (fun i hi ih => ?_)
    · -- loop 5: its end
      refine g_iload C 0 rfl dX5_told_5 ?_
      refine g_iconst C (v := nI 5) dX5_told_7 (by decide) ?_
      refine g_icmp_ge C (tgt := 207) dX5_told_8 (by decide) (fun c8 => ?_) (fun c8 => ?_)
      rotate_left
      · exact absurd c8 (by decide)
      refine g_iload_n C 4 rfl dX5_told_207 ?_
      refine g_iconst C (v := nI 5) dX5_told_208 (by decide) ?_
      refine g_icmp_ge C (tgt := 214) dX5_told_209 (by decide) (fun c209 => ?_) (fun c209 => ?_)
      · exact absurd c209 (by decide)
      refine g_iload_n C 1 rfl dX5_told_212 ?_
      exact g_iret C rfl dX5_told_213 () rfl rfl rfl (by rw [s_sheet, if_pos (by decide)] <;> rfl) (by omega) (by omega)
    · -- loop 5: its body
      refine g_iload C 0 rfl dX5_told_5 ?_
      refine g_iconst C (v := nI 5) dX5_told_7 (by decide) ?_
      refine g_icmp_ge C (tgt := 207) dX5_told_8 (by decide) (fun c8 => ?_) (fun c8 => ?_)
      · -- 207
        have c8 : 5 ≤ i := (nI_leI (by omega) (by omega)).mp c8
        exact absurd c8 (by omega)
      · -- 11
        have c8 : i < 5 := Nat.lt_of_not_le (fun z => c8 ((nI_leI (by omega) (by omega)).mpr z))
        refine g_iload_n C 4 rfl dX5_told_11 ?_
        refine g_iconst C (v := nI 4) dX5_told_12 (by decide) ?_
        refine g_icmp_ne C (tgt := 32) dX5_told_13 (by decide) (fun c13 => ?_) (fun c13 => ?_)
        rotate_left
        · exact absurd c13 (by decide)
        refine g_iconst C (v := nI 0) dX5_told_32 (by decide) ?_
        refine g_istore C (lv' := [(5, .int (nI 0)), (4, .int (nI i)), (3, .int (s_sum (fun j => if T k j = 0 then 1 else 0) (6 * i))), (0, .ref (ad 85)), (1, .int (nI k)), (2, .int (nI 0))]) dX5_told_33 (by decide) rfl ?_
        refine g_lv [0, 2, 3, 4, 5, 1] (lv' := [(5, .int (nI 0)), (3, .int (s_sum (fun j => if T k j = 0 then 1 else 0) (6 * i))), (0, .ref (ad 85)), (1, .int (nI k)), (2, .int (nI 0)), (4, .int (nI i))]) rfl ?_
        refine g_for 6 (fun (j : Nat) => [(5, .int (nI j)), (3, .int (s_sum (fun j => if T k j = 0 then 1 else 0) (6 * i + j))), (0, .ref (ad 85)), (1, .int (nI k)), (2, .int (nI 0)), (4, .int (nI i))]) ?_ (fun j hj jh => ?_)
        · -- loop 35: its end
          refine g_iload C 0 rfl dX5_told_35 ?_
          refine g_bipush C (v := nI 6) dX5_told_37 (by decide) ?_
          refine g_icmp_ge C (tgt := 201) dX5_told_39 (by decide) (fun c39 => ?_) (fun c39 => ?_)
          rotate_left
          · exact absurd c39 (by decide)
          refine g_iinc C 5 rfl (v := nI (i + 1)) (lv' := [(4, .int (nI (i + 1))), (5, .int (nI 6)), (3, .int (s_sum (fun j => if T k j = 0 then 1 else 0) (6 * i + 6))), (0, .ref (ad 85)), (1, .int (nI k)), (2, .int (nI 0))]) dX5_told_201 (nI_add _ _) (by decide) rfl ?_
          refine g_goto C (tgt := 5) dX5_told_204 (by decide) ?_
          refine g_lv [0, 2, 3, 4, 5] (lv' := [(4, .int (nI (i + 1))), (3, .int (s_sum (fun j => if T k j = 0 then 1 else 0) (6 * i + 6))), (0, .ref (ad 85)), (1, .int (nI k)), (2, .int (nI 0))]) rfl ?_
          refine g_lveq (lv' := [(4, .int (nI (i + 1))), (3, .int (s_sum (fun j => if T k j = 0 then 1 else 0) (6 * (i + 1)))), (0, .ref (ad 85)), (1, .int (nI k)), (2, .int (nI 0))]) (rfl) ?_
          exact ih
        · -- loop 35: its body
          refine g_iload C 0 rfl dX5_told_35 ?_
          refine g_bipush C (v := nI 6) dX5_told_37 (by decide) ?_
          refine g_icmp_ge C (tgt := 201) dX5_told_39 (by decide) (fun c39 => ?_) (fun c39 => ?_)
          · -- 201
            have c39 : 6 ≤ j := (nI_leI (by omega) (by omega)).mp c39
            exact absurd c39 (by omega)
          · -- 42
            have c39 : j < 6 := Nat.lt_of_not_le (fun z => c39 ((nI_leI (by omega) (by omega)).mpr z))
            refine g_aload_n C 2 rfl dX5_told_42 ?_
            refine g_getf C 85 (by omega) y1 rfl 11 (by decide) (fun w h => (List.mem_cons_of_mem _ (List.mem_append_right _ h))) (List.mem_of_getElem? (i := 2) rfl) rfl rfl dX5_told_43 ?_
            refine g_iload_n C 3 rfl dX5_told_46 ?_
            refine g_aaldA C 96 (by omega) 2 rfl h13 k rfl (by omega) (by omega) (z14 k (by omega)) dX5_told_47 ?_
            obtain ⟨⟨g15, h16, z17⟩, r18⟩ := id (y8 k (by omega)).2
            refine g_iload C 5 rfl dX5_told_48 ?_
            refine g_aaldA C (B + 12 * k + 6) (by omega) 6 rfl h16 i rfl (by omega) (by decide) (z17 i (by omega)) dX5_told_50 ?_
            obtain ⟨g19, h20, z21⟩ := id (r18 i (by omega))
            refine g_iload C 0 rfl dX5_told_51 ?_
            refine g_zald C (B + 12 * k + 7 + i) (by omega) h20 j rfl (by omega) (by decide) dX5_told_53 ?_
            refine g_top ((z21 j (by omega)) : g19 j = T k (6 * i + j)) ?_
            refine g_istore C (lv' := [(6, .int (T k (6 * i + j))), (5, .int (nI j)), (3, .int (s_sum (fun j => if T k j = 0 then 1 else 0) (6 * i + j))), (0, .ref (ad 85)), (1, .int (nI k)), (2, .int (nI 0)), (4, .int (nI i))]) dX5_told_54 (by decide) rfl ?_
            refine g_aload_n C 3 rfl dX5_told_56 ?_
            refine g_getf C 85 (by omega) y1 rfl 10 (by decide) (fun w h => (List.mem_cons_of_mem _ (List.mem_append_right _ h))) (List.mem_of_getElem? (i := 1) rfl) rfl rfl dX5_told_57 ?_
            refine g_iload_n C 4 rfl dX5_told_60 ?_
            refine g_aaldA C 95 (by omega) 7 rfl h10 k rfl (by omega) (by omega) (z11 k (by omega)) dX5_told_61 ?_
            obtain ⟨⟨g22, h23, z24⟩, r25⟩ := id (y8 k (by omega)).1
            refine g_iload C 6 rfl dX5_told_62 ?_
            refine g_aaldA C (B + 12 * k) (by omega) 5 rfl h23 i rfl (by omega) (by decide) (z24 i (by omega)) dX5_told_64 ?_
            obtain ⟨g26, h27, z28⟩ := id (r25 i (by omega))
            refine g_iload C 1 rfl dX5_told_65 ?_
            refine g_iald C (B + 12 * k + 1 + i) (by omega) h27 j rfl (by omega) (by decide) dX5_told_67 ?_
            refine g_top ((z28 j (by omega)) : g26 j = F k (6 * i + j)) ?_
            refine g_istore C (lv' := [(7, .int (F k (6 * i + j))), (6, .int (T k (6 * i + j))), (5, .int (nI j)), (3, .int (s_sum (fun j => if T k j = 0 then 1 else 0) (6 * i + j))), (0, .ref (ad 85)), (1, .int (nI k)), (2, .int (nI 0)), (4, .int (nI i))]) dX5_told_68 (by decide) rfl ?_
            refine g_iload_n C 6 rfl dX5_told_70 ?_
            refine g_if_ne C (tgt := 87) dX5_told_71 (by decide) (fun c71 => ?_) (fun c71 => ?_)
            · exact absurd c71 (by decide)
            refine g_iload_n C 3 rfl dX5_told_74 ?_
            refine g_iload C 1 rfl dX5_told_75 ?_
            refine g_via (fun v : Int32 => v = if T k (6 * i + j) = 0 then 1 else 0) 85 (fun _ => [(7, .int (F k (6 * i + j))), (6, .int (T k (6 * i + j))), (5, .int (nI j)), (3, .int (s_sum (fun j => if T k j = 0 then 1 else 0) (6 * i + j))), (0, .ref (ad 85)), (1, .int (nI k)), (2, .int (nI 0)), (4, .int (nI i))]) (fun v => .int v :: [.int (s_sum (fun j => if T k j = 0 then 1 else 0) (6 * i + j))]) (fun v hv => ?_) (fun J => ?_)
            · -- join
              subst hv
              refine g_iadd C (v := (s_sum (fun j => if T k j = 0 then 1 else 0) (6 * i + j)) + (if T k (6 * i + j) = 0 then 1 else 0)) dX5_told_85 rfl ?_
              refine g_istore_n C (lv' := [(3, .int ((s_sum (fun j => if T k j = 0 then 1 else 0) (6 * i + j)) + (if T k (6 * i + j) = 0 then 1 else 0))), (7, .int (F k (6 * i + j))), (6, .int (T k (6 * i + j))), (5, .int (nI j)), (0, .ref (ad 85)), (1, .int (nI k)), (2, .int (nI 0)), (4, .int (nI i))]) dX5_told_86 (by decide) rfl ?_
              refine g_iload_n C 6 rfl dX5_told_87 ?_
              refine g_iconst C (v := nI 1) dX5_told_88 (by decide) ?_
              refine g_icmp_ne C (tgt := 110) dX5_told_89 (by decide) (fun c89 => ?_) (fun c89 => ?_)
              rotate_left
              · exact absurd c89 (by decide)
              refine g_iload_n C 6 rfl dX5_told_110 ?_
              refine g_iconst C (v := nI 2) dX5_told_111 (by decide) ?_
              refine g_icmp_ne C (tgt := 125) dX5_told_112 (by decide) (fun c112 => ?_) (fun c112 => ?_)
              rotate_left
              · exact absurd c112 (by decide)
              refine g_iload_n C 6 rfl dX5_told_125 ?_
              refine g_iconst C (v := nI 3) dX5_told_126 (by decide) ?_
              refine g_icmp_ne C (tgt := 195) dX5_told_127 (by decide) (fun c127 => ?_) (fun c127 => ?_)
              rotate_left
              · exact absurd c127 (by decide)
              refine g_iinc C 3 rfl (v := nI (j + 1)) (lv' := [(5, .int (nI (j + 1))), (3, .int ((s_sum (fun j => if T k j = 0 then 1 else 0) (6 * i + j)) + (if T k (6 * i + j) = 0 then 1 else 0))), (7, .int (F k (6 * i + j))), (6, .int (T k (6 * i + j))), (0, .ref (ad 85)), (1, .int (nI k)), (2, .int (nI 0)), (4, .int (nI i))]) dX5_told_195 (nI_add _ _) (by decide) rfl ?_
              refine g_goto C (tgt := 35) dX5_told_198 (by decide) ?_
              refine g_lv [0, 1, 4, 5, 6, 7] (lv' := [(5, .int (nI (j + 1))), (3, .int ((s_sum (fun j => if T k j = 0 then 1 else 0) (6 * i + j)) + (if T k (6 * i + j) = 0 then 1 else 0))), (0, .ref (ad 85)), (1, .int (nI k)), (2, .int (nI 0)), (4, .int (nI i))]) rfl ?_
              have e9 : s_sum (fun j => if T k j = 0 then 1 else 0) (6 * i + (j + 1)) = (s_sum (fun j => if T k j = 0 then 1 else 0) (6 * i + j)) + (if T k (6 * i + j) = 0 then 1 else 0) := rfl
              refine g_lveq (lv' := [(5, .int (nI (j + 1))), (3, .int (s_sum (fun j => if T k j = 0 then 1 else 0) (6 * i + (j + 1)))), (0, .ref (ad 85)), (1, .int (nI k)), (2, .int (nI 0)), (4, .int (nI i))]) (by rw [e9]) ?_
              exact jh
            · -- ways
              refine g_if_eq C (tgt := 84) dX5_told_77 (by decide) (fun c77 => ?_) (fun c77 => ?_)
              · -- 84
                refine g_iconst C (v := nI 1) dX5_told_84 (by decide) ?_
                refine g_lv [0, 1, 2, 3, 4, 5, 6, 7] (lv' := [(7, .int (F k (6 * i + j))), (6, .int (T k (6 * i + j))), (5, .int (nI j)), (3, .int (s_sum (fun j => if T k j = 0 then 1 else 0) (6 * i + j))), (0, .ref (ad 85)), (1, .int (nI k)), (2, .int (nI 0)), (4, .int (nI i))]) rfl ?_
                exact J _ ((if_pos c77).symm)
              · -- 80
                refine g_iconst C (v := nI 0) dX5_told_80 (by decide) ?_
                refine g_goto C (tgt := 85) dX5_told_81 (by decide) ?_
                refine g_lv [0, 1, 2, 3, 4, 5, 6, 7] (lv' := [(7, .int (F k (6 * i + j))), (6, .int (T k (6 * i + j))), (5, .int (nI j)), (3, .int (s_sum (fun j => if T k j = 0 then 1 else 0) (6 * i + j))), (0, .ref (ad 85)), (1, .int (nI k)), (2, .int (nI 0)), (4, .int (nI i))]) rfl ?_
                exact J _ ((if_neg c77).symm)
  · -- what = 1
    refine g_iconst C (v := nI 0) dX5_told_0 (by decide) ?_
    refine g_istore_n C (lv' := [(3, .int (nI 0)), (0, .ref (ad 85)), (1, .int (nI k)), (2, .int (nI 1))]) dX5_told_1 (by decide) rfl ?_
    refine g_iconst C (v := nI 0) dX5_told_2 (by decide) ?_
    refine g_istore C (lv' := [(4, .int (nI 0)), (3, .int (nI 0)), (0, .ref (ad 85)), (1, .int (nI k)), (2, .int (nI 1))]) dX5_told_3 (by decide) rfl ?_
    refine g_lv [0, 1, 2, 3, 4] (lv' := [(4, .int (nI 0)), (3, .int (nI 0)), (0, .ref (ad 85)), (1, .int (nI k)), (2, .int (nI 1))]) rfl ?_
    refine g_for 5 (fun (i : Nat) => [(4, .int (nI i)), (3, .int (s_sum (fun j => s_lw (F k j) (T k j) 0) (6 * i))), (0, .ref (ad 85)), (1, .int (nI k)), (2, .int (nI 1))]) ?_ (fun i hi ih => ?_)
    · -- loop 5: its end
      refine g_iload C 0 rfl dX5_told_5 ?_
      refine g_iconst C (v := nI 5) dX5_told_7 (by decide) ?_
      refine g_icmp_ge C (tgt := 207) dX5_told_8 (by decide) (fun c8 => ?_) (fun c8 => ?_)
      rotate_left
      · exact absurd c8 (by decide)
      refine g_iload_n C 4 rfl dX5_told_207 ?_
      refine g_iconst C (v := nI 5) dX5_told_208 (by decide) ?_
      refine g_icmp_ge C (tgt := 214) dX5_told_209 (by decide) (fun c209 => ?_) (fun c209 => ?_)
      · exact absurd c209 (by decide)
      refine g_iload_n C 1 rfl dX5_told_212 ?_
      exact g_iret C rfl dX5_told_213 () rfl rfl rfl (by rw [s_sheet, if_neg (by decide), if_pos (by decide)] <;> rfl) (by omega) (by omega)
    · -- loop 5: its body
      refine g_iload C 0 rfl dX5_told_5 ?_
      refine g_iconst C (v := nI 5) dX5_told_7 (by decide) ?_
      refine g_icmp_ge C (tgt := 207) dX5_told_8 (by decide) (fun c8 => ?_) (fun c8 => ?_)
      · -- 207
        have c8 : 5 ≤ i := (nI_leI (by omega) (by omega)).mp c8
        exact absurd c8 (by omega)
      · -- 11
        have c8 : i < 5 := Nat.lt_of_not_le (fun z => c8 ((nI_leI (by omega) (by omega)).mpr z))
        refine g_iload_n C 4 rfl dX5_told_11 ?_
        refine g_iconst C (v := nI 4) dX5_told_12 (by decide) ?_
        refine g_icmp_ne C (tgt := 32) dX5_told_13 (by decide) (fun c13 => ?_) (fun c13 => ?_)
        rotate_left
        · exact absurd c13 (by decide)
        refine g_iconst C (v := nI 0) dX5_told_32 (by decide) ?_
        refine g_istore C (lv' := [(5, .int (nI 0)), (4, .int (nI i)), (3, .int (s_sum (fun j => s_lw (F k j) (T k j) 0) (6 * i))), (0, .ref (ad 85)), (1, .int (nI k)), (2, .int (nI 1))]) dX5_told_33 (by decide) rfl ?_
        refine g_lv [0, 2, 3, 4, 5, 1] (lv' := [(5, .int (nI 0)), (3, .int (s_sum (fun j => s_lw (F k j) (T k j) 0) (6 * i))), (0, .ref (ad 85)), (1, .int (nI k)), (2, .int (nI 1)), (4, .int (nI i))]) rfl ?_
        refine g_for 6 (fun (j : Nat) => [(5, .int (nI j)), (3, .int (s_sum (fun j => s_lw (F k j) (T k j) 0) (6 * i + j))), (0, .ref (ad 85)), (1, .int (nI k)), (2, .int (nI 1)), (4, .int (nI i))]) ?_ (fun j hj jh => ?_)
        · -- loop 35: its end
          refine g_iload C 0 rfl dX5_told_35 ?_
          refine g_bipush C (v := nI 6) dX5_told_37 (by decide) ?_
          refine g_icmp_ge C (tgt := 201) dX5_told_39 (by decide) (fun c39 => ?_) (fun c39 => ?_)
          rotate_left
          · exact absurd c39 (by decide)
          refine g_iinc C 5 rfl (v := nI (i + 1)) (lv' := [(4, .int (nI (i + 1))), (5, .int (nI 6)), (3, .int (s_sum (fun j => s_lw (F k j) (T k j) 0) (6 * i + 6))), (0, .ref (ad 85)), (1, .int (nI k)), (2, .int (nI 1))]) dX5_told_201 (nI_add _ _) (by decide) rfl ?_
          refine g_goto C (tgt := 5) dX5_told_204 (by decide) ?_
          refine g_lv [0, 2, 3, 4, 5] (lv' := [(4, .int (nI (i + 1))), (3, .int (s_sum (fun j => s_lw (F k j) (T k j) 0) (6 * i + 6))), (0, .ref (ad 85)), (1, .int (nI k)), (2, .int (nI 1))]) rfl ?_
          refine g_lveq (lv' := [(4, .int (nI (i + 1))), (3, .int (s_sum (fun j => s_lw (F k j) (T k j) 0) (6 * (i + 1)))), (0, .ref (ad 85)), (1, .int (nI k)), (2, .int (nI 1))]) (rfl) ?_
          exact ih
        · -- loop 35: its body
          refine g_iload C 0 rfl dX5_told_35 ?_
          refine g_bipush C (v := nI 6) dX5_told_37 (by decide) ?_
          refine g_icmp_ge C (tgt := 201) dX5_told_39 (by decide) (fun c39 => ?_) (fun c39 => ?_)
          · -- 201
            have c39 : 6 ≤ j := (nI_leI (by omega) (by omega)).mp c39
            exact absurd c39 (by omega)
          · -- 42
            have c39 : j < 6 := Nat.lt_of_not_le (fun z => c39 ((nI_leI (by omega) (by omega)).mpr z))
            refine g_aload_n C 2 rfl dX5_told_42 ?_
            refine g_getf C 85 (by omega) y1 rfl 11 (by decide) (fun w h => (List.mem_cons_of_mem _ (List.mem_append_right _ h))) (List.mem_of_getElem? (i := 2) rfl) rfl rfl dX5_told_43 ?_
            refine g_iload_n C 3 rfl dX5_told_46 ?_
            refine g_aaldA C 96 (by omega) 2 rfl h13 k rfl (by omega) (by omega) (z14 k (by omega)) dX5_told_47 ?_
            obtain ⟨⟨g29, h30, z31⟩, r32⟩ := id (y8 k (by omega)).2
            refine g_iload C 5 rfl dX5_told_48 ?_
            refine g_aaldA C (B + 12 * k + 6) (by omega) 6 rfl h30 i rfl (by omega) (by decide) (z31 i (by omega)) dX5_told_50 ?_
            obtain ⟨g33, h34, z35⟩ := id (r32 i (by omega))
            refine g_iload C 0 rfl dX5_told_51 ?_
            refine g_zald C (B + 12 * k + 7 + i) (by omega) h34 j rfl (by omega) (by decide) dX5_told_53 ?_
            refine g_top ((z35 j (by omega)) : g33 j = T k (6 * i + j)) ?_
            refine g_istore C (lv' := [(6, .int (T k (6 * i + j))), (5, .int (nI j)), (3, .int (s_sum (fun j => s_lw (F k j) (T k j) 0) (6 * i + j))), (0, .ref (ad 85)), (1, .int (nI k)), (2, .int (nI 1)), (4, .int (nI i))]) dX5_told_54 (by decide) rfl ?_
            refine g_aload_n C 3 rfl dX5_told_56 ?_
            refine g_getf C 85 (by omega) y1 rfl 10 (by decide) (fun w h => (List.mem_cons_of_mem _ (List.mem_append_right _ h))) (List.mem_of_getElem? (i := 1) rfl) rfl rfl dX5_told_57 ?_
            refine g_iload_n C 4 rfl dX5_told_60 ?_
            refine g_aaldA C 95 (by omega) 7 rfl h10 k rfl (by omega) (by omega) (z11 k (by omega)) dX5_told_61 ?_
            obtain ⟨⟨g36, h37, z38⟩, r39⟩ := id (y8 k (by omega)).1
            refine g_iload C 6 rfl dX5_told_62 ?_
            refine g_aaldA C (B + 12 * k) (by omega) 5 rfl h37 i rfl (by omega) (by decide) (z38 i (by omega)) dX5_told_64 ?_
            obtain ⟨g40, h41, z42⟩ := id (r39 i (by omega))
            refine g_iload C 1 rfl dX5_told_65 ?_
            refine g_iald C (B + 12 * k + 1 + i) (by omega) h41 j rfl (by omega) (by decide) dX5_told_67 ?_
            refine g_top ((z42 j (by omega)) : g40 j = F k (6 * i + j)) ?_
            refine g_istore C (lv' := [(7, .int (F k (6 * i + j))), (6, .int (T k (6 * i + j))), (5, .int (nI j)), (3, .int (s_sum (fun j => s_lw (F k j) (T k j) 0) (6 * i + j))), (0, .ref (ad 85)), (1, .int (nI k)), (2, .int (nI 1)), (4, .int (nI i))]) dX5_told_68 (by decide) rfl ?_
            refine g_iload_n C 6 rfl dX5_told_70 ?_
            refine g_if_ne C (tgt := 87) dX5_told_71 (by decide) (fun c71 => ?_) (fun c71 => ?_)
            rotate_left
            · exact absurd c71 (by decide)
            refine g_iload_n C 6 rfl dX5_told_87 ?_
            refine g_iconst C (v := nI 1) dX5_told_88 (by decide) ?_
            refine g_icmp_ne C (tgt := 110) dX5_told_89 (by decide) (fun c89 => ?_) (fun c89 => ?_)
            · exact absurd c89 (by decide)
            refine g_iload_n C 3 rfl dX5_told_92 ?_
            refine g_iload C 1 rfl dX5_told_93 ?_
            refine g_via (fun v : Int32 => v = s_lw (F k (6 * i + j)) (T k (6 * i + j)) 0) 108 (fun _ => [(7, .int (F k (6 * i + j))), (6, .int (T k (6 * i + j))), (5, .int (nI j)), (3, .int (s_sum (fun j => s_lw (F k j) (T k j) 0) (6 * i + j))), (0, .ref (ad 85)), (1, .int (nI k)), (2, .int (nI 1)), (4, .int (nI i))]) (fun v => .int v :: [.int (s_sum (fun j => s_lw (F k j) (T k j) 0) (6 * i + j))]) (fun v hv => ?_) (fun J => ?_)
            · -- join
              subst hv
              refine g_iadd C (v := (s_sum (fun j => s_lw (F k j) (T k j) 0) (6 * i + j)) + (s_lw (F k (6 * i + j)) (T k (6 * i + j)) 0)) dX5_told_108 rfl ?_
              refine g_istore_n C (lv' := [(3, .int ((s_sum (fun j => s_lw (F k j) (T k j) 0) (6 * i + j)) + (s_lw (F k (6 * i + j)) (T k (6 * i + j)) 0))), (7, .int (F k (6 * i + j))), (6, .int (T k (6 * i + j))), (5, .int (nI j)), (0, .ref (ad 85)), (1, .int (nI k)), (2, .int (nI 1)), (4, .int (nI i))]) dX5_told_109 (by decide) rfl ?_
              refine g_iload_n C 6 rfl dX5_told_110 ?_
              refine g_iconst C (v := nI 2) dX5_told_111 (by decide) ?_
              refine g_icmp_ne C (tgt := 125) dX5_told_112 (by decide) (fun c112 => ?_) (fun c112 => ?_)
              rotate_left
              · exact absurd c112 (by decide)
              refine g_iload_n C 6 rfl dX5_told_125 ?_
              refine g_iconst C (v := nI 3) dX5_told_126 (by decide) ?_
              refine g_icmp_ne C (tgt := 195) dX5_told_127 (by decide) (fun c127 => ?_) (fun c127 => ?_)
              rotate_left
              · exact absurd c127 (by decide)
              refine g_iinc C 3 rfl (v := nI (j + 1)) (lv' := [(5, .int (nI (j + 1))), (3, .int ((s_sum (fun j => s_lw (F k j) (T k j) 0) (6 * i + j)) + (s_lw (F k (6 * i + j)) (T k (6 * i + j)) 0))), (7, .int (F k (6 * i + j))), (6, .int (T k (6 * i + j))), (0, .ref (ad 85)), (1, .int (nI k)), (2, .int (nI 1)), (4, .int (nI i))]) dX5_told_195 (nI_add _ _) (by decide) rfl ?_
              refine g_goto C (tgt := 35) dX5_told_198 (by decide) ?_
              refine g_lv [0, 1, 4, 5, 6, 7] (lv' := [(5, .int (nI (j + 1))), (3, .int ((s_sum (fun j => s_lw (F k j) (T k j) 0) (6 * i + j)) + (s_lw (F k (6 * i + j)) (T k (6 * i + j)) 0))), (0, .ref (ad 85)), (1, .int (nI k)), (2, .int (nI 1)), (4, .int (nI i))]) rfl ?_
              have e9 : s_sum (fun j => s_lw (F k j) (T k j) 0) (6 * i + (j + 1)) = (s_sum (fun j => s_lw (F k j) (T k j) 0) (6 * i + j)) + (s_lw (F k (6 * i + j)) (T k (6 * i + j)) 0) := rfl
              refine g_lveq (lv' := [(5, .int (nI (j + 1))), (3, .int (s_sum (fun j => s_lw (F k j) (T k j) 0) (6 * i + (j + 1)))), (0, .ref (ad 85)), (1, .int (nI k)), (2, .int (nI 1)), (4, .int (nI i))]) (by rw [e9]) ?_
              exact jh
            · -- ways
              refine g_if_ne C (tgt := 103) dX5_told_95 (by decide) (fun c95 => ?_) (fun c95 => ?_)
              · -- 103
                refine g_iconst C (v := nI 0) dX5_told_103 (by decide) ?_
                refine g_goto C (tgt := 108) dX5_told_104 (by decide) ?_
                refine g_lv [0, 1, 2, 3, 4, 5, 6, 7] (lv' := [(7, .int (F k (6 * i + j))), (6, .int (T k (6 * i + j))), (5, .int (nI j)), (3, .int (s_sum (fun j => s_lw (F k j) (T k j) 0) (6 * i + j))), (0, .ref (ad 85)), (1, .int (nI k)), (2, .int (nI 1)), (4, .int (nI i))]) rfl ?_
                exact J _ ((by rw [s_lw, if_neg (fun z => c95 z.1)] <;> rfl))
              · -- 98
                refine g_iload C 0 rfl dX5_told_98 ?_
                refine g_if_eq C (tgt := 107) dX5_told_100 (by decide) (fun c100 => ?_) (fun c100 => ?_)
                · -- 107
                  refine g_iconst C (v := nI 1) dX5_told_107 (by decide) ?_
                  refine g_lv [0, 1, 2, 3, 4, 5, 6, 7] (lv' := [(7, .int (F k (6 * i + j))), (6, .int (T k (6 * i + j))), (5, .int (nI j)), (3, .int (s_sum (fun j => s_lw (F k j) (T k j) 0) (6 * i + j))), (0, .ref (ad 85)), (1, .int (nI k)), (2, .int (nI 1)), (4, .int (nI i))]) rfl ?_
                  exact J _ ((by rw [s_lw, if_pos ⟨c95, c100⟩] <;> rfl))
                · -- 103
                  refine g_iconst C (v := nI 0) dX5_told_103 (by decide) ?_
                  refine g_goto C (tgt := 108) dX5_told_104 (by decide) ?_
                  refine g_lv [0, 1, 2, 3, 4, 5, 6, 7] (lv' := [(7, .int (F k (6 * i + j))), (6, .int (T k (6 * i + j))), (5, .int (nI j)), (3, .int (s_sum (fun j => s_lw (F k j) (T k j) 0) (6 * i + j))), (0, .ref (ad 85)), (1, .int (nI k)), (2, .int (nI 1)), (4, .int (nI i))]) rfl ?_
                  exact J _ ((by rw [s_lw, if_neg (fun z => c100 z.2)] <;> rfl))
  · -- what = 2
    refine g_iconst C (v := nI 0) dX5_told_0 (by decide) ?_
    refine g_istore_n C (lv' := [(3, .int (nI 0)), (0, .ref (ad 85)), (1, .int (nI k)), (2, .int (nI 2))]) dX5_told_1 (by decide) rfl ?_
    refine g_iconst C (v := nI 0) dX5_told_2 (by decide) ?_
    refine g_istore C (lv' := [(4, .int (nI 0)), (3, .int (nI 0)), (0, .ref (ad 85)), (1, .int (nI k)), (2, .int (nI 2))]) dX5_told_3 (by decide) rfl ?_
    refine g_lv [0, 1, 2, 3, 4] (lv' := [(4, .int (nI 0)), (3, .int (nI 0)), (0, .ref (ad 85)), (1, .int (nI k)), (2, .int (nI 2))]) rfl ?_
    refine g_for 5 (fun (i : Nat) => [(4, .int (nI i)), (3, .int (s_sum (fun j => s_worth (F k j) (T k j)) (6 * i))), (0, .ref (ad 85)), (1, .int (nI k)), (2, .int (nI 2))]) ?_ (fun i hi ih => ?_)
    · -- loop 5: its end
      refine g_iload C 0 rfl dX5_told_5 ?_
      refine g_iconst C (v := nI 5) dX5_told_7 (by decide) ?_
      refine g_icmp_ge C (tgt := 207) dX5_told_8 (by decide) (fun c8 => ?_) (fun c8 => ?_)
      rotate_left
      · exact absurd c8 (by decide)
      refine g_iload_n C 4 rfl dX5_told_207 ?_
      refine g_iconst C (v := nI 5) dX5_told_208 (by decide) ?_
      refine g_icmp_ge C (tgt := 214) dX5_told_209 (by decide) (fun c209 => ?_) (fun c209 => ?_)
      · exact absurd c209 (by decide)
      refine g_iload_n C 1 rfl dX5_told_212 ?_
      exact g_iret C rfl dX5_told_213 () rfl rfl rfl (by rw [s_sheet, if_neg (by decide), if_neg (by decide), if_pos (by decide)] <;> rfl) (by omega) (by omega)
    · -- loop 5: its body
      refine g_iload C 0 rfl dX5_told_5 ?_
      refine g_iconst C (v := nI 5) dX5_told_7 (by decide) ?_
      refine g_icmp_ge C (tgt := 207) dX5_told_8 (by decide) (fun c8 => ?_) (fun c8 => ?_)
      · -- 207
        have c8 : 5 ≤ i := (nI_leI (by omega) (by omega)).mp c8
        exact absurd c8 (by omega)
      · -- 11
        have c8 : i < 5 := Nat.lt_of_not_le (fun z => c8 ((nI_leI (by omega) (by omega)).mpr z))
        refine g_iload_n C 4 rfl dX5_told_11 ?_
        refine g_iconst C (v := nI 4) dX5_told_12 (by decide) ?_
        refine g_icmp_ne C (tgt := 32) dX5_told_13 (by decide) (fun c13 => ?_) (fun c13 => ?_)
        rotate_left
        · exact absurd c13 (by decide)
        refine g_iconst C (v := nI 0) dX5_told_32 (by decide) ?_
        refine g_istore C (lv' := [(5, .int (nI 0)), (4, .int (nI i)), (3, .int (s_sum (fun j => s_worth (F k j) (T k j)) (6 * i))), (0, .ref (ad 85)), (1, .int (nI k)), (2, .int (nI 2))]) dX5_told_33 (by decide) rfl ?_
        refine g_lv [0, 2, 3, 4, 5, 1] (lv' := [(5, .int (nI 0)), (3, .int (s_sum (fun j => s_worth (F k j) (T k j)) (6 * i))), (0, .ref (ad 85)), (1, .int (nI k)), (2, .int (nI 2)), (4, .int (nI i))]) rfl ?_
        refine g_for 6 (fun (j : Nat) => [(5, .int (nI j)), (3, .int (s_sum (fun j => s_worth (F k j) (T k j)) (6 * i + j))), (0, .ref (ad 85)), (1, .int (nI k)), (2, .int (nI 2)), (4, .int (nI i))]) ?_ (fun j hj jh => ?_)
        · -- loop 35: its end
          refine g_iload C 0 rfl dX5_told_35 ?_
          refine g_bipush C (v := nI 6) dX5_told_37 (by decide) ?_
          refine g_icmp_ge C (tgt := 201) dX5_told_39 (by decide) (fun c39 => ?_) (fun c39 => ?_)
          rotate_left
          · exact absurd c39 (by decide)
          refine g_iinc C 5 rfl (v := nI (i + 1)) (lv' := [(4, .int (nI (i + 1))), (5, .int (nI 6)), (3, .int (s_sum (fun j => s_worth (F k j) (T k j)) (6 * i + 6))), (0, .ref (ad 85)), (1, .int (nI k)), (2, .int (nI 2))]) dX5_told_201 (nI_add _ _) (by decide) rfl ?_
          refine g_goto C (tgt := 5) dX5_told_204 (by decide) ?_
          refine g_lv [0, 2, 3, 4, 5] (lv' := [(4, .int (nI (i + 1))), (3, .int (s_sum (fun j => s_worth (F k j) (T k j)) (6 * i + 6))), (0, .ref (ad 85)), (1, .int (nI k)), (2, .int (nI 2))]) rfl ?_
          refine g_lveq (lv' := [(4, .int (nI (i + 1))), (3, .int (s_sum (fun j => s_worth (F k j) (T k j)) (6 * (i + 1)))), (0, .ref (ad 85)), (1, .int (nI k)), (2, .int (nI 2))]) (rfl) ?_
          exact ih
        · -- loop 35: its body
          refine g_iload C 0 rfl dX5_told_35 ?_
          refine g_bipush C (v := nI 6) dX5_told_37 (by decide) ?_
          refine g_icmp_ge C (tgt := 201) dX5_told_39 (by decide) (fun c39 => ?_) (fun c39 => ?_)
          · -- 201
            have c39 : 6 ≤ j := (nI_leI (by omega) (by omega)).mp c39
            exact absurd c39 (by omega)
          · -- 42
            have c39 : j < 6 := Nat.lt_of_not_le (fun z => c39 ((nI_leI (by omega) (by omega)).mpr z))
            refine g_aload_n C 2 rfl dX5_told_42 ?_
            refine g_getf C 85 (by omega) y1 rfl 11 (by decide) (fun w h => (List.mem_cons_of_mem _ (List.mem_append_right _ h))) (List.mem_of_getElem? (i := 2) rfl) rfl rfl dX5_told_43 ?_
            refine g_iload_n C 3 rfl dX5_told_46 ?_
            refine g_aaldA C 96 (by omega) 2 rfl h13 k rfl (by omega) (by omega) (z14 k (by omega)) dX5_told_47 ?_
            obtain ⟨⟨g43, h44, z45⟩, r46⟩ := id (y8 k (by omega)).2
            refine g_iload C 5 rfl dX5_told_48 ?_
            refine g_aaldA C (B + 12 * k + 6) (by omega) 6 rfl h44 i rfl (by omega) (by decide) (z45 i (by omega)) dX5_told_50 ?_
            obtain ⟨g47, h48, z49⟩ := id (r46 i (by omega))
            refine g_iload C 0 rfl dX5_told_51 ?_
            refine g_zald C (B + 12 * k + 7 + i) (by omega) h48 j rfl (by omega) (by decide) dX5_told_53 ?_
            refine g_top ((z49 j (by omega)) : g47 j = T k (6 * i + j)) ?_
            refine g_istore C (lv' := [(6, .int (T k (6 * i + j))), (5, .int (nI j)), (3, .int (s_sum (fun j => s_worth (F k j) (T k j)) (6 * i + j))), (0, .ref (ad 85)), (1, .int (nI k)), (2, .int (nI 2)), (4, .int (nI i))]) dX5_told_54 (by decide) rfl ?_
            refine g_aload_n C 3 rfl dX5_told_56 ?_
            refine g_getf C 85 (by omega) y1 rfl 10 (by decide) (fun w h => (List.mem_cons_of_mem _ (List.mem_append_right _ h))) (List.mem_of_getElem? (i := 1) rfl) rfl rfl dX5_told_57 ?_
            refine g_iload_n C 4 rfl dX5_told_60 ?_
            refine g_aaldA C 95 (by omega) 7 rfl h10 k rfl (by omega) (by omega) (z11 k (by omega)) dX5_told_61 ?_
            obtain ⟨⟨g50, h51, z52⟩, r53⟩ := id (y8 k (by omega)).1
            refine g_iload C 6 rfl dX5_told_62 ?_
            refine g_aaldA C (B + 12 * k) (by omega) 5 rfl h51 i rfl (by omega) (by decide) (z52 i (by omega)) dX5_told_64 ?_
            obtain ⟨g54, h55, z56⟩ := id (r53 i (by omega))
            refine g_iload C 1 rfl dX5_told_65 ?_
            refine g_iald C (B + 12 * k + 1 + i) (by omega) h55 j rfl (by omega) (by decide) dX5_told_67 ?_
            refine g_top ((z56 j (by omega)) : g54 j = F k (6 * i + j)) ?_
            refine g_istore C (lv' := [(7, .int (F k (6 * i + j))), (6, .int (T k (6 * i + j))), (5, .int (nI j)), (3, .int (s_sum (fun j => s_worth (F k j) (T k j)) (6 * i + j))), (0, .ref (ad 85)), (1, .int (nI k)), (2, .int (nI 2)), (4, .int (nI i))]) dX5_told_68 (by decide) rfl ?_
            refine g_iload_n C 6 rfl dX5_told_70 ?_
            refine g_if_ne C (tgt := 87) dX5_told_71 (by decide) (fun c71 => ?_) (fun c71 => ?_)
            rotate_left
            · exact absurd c71 (by decide)
            refine g_iload_n C 6 rfl dX5_told_87 ?_
            refine g_iconst C (v := nI 1) dX5_told_88 (by decide) ?_
            refine g_icmp_ne C (tgt := 110) dX5_told_89 (by decide) (fun c89 => ?_) (fun c89 => ?_)
            rotate_left
            · exact absurd c89 (by decide)
            refine g_iload_n C 6 rfl dX5_told_110 ?_
            refine g_iconst C (v := nI 2) dX5_told_111 (by decide) ?_
            refine g_icmp_ne C (tgt := 125) dX5_told_112 (by decide) (fun c112 => ?_) (fun c112 => ?_)
            · exact absurd c112 (by decide)
            refine g_iload_n C 3 rfl dX5_told_115 ?_
            refine g_iload C 0 rfl dX5_told_116 ?_
            refine g_iload C 1 rfl dX5_told_118 ?_
            refine g_calli C (r_S C (st := [.int (s_sum (fun j => s_worth (F k j) (T k j)) (6 * i + j))]) (c_X5_worth l V (F k (6 * i + j)) (T k (6 * i + j))) (va_cwS 2 C.ts gX5_told_X5_worth rfl rfl rfl (by decide +kernel) ⟨(Nat.le_of_ble_eq_true rfl), (Nat.le_of_ble_eq_true rfl)⟩) rfl rfl (Nat.le_of_ble_eq_true rfl) dX5_told_120 ⟨(by show _ ≤ 5; omega), (by show _ ≤ 30; omega)⟩) (fun r u hu => ?_)
            subst hu
            refine g_top (s_wt_eq (T k (6 * i + j)) (hF _ (by omega)) : s_wt (F k (6 * i + j)) (T k (6 * i + j)) = s_worth (F k (6 * i + j)) (T k (6 * i + j))) ?_
            refine g_iadd C (v := (s_sum (fun j => s_worth (F k j) (T k j)) (6 * i + j)) + (s_worth (F k (6 * i + j)) (T k (6 * i + j)))) dX5_told_123 rfl ?_
            refine g_istore_n C (lv' := [(3, .int ((s_sum (fun j => s_worth (F k j) (T k j)) (6 * i + j)) + (s_worth (F k (6 * i + j)) (T k (6 * i + j))))), (7, .int (F k (6 * i + j))), (6, .int (T k (6 * i + j))), (5, .int (nI j)), (0, .ref (ad 85)), (1, .int (nI k)), (2, .int (nI 2)), (4, .int (nI i))]) dX5_told_124 (by decide) rfl ?_
            refine g_iload_n C 6 rfl dX5_told_125 ?_
            refine g_iconst C (v := nI 3) dX5_told_126 (by decide) ?_
            refine g_icmp_ne C (tgt := 195) dX5_told_127 (by decide) (fun c127 => ?_) (fun c127 => ?_)
            rotate_left
            · exact absurd c127 (by decide)
            refine g_iinc C 3 rfl (v := nI (j + 1)) (lv' := [(5, .int (nI (j + 1))), (3, .int ((s_sum (fun j => s_worth (F k j) (T k j)) (6 * i + j)) + (s_worth (F k (6 * i + j)) (T k (6 * i + j))))), (7, .int (F k (6 * i + j))), (6, .int (T k (6 * i + j))), (0, .ref (ad 85)), (1, .int (nI k)), (2, .int (nI 2)), (4, .int (nI i))]) dX5_told_195 (nI_add _ _) (by decide) rfl ?_
            refine g_goto C (tgt := 35) dX5_told_198 (by decide) ?_
            refine g_lv [0, 1, 4, 5, 6, 7] (lv' := [(5, .int (nI (j + 1))), (3, .int ((s_sum (fun j => s_worth (F k j) (T k j)) (6 * i + j)) + (s_worth (F k (6 * i + j)) (T k (6 * i + j))))), (0, .ref (ad 85)), (1, .int (nI k)), (2, .int (nI 2)), (4, .int (nI i))]) rfl ?_
            have e9 : s_sum (fun j => s_worth (F k j) (T k j)) (6 * i + (j + 1)) = (s_sum (fun j => s_worth (F k j) (T k j)) (6 * i + j)) + (s_worth (F k (6 * i + j)) (T k (6 * i + j))) := rfl
            refine g_lveq (lv' := [(5, .int (nI (j + 1))), (3, .int (s_sum (fun j => s_worth (F k j) (T k j)) (6 * i + (j + 1)))), (0, .ref (ad 85)), (1, .int (nI k)), (2, .int (nI 2)), (4, .int (nI i))]) (by rw [e9]) ?_
            exact jh
  · -- what = 3
    refine g_iconst C (v := nI 0) dX5_told_0 (by decide) ?_
    refine g_istore_n C (lv' := [(3, .int (nI 0)), (0, .ref (ad 85)), (1, .int (nI k)), (2, .int (nI 3))]) dX5_told_1 (by decide) rfl ?_
    refine g_iconst C (v := nI 0) dX5_told_2 (by decide) ?_
    refine g_istore C (lv' := [(4, .int (nI 0)), (3, .int (nI 0)), (0, .ref (ad 85)), (1, .int (nI k)), (2, .int (nI 3))]) dX5_told_3 (by decide) rfl ?_
    refine g_lv [0, 1, 2, 3, 4] (lv' := [(4, .int (nI 0)), (3, .int (nI 0)), (0, .ref (ad 85)), (1, .int (nI k)), (2, .int (nI 3))]) rfl ?_
    refine g_for 5 (fun (i : Nat) => [(4, .int (nI i)), (3, .int (s_prs (F k) (T k) i)), (0, .ref (ad 85)), (1, .int (nI k)), (2, .int (nI 3))]) ?_ (fun i hi ih => ?_)
    · -- loop 5: its end
      refine g_iload C 0 rfl dX5_told_5 ?_
      refine g_iconst C (v := nI 5) dX5_told_7 (by decide) ?_
      refine g_icmp_ge C (tgt := 207) dX5_told_8 (by decide) (fun c8 => ?_) (fun c8 => ?_)
      rotate_left
      · exact absurd c8 (by decide)
      refine g_iload_n C 4 rfl dX5_told_207 ?_
      refine g_iconst C (v := nI 5) dX5_told_208 (by decide) ?_
      refine g_icmp_ge C (tgt := 214) dX5_told_209 (by decide) (fun c209 => ?_) (fun c209 => ?_)
      · exact absurd c209 (by decide)
      refine g_iload_n C 1 rfl dX5_told_212 ?_
      exact g_iret C rfl dX5_told_213 () rfl rfl rfl (by rw [s_sheet, if_neg (by decide), if_neg (by decide), if_neg (by decide), if_pos (by decide)] <;> rfl) (by omega) (by omega)
    · -- loop 5: its body
      refine g_iload C 0 rfl dX5_told_5 ?_
      refine g_iconst C (v := nI 5) dX5_told_7 (by decide) ?_
      refine g_icmp_ge C (tgt := 207) dX5_told_8 (by decide) (fun c8 => ?_) (fun c8 => ?_)
      · -- 207
        have c8 : 5 ≤ i := (nI_leI (by omega) (by omega)).mp c8
        exact absurd c8 (by omega)
      · -- 11
        have c8 : i < 5 := Nat.lt_of_not_le (fun z => c8 ((nI_leI (by omega) (by omega)).mpr z))
        refine g_iload_n C 4 rfl dX5_told_11 ?_
        refine g_iconst C (v := nI 4) dX5_told_12 (by decide) ?_
        refine g_icmp_ne C (tgt := 32) dX5_told_13 (by decide) (fun c13 => ?_) (fun c13 => ?_)
        rotate_left
        · exact absurd c13 (by decide)
        refine g_iconst C (v := nI 0) dX5_told_32 (by decide) ?_
        refine g_istore C (lv' := [(5, .int (nI 0)), (4, .int (nI i)), (3, .int (s_prs (F k) (T k) i)), (0, .ref (ad 85)), (1, .int (nI k)), (2, .int (nI 3))]) dX5_told_33 (by decide) rfl ?_
        refine g_lv [0, 2, 3, 4, 5, 1] (lv' := [(5, .int (nI 0)), (3, .int (s_prs (F k) (T k) i)), (0, .ref (ad 85)), (1, .int (nI k)), (2, .int (nI 3)), (4, .int (nI i))]) rfl ?_
        refine g_for 6 (fun (j : Nat) => [(5, .int (nI j)), (3, .int (s_acc (fun c => if c < 5 then s_pr (F k (6 * i + c)) (T k (6 * i + c)) (F k (6 * i + c + 1)) (T k (6 * i + c + 1)) else 0) (s_prs (F k) (T k) i) j)), (0, .ref (ad 85)), (1, .int (nI k)), (2, .int (nI 3)), (4, .int (nI i))]) ?_ (fun j hj jh => ?_)
        · -- loop 35: its end
          refine g_iload C 0 rfl dX5_told_35 ?_
          refine g_bipush C (v := nI 6) dX5_told_37 (by decide) ?_
          refine g_icmp_ge C (tgt := 201) dX5_told_39 (by decide) (fun c39 => ?_) (fun c39 => ?_)
          rotate_left
          · exact absurd c39 (by decide)
          refine g_iinc C 5 rfl (v := nI (i + 1)) (lv' := [(4, .int (nI (i + 1))), (5, .int (nI 6)), (3, .int (s_acc (fun c => if c < 5 then s_pr (F k (6 * i + c)) (T k (6 * i + c)) (F k (6 * i + c + 1)) (T k (6 * i + c + 1)) else 0) (s_prs (F k) (T k) i) 6)), (0, .ref (ad 85)), (1, .int (nI k)), (2, .int (nI 3))]) dX5_told_201 (nI_add _ _) (by decide) rfl ?_
          refine g_goto C (tgt := 5) dX5_told_204 (by decide) ?_
          refine g_lv [0, 2, 3, 4, 5] (lv' := [(4, .int (nI (i + 1))), (3, .int (s_acc (fun c => if c < 5 then s_pr (F k (6 * i + c)) (T k (6 * i + c)) (F k (6 * i + c + 1)) (T k (6 * i + c + 1)) else 0) (s_prs (F k) (T k) i) 6)), (0, .ref (ad 85)), (1, .int (nI k)), (2, .int (nI 3))]) rfl ?_
          have e9 : s_acc (fun c => if c < 5 then s_pr (F k (6 * i + c)) (T k (6 * i + c)) (F k (6 * i + c + 1)) (T k (6 * i + c + 1)) else 0) (s_prs (F k) (T k) i) 6 = s_prs (F k) (T k) (i + 1) := pr_end (F k) (T k) i _
          refine g_lveq (lv' := [(4, .int (nI (i + 1))), (3, .int (s_prs (F k) (T k) (i + 1))), (0, .ref (ad 85)), (1, .int (nI k)), (2, .int (nI 3))]) (by rw [e9]) ?_
          exact ih
        · -- loop 35: its body
          refine g_iload C 0 rfl dX5_told_35 ?_
          refine g_bipush C (v := nI 6) dX5_told_37 (by decide) ?_
          refine g_icmp_ge C (tgt := 201) dX5_told_39 (by decide) (fun c39 => ?_) (fun c39 => ?_)
          · -- 201
            have c39 : 6 ≤ j := (nI_leI (by omega) (by omega)).mp c39
            exact absurd c39 (by omega)
          · -- 42
            have c39 : j < 6 := Nat.lt_of_not_le (fun z => c39 ((nI_leI (by omega) (by omega)).mpr z))
            refine g_aload_n C 2 rfl dX5_told_42 ?_
            refine g_getf C 85 (by omega) y1 rfl 11 (by decide) (fun w h => (List.mem_cons_of_mem _ (List.mem_append_right _ h))) (List.mem_of_getElem? (i := 2) rfl) rfl rfl dX5_told_43 ?_
            refine g_iload_n C 3 rfl dX5_told_46 ?_
            refine g_aaldA C 96 (by omega) 2 rfl h13 k rfl (by omega) (by omega) (z14 k (by omega)) dX5_told_47 ?_
            obtain ⟨⟨g57, h58, z59⟩, r60⟩ := id (y8 k (by omega)).2
            refine g_iload C 5 rfl dX5_told_48 ?_
            refine g_aaldA C (B + 12 * k + 6) (by omega) 6 rfl h58 i rfl (by omega) (by decide) (z59 i (by omega)) dX5_told_50 ?_
            obtain ⟨g61, h62, z63⟩ := id (r60 i (by omega))
            refine g_iload C 0 rfl dX5_told_51 ?_
            refine g_zald C (B + 12 * k + 7 + i) (by omega) h62 j rfl (by omega) (by decide) dX5_told_53 ?_
            refine g_top ((z63 j (by omega)) : g61 j = T k (6 * i + j)) ?_
            refine g_istore C (lv' := [(6, .int (T k (6 * i + j))), (5, .int (nI j)), (3, .int (s_acc (fun c => if c < 5 then s_pr (F k (6 * i + c)) (T k (6 * i + c)) (F k (6 * i + c + 1)) (T k (6 * i + c + 1)) else 0) (s_prs (F k) (T k) i) j)), (0, .ref (ad 85)), (1, .int (nI k)), (2, .int (nI 3)), (4, .int (nI i))]) dX5_told_54 (by decide) rfl ?_
            refine g_aload_n C 3 rfl dX5_told_56 ?_
            refine g_getf C 85 (by omega) y1 rfl 10 (by decide) (fun w h => (List.mem_cons_of_mem _ (List.mem_append_right _ h))) (List.mem_of_getElem? (i := 1) rfl) rfl rfl dX5_told_57 ?_
            refine g_iload_n C 4 rfl dX5_told_60 ?_
            refine g_aaldA C 95 (by omega) 7 rfl h10 k rfl (by omega) (by omega) (z11 k (by omega)) dX5_told_61 ?_
            obtain ⟨⟨g64, h65, z66⟩, r67⟩ := id (y8 k (by omega)).1
            refine g_iload C 6 rfl dX5_told_62 ?_
            refine g_aaldA C (B + 12 * k) (by omega) 5 rfl h65 i rfl (by omega) (by decide) (z66 i (by omega)) dX5_told_64 ?_
            obtain ⟨g68, h69, z70⟩ := id (r67 i (by omega))
            refine g_iload C 1 rfl dX5_told_65 ?_
            refine g_iald C (B + 12 * k + 1 + i) (by omega) h69 j rfl (by omega) (by decide) dX5_told_67 ?_
            refine g_top ((z70 j (by omega)) : g68 j = F k (6 * i + j)) ?_
            refine g_istore C (lv' := [(7, .int (F k (6 * i + j))), (6, .int (T k (6 * i + j))), (5, .int (nI j)), (3, .int (s_acc (fun c => if c < 5 then s_pr (F k (6 * i + c)) (T k (6 * i + c)) (F k (6 * i + c + 1)) (T k (6 * i + c + 1)) else 0) (s_prs (F k) (T k) i) j)), (0, .ref (ad 85)), (1, .int (nI k)), (2, .int (nI 3)), (4, .int (nI i))]) dX5_told_68 (by decide) rfl ?_
            refine g_iload_n C 6 rfl dX5_told_70 ?_
            refine g_if_ne C (tgt := 87) dX5_told_71 (by decide) (fun c71 => ?_) (fun c71 => ?_)
            rotate_left
            · exact absurd c71 (by decide)
            refine g_iload_n C 6 rfl dX5_told_87 ?_
            refine g_iconst C (v := nI 1) dX5_told_88 (by decide) ?_
            refine g_icmp_ne C (tgt := 110) dX5_told_89 (by decide) (fun c89 => ?_) (fun c89 => ?_)
            rotate_left
            · exact absurd c89 (by decide)
            refine g_iload_n C 6 rfl dX5_told_110 ?_
            refine g_iconst C (v := nI 2) dX5_told_111 (by decide) ?_
            refine g_icmp_ne C (tgt := 125) dX5_told_112 (by decide) (fun c112 => ?_) (fun c112 => ?_)
            rotate_left
            · exact absurd c112 (by decide)
            refine g_iload_n C 6 rfl dX5_told_125 ?_
            refine g_iconst C (v := nI 3) dX5_told_126 (by decide) ?_
            refine g_icmp_ne C (tgt := 195) dX5_told_127 (by decide) (fun c127 => ?_) (fun c127 => ?_)
            · exact absurd c127 (by decide)
            refine g_iload C 2 rfl dX5_told_130 ?_
            refine g_iconst C (v := nI 5) dX5_told_132 (by decide) ?_
            refine g_via (fun v : Int32 => v = s_acc (fun c => if c < 5 then s_pr (F k (6 * i + c)) (T k (6 * i + c)) (F k (6 * i + c + 1)) (T k (6 * i + c + 1)) else 0) (s_prs (F k) (T k) i) j + (if j < 5 then s_pr (F k (6 * i + j)) (T k (6 * i + j)) (F k (6 * i + j + 1)) (T k (6 * i + j + 1)) else 0)) 195 (fun v => [(3, .int v), (7, .int (F k (6 * i + j))), (6, .int (T k (6 * i + j))), (5, .int (nI j)), (0, .ref (ad 85)), (1, .int (nI k)), (2, .int (nI 3)), (4, .int (nI i))]) (fun _ => []) (fun v hv => ?_) (fun J => ?_)
            · -- join
              subst hv
              refine g_iinc C 3 rfl (v := nI (j + 1)) (lv' := [(5, .int (nI (j + 1))), (3, .int (s_acc (fun c => if c < 5 then s_pr (F k (6 * i + c)) (T k (6 * i + c)) (F k (6 * i + c + 1)) (T k (6 * i + c + 1)) else 0) (s_prs (F k) (T k) i) j + (if j < 5 then s_pr (F k (6 * i + j)) (T k (6 * i + j)) (F k (6 * i + j + 1)) (T k (6 * i + j + 1)) else 0))), (7, .int (F k (6 * i + j))), (6, .int (T k (6 * i + j))), (0, .ref (ad 85)), (1, .int (nI k)), (2, .int (nI 3)), (4, .int (nI i))]) dX5_told_195 (nI_add _ _) (by decide) rfl ?_
              refine g_goto C (tgt := 35) dX5_told_198 (by decide) ?_
              refine g_lv [0, 1, 4, 5, 6, 7] (lv' := [(5, .int (nI (j + 1))), (3, .int (s_acc (fun c => if c < 5 then s_pr (F k (6 * i + c)) (T k (6 * i + c)) (F k (6 * i + c + 1)) (T k (6 * i + c + 1)) else 0) (s_prs (F k) (T k) i) j + (if j < 5 then s_pr (F k (6 * i + j)) (T k (6 * i + j)) (F k (6 * i + j + 1)) (T k (6 * i + j + 1)) else 0))), (0, .ref (ad 85)), (1, .int (nI k)), (2, .int (nI 3)), (4, .int (nI i))]) rfl ?_
              have e9 : s_acc (fun c => if c < 5 then s_pr (F k (6 * i + c)) (T k (6 * i + c)) (F k (6 * i + c + 1)) (T k (6 * i + c + 1)) else 0) (s_prs (F k) (T k) i) (j + 1) = s_acc (fun c => if c < 5 then s_pr (F k (6 * i + c)) (T k (6 * i + c)) (F k (6 * i + c + 1)) (T k (6 * i + c + 1)) else 0) (s_prs (F k) (T k) i) j + (if j < 5 then s_pr (F k (6 * i + j)) (T k (6 * i + j)) (F k (6 * i + j + 1)) (T k (6 * i + j + 1)) else 0) := rfl
              refine g_lveq (lv' := [(5, .int (nI (j + 1))), (3, .int (s_acc (fun c => if c < 5 then s_pr (F k (6 * i + c)) (T k (6 * i + c)) (F k (6 * i + c + 1)) (T k (6 * i + c + 1)) else 0) (s_prs (F k) (T k) i) (j + 1))), (0, .ref (ad 85)), (1, .int (nI k)), (2, .int (nI 3)), (4, .int (nI i))]) (by rw [e9]) ?_
              exact jh
            · -- ways
              refine g_icmp_ge C (tgt := 195) dX5_told_133 (by decide) (fun c133 => ?_) (fun c133 => ?_)
              · -- 195
                have c133 : 5 ≤ j := (nI_leI (by omega) (by omega)).mp c133
                refine g_lv [3, 0, 1, 2, 4, 5, 6, 7] (lv' := [(3, .int (s_acc (fun c => if c < 5 then s_pr (F k (6 * i + c)) (T k (6 * i + c)) (F k (6 * i + c + 1)) (T k (6 * i + c + 1)) else 0) (s_prs (F k) (T k) i) j)), (7, .int (F k (6 * i + j))), (6, .int (T k (6 * i + j))), (5, .int (nI j)), (0, .ref (ad 85)), (1, .int (nI k)), (2, .int (nI 3)), (4, .int (nI i))]) rfl ?_
                exact J _ ((by show _ = _ + (if j < 5 then _ else 0); rw [if_neg (by omega), Int32.add_zero]))
              · -- 136
                have c133 : j < 5 := Nat.lt_of_not_le (fun z => c133 ((nI_leI (by omega) (by omega)).mpr z))
                refine g_iload C 1 rfl dX5_told_136 ?_
                refine g_if_ne C (tgt := 195) dX5_told_138 (by decide) (fun c138 => ?_) (fun c138 => ?_)
                · -- 195
                  refine g_lv [3, 0, 1, 2, 4, 5, 6, 7] (lv' := [(3, .int (s_acc (fun c => if c < 5 then s_pr (F k (6 * i + c)) (T k (6 * i + c)) (F k (6 * i + c + 1)) (T k (6 * i + c + 1)) else 0) (s_prs (F k) (T k) i) j)), (7, .int (F k (6 * i + j))), (6, .int (T k (6 * i + j))), (5, .int (nI j)), (0, .ref (ad 85)), (1, .int (nI k)), (2, .int (nI 3)), (4, .int (nI i))]) rfl ?_
                  exact J _ ((by show _ = _ + (if j < 5 then _ else 0); rw [if_pos (by omega), s_pr, if_neg (fun z => c138 z.1), Int32.add_zero]))
                · -- 141
                  refine g_aload_n C 4 rfl dX5_told_141 ?_
                  refine g_getf C 85 (by omega) y1 rfl 11 (by decide) (fun w h => (List.mem_cons_of_mem _ (List.mem_append_right _ h))) (List.mem_of_getElem? (i := 2) rfl) rfl rfl dX5_told_142 ?_
                  refine g_iload_n C 5 rfl dX5_told_145 ?_
                  refine g_aaldA C 96 (by omega) 2 rfl h13 k rfl (by omega) (by omega) (z14 k (by omega)) dX5_told_146 ?_
                  obtain ⟨⟨g71, h72, z73⟩, r74⟩ := id (y8 k (by omega)).2
                  refine g_iload C 7 rfl dX5_told_147 ?_
                  refine g_aaldA C (B + 12 * k + 6) (by omega) 6 rfl h72 i rfl (by omega) (by decide) (z73 i (by omega)) dX5_told_149 ?_
                  refine g_iload C 2 rfl dX5_told_150 ?_
                  refine g_iconst C (v := nI 1) dX5_told_152 (by decide) ?_
                  refine g_iadd C (v := nI (j + 1)) dX5_told_153 (nI_add _ _) ?_
                  refine g_zald C (B + 12 * k + 7 + i) (by omega) h62 (j + 1) rfl (by omega) (by decide) dX5_told_154 ?_
                  refine g_top ((z63 (j + 1) (by omega)) : g61 (j + 1) = T k (6 * i + (j + 1))) ?_
                  refine g_if_ne C (tgt := 195) dX5_told_155 (by decide) (fun c155 => ?_) (fun c155 => ?_)
                  · -- 195
                    refine g_lv [3, 0, 1, 2, 4, 5, 6, 7] (lv' := [(3, .int (s_acc (fun c => if c < 5 then s_pr (F k (6 * i + c)) (T k (6 * i + c)) (F k (6 * i + c + 1)) (T k (6 * i + c + 1)) else 0) (s_prs (F k) (T k) i) j)), (7, .int (F k (6 * i + j))), (6, .int (T k (6 * i + j))), (5, .int (nI j)), (0, .ref (ad 85)), (1, .int (nI k)), (2, .int (nI 3)), (4, .int (nI i))]) rfl ?_
                    exact J _ ((by show _ = _ + (if j < 5 then _ else 0); rw [if_pos (by omega), s_pr, if_neg (fun z => c155 z.2.1), Int32.add_zero]))
                  · -- 158
                    refine g_iload_n C 3 rfl dX5_told_158 ?_
                    refine g_iload C 0 rfl dX5_told_159 ?_
                    refine g_bipush C (v := nI 8) dX5_told_161 (by decide) ?_
                    refine g_idiv C (v := (F k (6 * i + j)) / 8) dX5_told_163 (by decide) rfl ?_
                    refine g_iconst C (v := nI 2) dX5_told_164 (by decide) ?_
                    refine g_irem C (v := ((F k (6 * i + j)) / 8) - ((F k (6 * i + j)) / 8) / 2 * 2) dX5_told_165 (by decide) rfl ?_
                    refine g_aload_n C 4 rfl dX5_told_166 ?_
                    refine g_getf C 85 (by omega) y1 rfl 10 (by decide) (fun w h => (List.mem_cons_of_mem _ (List.mem_append_right _ h))) (List.mem_of_getElem? (i := 1) rfl) rfl rfl dX5_told_167 ?_
                    refine g_iload_n C 5 rfl dX5_told_170 ?_
                    refine g_aaldA C 95 (by omega) 7 rfl h10 k rfl (by omega) (by omega) (z11 k (by omega)) dX5_told_171 ?_
                    obtain ⟨⟨g75, h76, z77⟩, r78⟩ := id (y8 k (by omega)).1
                    refine g_iload C 7 rfl dX5_told_172 ?_
                    refine g_aaldA C (B + 12 * k) (by omega) 5 rfl h76 i rfl (by omega) (by decide) (z77 i (by omega)) dX5_told_174 ?_
                    refine g_iload C 2 rfl dX5_told_175 ?_
                    refine g_iconst C (v := nI 1) dX5_told_177 (by decide) ?_
                    refine g_iadd C (v := nI (j + 1)) dX5_told_178 (nI_add _ _) ?_
                    refine g_iald C (B + 12 * k + 1 + i) (by omega) h69 (j + 1) rfl (by omega) (by decide) dX5_told_179 ?_
                    refine g_top ((z70 (j + 1) (by omega)) : g68 (j + 1) = F k (6 * i + (j + 1))) ?_
                    refine g_bipush C (v := nI 8) dX5_told_180 (by decide) ?_
                    refine g_idiv C (v := (F k (6 * i + (j + 1))) / 8) dX5_told_182 (by decide) rfl ?_
                    refine g_iconst C (v := nI 2) dX5_told_183 (by decide) ?_
                    refine g_irem C (v := ((F k (6 * i + (j + 1))) / 8) - ((F k (6 * i + (j + 1))) / 8) / 2 * 2) dX5_told_184 (by decide) rfl ?_
                    refine g_via (fun v : Int32 => v = s_pr (F k (6 * i + j)) (T k (6 * i + j)) (F k (6 * i + j + 1)) (T k (6 * i + j + 1))) 193 (fun _ => [(7, .int (F k (6 * i + j))), (6, .int (T k (6 * i + j))), (5, .int (nI j)), (3, .int (s_acc (fun c => if c < 5 then s_pr (F k (6 * i + c)) (T k (6 * i + c)) (F k (6 * i + c + 1)) (T k (6 * i + c + 1)) else 0) (s_prs (F k) (T k) i) j)), (0, .ref (ad 85)), (1, .int (nI k)), (2, .int (nI 3)), (4, .int (nI i))]) (fun v => .int v :: [.int (s_acc (fun c => if c < 5 then s_pr (F k (6 * i + c)) (T k (6 * i + c)) (F k (6 * i + c + 1)) (T k (6 * i + c + 1)) else 0) (s_prs (F k) (T k) i) j)]) (fun v hv => ?_) (fun J => ?_)
                    · -- join
                      subst hv
                      refine g_iadd C (v := (s_acc (fun c => if c < 5 then s_pr (F k (6 * i + c)) (T k (6 * i + c)) (F k (6 * i + c + 1)) (T k (6 * i + c + 1)) else 0) (s_prs (F k) (T k) i) j) + (s_pr (F k (6 * i + j)) (T k (6 * i + j)) (F k (6 * i + j + 1)) (T k (6 * i + j + 1)))) dX5_told_193 rfl ?_
                      refine g_istore_n C (lv' := [(3, .int ((s_acc (fun c => if c < 5 then s_pr (F k (6 * i + c)) (T k (6 * i + c)) (F k (6 * i + c + 1)) (T k (6 * i + c + 1)) else 0) (s_prs (F k) (T k) i) j) + (s_pr (F k (6 * i + j)) (T k (6 * i + j)) (F k (6 * i + j + 1)) (T k (6 * i + j + 1))))), (7, .int (F k (6 * i + j))), (6, .int (T k (6 * i + j))), (5, .int (nI j)), (0, .ref (ad 85)), (1, .int (nI k)), (2, .int (nI 3)), (4, .int (nI i))]) dX5_told_194 (by decide) rfl ?_
                      refine g_lv [0, 1, 2, 3, 4, 5, 6, 7] (lv' := [(3, .int ((s_acc (fun c => if c < 5 then s_pr (F k (6 * i + c)) (T k (6 * i + c)) (F k (6 * i + c + 1)) (T k (6 * i + c + 1)) else 0) (s_prs (F k) (T k) i) j) + (s_pr (F k (6 * i + j)) (T k (6 * i + j)) (F k (6 * i + j + 1)) (T k (6 * i + j + 1))))), (7, .int (F k (6 * i + j))), (6, .int (T k (6 * i + j))), (5, .int (nI j)), (0, .ref (ad 85)), (1, .int (nI k)), (2, .int (nI 3)), (4, .int (nI i))]) rfl ?_
                      exact J _ ((by show _ = _ + (if j < 5 then _ else 0); rw [if_pos (by omega)]))
                    · -- ways
                      refine g_icmp_eq C (tgt := 192) dX5_told_185 (by decide) (fun c185 => ?_) (fun c185 => ?_)
                      · -- 192
                        refine g_iconst C (v := nI 0) dX5_told_192 (by decide) ?_
                        refine g_lv [0, 1, 2, 3, 4, 5, 6, 7] (lv' := [(7, .int (F k (6 * i + j))), (6, .int (T k (6 * i + j))), (5, .int (nI j)), (3, .int (s_acc (fun c => if c < 5 then s_pr (F k (6 * i + c)) (T k (6 * i + c)) (F k (6 * i + c + 1)) (T k (6 * i + c + 1)) else 0) (s_prs (F k) (T k) i) j)), (0, .ref (ad 85)), (1, .int (nI k)), (2, .int (nI 3)), (4, .int (nI i))]) rfl ?_
                        exact J _ ((by rw [s_pr, if_neg (fun z => z.2.2 ((inv8 (hF _ (by omega)) (hF _ (by omega))).mp c185))] <;> rfl))
                      · -- 188
                        refine g_iconst C (v := nI 1) dX5_told_188 (by decide) ?_
                        refine g_goto C (tgt := 193) dX5_told_189 (by decide) ?_
                        refine g_lv [0, 1, 2, 3, 4, 5, 6, 7] (lv' := [(7, .int (F k (6 * i + j))), (6, .int (T k (6 * i + j))), (5, .int (nI j)), (3, .int (s_acc (fun c => if c < 5 then s_pr (F k (6 * i + c)) (T k (6 * i + c)) (F k (6 * i + c + 1)) (T k (6 * i + c + 1)) else 0) (s_prs (F k) (T k) i) j)), (0, .ref (ad 85)), (1, .int (nI k)), (2, .int (nI 3)), (4, .int (nI i))]) rfl ?_
                        exact J _ ((by rw [s_pr, if_pos ⟨c138, c155, fun z => c185 ((inv8 (hF _ (by omega)) (hF _ (by omega))).mpr z)⟩] <;> rfl))
  · -- what = 4
    refine g_iconst C (v := nI 0) dX5_told_0 (by decide) ?_
    refine g_istore_n C (lv' := [(3, .int (nI 0)), (0, .ref (ad 85)), (1, .int (nI k)), (2, .int (nI 4))]) dX5_told_1 (by decide) rfl ?_
    refine g_iconst C (v := nI 0) dX5_told_2 (by decide) ?_
    refine g_istore C (lv' := [(4, .int (nI 0)), (3, .int (nI 0)), (0, .ref (ad 85)), (1, .int (nI k)), (2, .int (nI 4))]) dX5_told_3 (by decide) rfl ?_
    refine g_lv [0, 1, 2, 3, 4] (lv' := [(4, .int (nI 0)), (3, .int (nI 0)), (0, .ref (ad 85)), (1, .int (nI k)), (2, .int (nI 4))]) rfl ?_
    refine g_for 5 (fun (i : Nat) => [(4, .int (nI i)), (3, .int (s_sum (fun r => if F k (6 * r) &&& 1 = 0 then 0 else 1) i)), (0, .ref (ad 85)), (1, .int (nI k)), (2, .int (nI 4))]) ?_ (fun i hi ih => ?_)
    · -- loop 5: its end
      refine g_iload C 0 rfl dX5_told_5 ?_
      refine g_iconst C (v := nI 5) dX5_told_7 (by decide) ?_
      refine g_icmp_ge C (tgt := 207) dX5_told_8 (by decide) (fun c8 => ?_) (fun c8 => ?_)
      rotate_left
      · exact absurd c8 (by decide)
      refine g_iload_n C 4 rfl dX5_told_207 ?_
      refine g_iconst C (v := nI 5) dX5_told_208 (by decide) ?_
      refine g_icmp_ge C (tgt := 214) dX5_told_209 (by decide) (fun c209 => ?_) (fun c209 => ?_)
      · exact absurd c209 (by decide)
      refine g_iload_n C 1 rfl dX5_told_212 ?_
      exact g_iret C rfl dX5_told_213 () rfl rfl rfl (by rw [s_sheet, if_neg (by decide), if_neg (by decide), if_neg (by decide), if_neg (by decide), if_pos (by decide)] <;> rfl) (by omega) (by omega)
    · -- loop 5: its body
      refine g_iload C 0 rfl dX5_told_5 ?_
      refine g_iconst C (v := nI 5) dX5_told_7 (by decide) ?_
      refine g_icmp_ge C (tgt := 207) dX5_told_8 (by decide) (fun c8 => ?_) (fun c8 => ?_)
      · -- 207
        have c8 : 5 ≤ i := (nI_leI (by omega) (by omega)).mp c8
        exact absurd c8 (by omega)
      · -- 11
        have c8 : i < 5 := Nat.lt_of_not_le (fun z => c8 ((nI_leI (by omega) (by omega)).mpr z))
        refine g_iload_n C 4 rfl dX5_told_11 ?_
        refine g_iconst C (v := nI 4) dX5_told_12 (by decide) ?_
        refine g_icmp_ne C (tgt := 32) dX5_told_13 (by decide) (fun c13 => ?_) (fun c13 => ?_)
        · exact absurd c13 (by decide)
        refine g_iload_n C 1 rfl dX5_told_16 ?_
        refine g_aload_n C 2 rfl dX5_told_17 ?_
        refine g_getf C 85 (by omega) y1 rfl 10 (by decide) (fun w h => (List.mem_cons_of_mem _ (List.mem_append_right _ h))) (List.mem_of_getElem? (i := 1) rfl) rfl rfl dX5_told_18 ?_
        refine g_iload_n C 3 rfl dX5_told_21 ?_
        refine g_aaldA C 95 (by omega) 7 rfl h10 k rfl (by omega) (by omega) (z11 k (by omega)) dX5_told_22 ?_
        obtain ⟨⟨g79, h80, z81⟩, r82⟩ := id (y8 k (by omega)).1
        refine g_iload C 0 rfl dX5_told_23 ?_
        refine g_aaldA C (B + 12 * k) (by omega) 5 rfl h80 i rfl (by omega) (by decide) (z81 i (by omega)) dX5_told_25 ?_
        obtain ⟨g83, h84, z85⟩ := id (r82 i (by omega))
        refine g_iconst C (v := nI 0) dX5_told_26 (by decide) ?_
        refine g_iald C (B + 12 * k + 1 + i) (by omega) h84 0 rfl (by omega) (by decide) dX5_told_27 ?_
        refine g_top ((z85 0 (by omega)) : g83 0 = F k (6 * i + 0)) ?_
        refine g_iconst C (v := nI 2) dX5_told_28 (by decide) ?_
        refine g_irem C (v := (F k (6 * i + 0)) - (F k (6 * i + 0)) / 2 * 2) dX5_told_29 (by decide) rfl ?_
        refine g_iadd C (v := (s_sum (fun r => if F k (6 * r) &&& 1 = 0 then 0 else 1) i) + ((F k (6 * i + 0)) - (F k (6 * i + 0)) / 2 * 2)) dX5_told_30 rfl ?_
        refine g_istore_n C (lv' := [(3, .int ((s_sum (fun r => if F k (6 * r) &&& 1 = 0 then 0 else 1) i) + ((F k (6 * i + 0)) - (F k (6 * i + 0)) / 2 * 2))), (4, .int (nI i)), (0, .ref (ad 85)), (1, .int (nI k)), (2, .int (nI 4))]) dX5_told_31 (by decide) rfl ?_
        have e8 : (s_sum (fun r => if F k (6 * r) &&& 1 = 0 then 0 else 1) i) + ((F k (6 * i + 0)) - (F k (6 * i + 0)) / 2 * 2) = s_sum (fun r => if F k (6 * r) &&& 1 = 0 then 0 else 1) (i + 1) := by rw [rem2 (hF _ (by omega))]; rfl
        refine g_lveq (lv' := [(3, .int (s_sum (fun r => if F k (6 * r) &&& 1 = 0 then 0 else 1) (i + 1))), (4, .int (nI i)), (0, .ref (ad 85)), (1, .int (nI k)), (2, .int (nI 4))]) (by rw [e8]) ?_
        refine g_iconst C (v := nI 0) dX5_told_32 (by decide) ?_
        refine g_istore C (lv' := [(5, .int (nI 0)), (3, .int (s_sum (fun r => if F k (6 * r) &&& 1 = 0 then 0 else 1) (i + 1))), (4, .int (nI i)), (0, .ref (ad 85)), (1, .int (nI k)), (2, .int (nI 4))]) dX5_told_33 (by decide) rfl ?_
        refine g_lv [0, 1, 3, 4, 5, 2] (lv' := [(5, .int (nI 0)), (3, .int (s_sum (fun r => if F k (6 * r) &&& 1 = 0 then 0 else 1) (i + 1))), (0, .ref (ad 85)), (1, .int (nI k)), (2, .int (nI 4)), (4, .int (nI i))]) rfl ?_
        refine g_for 6 (fun (j : Nat) => [(5, .int (nI j)), (3, .int (s_sum (fun r => if F k (6 * r) &&& 1 = 0 then 0 else 1) (i + 1))), (0, .ref (ad 85)), (1, .int (nI k)), (2, .int (nI 4)), (4, .int (nI i))]) ?_ (fun j hj jh => ?_)
        · -- loop 35: its end
          refine g_iload C 0 rfl dX5_told_35 ?_
          refine g_bipush C (v := nI 6) dX5_told_37 (by decide) ?_
          refine g_icmp_ge C (tgt := 201) dX5_told_39 (by decide) (fun c39 => ?_) (fun c39 => ?_)
          rotate_left
          · exact absurd c39 (by decide)
          refine g_iinc C 5 rfl (v := nI (i + 1)) (lv' := [(4, .int (nI (i + 1))), (5, .int (nI 6)), (3, .int (s_sum (fun r => if F k (6 * r) &&& 1 = 0 then 0 else 1) (i + 1))), (0, .ref (ad 85)), (1, .int (nI k)), (2, .int (nI 4))]) dX5_told_201 (nI_add _ _) (by decide) rfl ?_
          refine g_goto C (tgt := 5) dX5_told_204 (by decide) ?_
          refine g_lv [0, 2, 3, 4, 5] (lv' := [(4, .int (nI (i + 1))), (3, .int (s_sum (fun r => if F k (6 * r) &&& 1 = 0 then 0 else 1) (i + 1))), (0, .ref (ad 85)), (1, .int (nI k)), (2, .int (nI 4))]) rfl ?_
          exact ih
        · -- loop 35: its body
          refine g_iload C 0 rfl dX5_told_35 ?_
          refine g_bipush C (v := nI 6) dX5_told_37 (by decide) ?_
          refine g_icmp_ge C (tgt := 201) dX5_told_39 (by decide) (fun c39 => ?_) (fun c39 => ?_)
          · -- 201
            have c39 : 6 ≤ j := (nI_leI (by omega) (by omega)).mp c39
            exact absurd c39 (by omega)
          · -- 42
            have c39 : j < 6 := Nat.lt_of_not_le (fun z => c39 ((nI_leI (by omega) (by omega)).mpr z))
            refine g_aload_n C 2 rfl dX5_told_42 ?_
            refine g_getf C 85 (by omega) y1 rfl 11 (by decide) (fun w h => (List.mem_cons_of_mem _ (List.mem_append_right _ h))) (List.mem_of_getElem? (i := 2) rfl) rfl rfl dX5_told_43 ?_
            refine g_iload_n C 3 rfl dX5_told_46 ?_
            refine g_aaldA C 96 (by omega) 2 rfl h13 k rfl (by omega) (by omega) (z14 k (by omega)) dX5_told_47 ?_
            obtain ⟨⟨g86, h87, z88⟩, r89⟩ := id (y8 k (by omega)).2
            refine g_iload C 5 rfl dX5_told_48 ?_
            refine g_aaldA C (B + 12 * k + 6) (by omega) 6 rfl h87 i rfl (by omega) (by decide) (z88 i (by omega)) dX5_told_50 ?_
            obtain ⟨g90, h91, z92⟩ := id (r89 i (by omega))
            refine g_iload C 0 rfl dX5_told_51 ?_
            refine g_zald C (B + 12 * k + 7 + i) (by omega) h91 j rfl (by omega) (by decide) dX5_told_53 ?_
            refine g_top ((z92 j (by omega)) : g90 j = T k (6 * i + j)) ?_
            refine g_istore C (lv' := [(6, .int (T k (6 * i + j))), (5, .int (nI j)), (3, .int (s_sum (fun r => if F k (6 * r) &&& 1 = 0 then 0 else 1) (i + 1))), (0, .ref (ad 85)), (1, .int (nI k)), (2, .int (nI 4)), (4, .int (nI i))]) dX5_told_54 (by decide) rfl ?_
            refine g_aload_n C 3 rfl dX5_told_56 ?_
            refine g_getf C 85 (by omega) y1 rfl 10 (by decide) (fun w h => (List.mem_cons_of_mem _ (List.mem_append_right _ h))) (List.mem_of_getElem? (i := 1) rfl) rfl rfl dX5_told_57 ?_
            refine g_iload_n C 4 rfl dX5_told_60 ?_
            refine g_aaldA C 95 (by omega) 7 rfl h10 k rfl (by omega) (by omega) (z11 k (by omega)) dX5_told_61 ?_
            obtain ⟨⟨g93, h94, z95⟩, r96⟩ := id (y8 k (by omega)).1
            refine g_iload C 6 rfl dX5_told_62 ?_
            refine g_aaldA C (B + 12 * k) (by omega) 5 rfl h94 i rfl (by omega) (by decide) (z95 i (by omega)) dX5_told_64 ?_
            refine g_iload C 1 rfl dX5_told_65 ?_
            refine g_iald C (B + 12 * k + 1 + i) (by omega) h84 j rfl (by omega) (by decide) dX5_told_67 ?_
            refine g_top ((z85 j (by omega)) : g83 j = F k (6 * i + j)) ?_
            refine g_istore C (lv' := [(7, .int (F k (6 * i + j))), (6, .int (T k (6 * i + j))), (5, .int (nI j)), (3, .int (s_sum (fun r => if F k (6 * r) &&& 1 = 0 then 0 else 1) (i + 1))), (0, .ref (ad 85)), (1, .int (nI k)), (2, .int (nI 4)), (4, .int (nI i))]) dX5_told_68 (by decide) rfl ?_
            refine g_iload_n C 6 rfl dX5_told_70 ?_
            refine g_if_ne C (tgt := 87) dX5_told_71 (by decide) (fun c71 => ?_) (fun c71 => ?_)
            rotate_left
            · exact absurd c71 (by decide)
            refine g_iload_n C 6 rfl dX5_told_87 ?_
            refine g_iconst C (v := nI 1) dX5_told_88 (by decide) ?_
            refine g_icmp_ne C (tgt := 110) dX5_told_89 (by decide) (fun c89 => ?_) (fun c89 => ?_)
            rotate_left
            · exact absurd c89 (by decide)
            refine g_iload_n C 6 rfl dX5_told_110 ?_
            refine g_iconst C (v := nI 2) dX5_told_111 (by decide) ?_
            refine g_icmp_ne C (tgt := 125) dX5_told_112 (by decide) (fun c112 => ?_) (fun c112 => ?_)
            rotate_left
            · exact absurd c112 (by decide)
            refine g_iload_n C 6 rfl dX5_told_125 ?_
            refine g_iconst C (v := nI 3) dX5_told_126 (by decide) ?_
            refine g_icmp_ne C (tgt := 195) dX5_told_127 (by decide) (fun c127 => ?_) (fun c127 => ?_)
            rotate_left
            · exact absurd c127 (by decide)
            refine g_iinc C 2 rfl (v := nI (j + 1)) (lv' := [(5, .int (nI (j + 1))), (7, .int (F k (6 * i + j))), (6, .int (T k (6 * i + j))), (3, .int (s_sum (fun r => if F k (6 * r) &&& 1 = 0 then 0 else 1) (i + 1))), (0, .ref (ad 85)), (1, .int (nI k)), (2, .int (nI 4)), (4, .int (nI i))]) dX5_told_195 (nI_add _ _) (by decide) rfl ?_
            refine g_goto C (tgt := 35) dX5_told_198 (by decide) ?_
            refine g_lv [0, 3, 4, 5, 6, 7] (lv' := [(5, .int (nI (j + 1))), (3, .int (s_sum (fun r => if F k (6 * r) &&& 1 = 0 then 0 else 1) (i + 1))), (0, .ref (ad 85)), (1, .int (nI k)), (2, .int (nI 4)), (4, .int (nI i))]) rfl ?_
            exact jh
  · -- what = 5
    refine g_iconst C (v := nI 0) dX5_told_0 (by decide) ?_
    refine g_istore_n C (lv' := [(3, .int (nI 0)), (0, .ref (ad 85)), (1, .int (nI k)), (2, .int (nI 5))]) dX5_told_1 (by decide) rfl ?_
    refine g_iconst C (v := nI 0) dX5_told_2 (by decide) ?_
    refine g_istore C (lv' := [(4, .int (nI 0)), (3, .int (nI 0)), (0, .ref (ad 85)), (1, .int (nI k)), (2, .int (nI 5))]) dX5_told_3 (by decide) rfl ?_
    refine g_lv [0, 1, 2, 3, 4] (lv' := [(4, .int (nI 0)), (3, .int (nI 0)), (0, .ref (ad 85)), (1, .int (nI k)), (2, .int (nI 5))]) rfl ?_
    refine g_for 5 (fun (i : Nat) => [(4, .int (nI i)), (3, .int (nI 0)), (0, .ref (ad 85)), (1, .int (nI k)), (2, .int (nI 5))]) ?_ (fun i hi ih => ?_)
    · -- loop 5: its end
      refine g_iload C 0 rfl dX5_told_5 ?_
      refine g_iconst C (v := nI 5) dX5_told_7 (by decide) ?_
      refine g_icmp_ge C (tgt := 207) dX5_told_8 (by decide) (fun c8 => ?_) (fun c8 => ?_)
      rotate_left
      · exact absurd c8 (by decide)
      refine g_iload_n C 4 rfl dX5_told_207 ?_
      refine g_iconst C (v := nI 5) dX5_told_208 (by decide) ?_
      refine g_icmp_ge C (tgt := 214) dX5_told_209 (by decide) (fun c209 => ?_) (fun c209 => ?_)
      rotate_left
      · exact absurd c209 (by decide)
      refine g_iconst C (v := nI 0) dX5_told_214 (by decide) ?_
      refine g_istore C (lv' := [(4, .int (nI 0)), (3, .int (nI 0)), (0, .ref (ad 85)), (1, .int (nI k)), (2, .int (nI 5))]) dX5_told_215 (by decide) rfl ?_
      refine g_iconst C (v := nI 0) dX5_told_217 (by decide) ?_
      refine g_istore C (lv' := [(5, .int (nI 0)), (4, .int (nI 0)), (3, .int (nI 0)), (0, .ref (ad 85)), (1, .int (nI k)), (2, .int (nI 5))]) dX5_told_218 (by decide) rfl ?_
      refine g_lv [0, 1, 3, 4, 5, 2] (lv' := [(5, .int (nI 0)), (4, .int (nI 0)), (0, .ref (ad 85)), (1, .int (nI k)), (2, .int (nI 5)), (3, .int (nI 0))]) rfl ?_
      refine g_forC 5 (fun a => a) (fun a => 6 * a) (fun (a : Nat) => [(5, .int (nI a)), (4, .int (s_blk (F k) (T k) a)), (0, .ref (ad 85)), (1, .int (nI k)), (2, .int (nI 5)), (3, .int (nI 0))]) ?_ (fun a ha5 aih => ?_)
      · -- loop 220: its end
        refine g_iload C 0 rfl dX5_told_220 ?_
        refine g_iconst C (v := nI 5) dX5_told_222 (by decide) ?_
        refine g_icmp_ge C (tgt := 380) dX5_told_223 (by decide) (fun c223 => ?_) (fun c223 => ?_)
        rotate_left
        · exact absurd c223 (by decide)
        refine g_iload C 1 rfl dX5_told_380 ?_
        exact g_iret C rfl dX5_told_382 () rfl rfl rfl (by rw [s_sheet, if_neg (by decide), if_neg (by decide), if_neg (by decide), if_neg (by decide), if_neg (by decide)] <;> rfl) (by omega) (by omega)
      · -- loop 220: its body
        refine g_iload C 0 rfl dX5_told_220 ?_
        refine g_iconst C (v := nI 5) dX5_told_222 (by decide) ?_
        refine g_icmp_ge C (tgt := 380) dX5_told_223 (by decide) (fun c223 => ?_) (fun c223 => ?_)
        · -- 380
          have c223 : 5 ≤ a := (nI_leI (by omega) (by omega)).mp c223
          exact absurd c223 (by omega)
        · -- 226
          have c223 : a < 5 := Nat.lt_of_not_le (fun z => c223 ((nI_leI (by omega) (by omega)).mpr z))
          refine g_bipush C (v := nI 6) dX5_told_226 (by decide) ?_
          refine g_newa C 1 (List.mem_of_getElem? (i := 3) rfl) (ty := .boolean) rfl rfl (N := 6) (a0 := (6, .inl (fun _ => 0))) (fun cA => rfl) (by decide) (by decide) (by decide) (by show _ ≤ 5; omega) (by show _ ≤ 30; omega) dX5_told_228 (fun ad97 el98 ha99 he100 hb101 => ?_)
          refine g_lveq (lv' := [(5, .int (nI a)), (4, .int (s_blk (F k) (T k) a)), (0, .ref (ad97 85)), (1, .int (nI k)), (2, .int (nI 5)), (3, .int (nI 0))]) (by rw [ha99 85 (by omega)]) ?_
          have m102 : el98 85 = .inr (5, [.int (M 0), .int (M 1), .int (M 2), .int (M 3), .int (M 4), .int (M 5), .ref (ad97 86), .ref (ad97 87), .ref (ad97 88), .ref (ad97 89), .ref (ad97 95), .ref (ad97 96)]) := by rw [hb101 85 (by omega), y1, ha99 86 (by omega), ha99 87 (by omega), ha99 88 (by omega), ha99 89 (by omega), ha99 95 (by omega), ha99 96 (by omega)]
          have m103 := (hb101 95 (by omega)).trans h10
          have m104 := (hb101 96 (by omega)).trans h13
          refine g_dup C dX5_told_230 rfl ?_
          refine g_iconst C (v := nI 0) dX5_told_231 (by decide) ?_
          refine g_iconst C (v := nI 1) dX5_told_232 (by decide) ?_
          refine g_zast C n (by omega) he100 0 rfl (by omega) (by decide) rfl dX5_told_233 (fun el105 e106 o107 => ?_)
          have m108 := (o107 85 (by omega)).trans m102
          have m109 := (o107 95 (by omega)).trans m103
          have m110 := (o107 96 (by omega)).trans m104
          refine g_dup C dX5_told_234 rfl ?_
          refine g_iconst C (v := nI 1) dX5_told_235 (by decide) ?_
          refine g_iconst C (v := nI 1) dX5_told_236 (by decide) ?_
          refine g_zast C n (by omega) e106 1 rfl (by omega) (by decide) rfl dX5_told_237 (fun el111 e112 o113 => ?_)
          have m114 := (o113 85 (by omega)).trans m108
          have m115 := (o113 95 (by omega)).trans m109
          have m116 := (o113 96 (by omega)).trans m110
          refine g_dup C dX5_told_238 rfl ?_
          refine g_iconst C (v := nI 2) dX5_told_239 (by decide) ?_
          refine g_iconst C (v := nI 1) dX5_told_240 (by decide) ?_
          refine g_zast C n (by omega) e112 2 rfl (by omega) (by decide) rfl dX5_told_241 (fun el117 e118 o119 => ?_)
          have m120 := (o119 85 (by omega)).trans m114
          have m121 := (o119 95 (by omega)).trans m115
          have m122 := (o119 96 (by omega)).trans m116
          refine g_dup C dX5_told_242 rfl ?_
          refine g_iconst C (v := nI 3) dX5_told_243 (by decide) ?_
          refine g_iconst C (v := nI 1) dX5_told_244 (by decide) ?_
          refine g_zast C n (by omega) e118 3 rfl (by omega) (by decide) rfl dX5_told_245 (fun el123 e124 o125 => ?_)
          have m126 := (o125 85 (by omega)).trans m120
          have m127 := (o125 95 (by omega)).trans m121
          have m128 := (o125 96 (by omega)).trans m122
          refine g_dup C dX5_told_246 rfl ?_
          refine g_iconst C (v := nI 4) dX5_told_247 (by decide) ?_
          refine g_iconst C (v := nI 1) dX5_told_248 (by decide) ?_
          refine g_zast C n (by omega) e124 4 rfl (by omega) (by decide) rfl dX5_told_249 (fun el129 e130 o131 => ?_)
          have m132 := (o131 85 (by omega)).trans m126
          have m133 := (o131 95 (by omega)).trans m127
          have m134 := (o131 96 (by omega)).trans m128
          refine g_dup C dX5_told_250 rfl ?_
          refine g_iconst C (v := nI 5) dX5_told_251 (by decide) ?_
          refine g_iconst C (v := nI 1) dX5_told_252 (by decide) ?_
          refine g_zast C n (by omega) e130 5 rfl (by omega) (by decide) rfl dX5_told_253 (fun el135 e136 o137 => ?_)
          have m138 := (o137 85 (by omega)).trans m132
          have m139 := (o137 95 (by omega)).trans m133
          have m140 := (o137 96 (by omega)).trans m134
          refine g_astore C (lv' := [(6, .ref (ad97 n)), (5, .int (nI a)), (4, .int (s_blk (F k) (T k) a)), (0, .ref (ad97 85)), (1, .int (nI k)), (2, .int (nI 5)), (3, .int (nI 0))]) dX5_told_254 (by decide) rfl ?_
          refine g_iload C 1 rfl dX5_told_256 ?_
          refine g_istore C (lv' := [(7, .int (nI a)), (6, .ref (ad97 n)), (5, .int (nI a)), (4, .int (s_blk (F k) (T k) a)), (0, .ref (ad97 85)), (1, .int (nI k)), (2, .int (nI 5)), (3, .int (nI 0))]) dX5_told_258 (by decide) rfl ?_
          refine g_lv [0, 3, 2, 1, 4, 5, 6, 7] (lv' := [(7, .int (nI a)), (4, .int (s_blk (F k) (T k) a)), (5, .int (nI a)), (6, .ref (ad97 n)), (0, .ref (ad97 85)), (1, .int (nI k)), (2, .int (nI 5)), (3, .int (nI 0))]) rfl ?_
          have hE1 : ∀ j, j < n → el135 j = el j := fun j hj => (o137 j (by omega)).trans ((o131 j (by omega)).trans ((o125 j (by omega)).trans ((o119 j (by omega)).trans ((o113 j (by omega)).trans ((o107 j (by omega)).trans (hb101 j (by omega)))))))
          have hs1 : SimAt V ad97 el135 B cnt M St We pl F T := (hs.keep (fun j hj => hE1 j (by omega))).adr (fun j hj => ha99 j (by omega))
          have hc0 : ArrZ V el135 n 6 (s_clf (F k) (T k) a 0) := ⟨_, e136, fun j hj => by
            rcases (show j = 0 ∨ j = 1 ∨ j = 2 ∨ j = 3 ∨ j = 4 ∨ j = 5 by omega) with rfl | rfl | rfl | rfl | rfl | rfl <;> rfl⟩
          refine g_forE (5 - a) (fun (b : Nat) => [(7, .int (nI (a + b))), (4, .int (s_down (F k) (T k) a (s_blk (F k) (T k) a) b)), (5, .int (nI a)), (6, .ref (ad97 n)), (0, .ref (ad97 85)), (1, .int (nI k)), (2, .int (nI 5)), (3, .int (nI 0))]) (fun b el1 => ArrZ V el1 n 6 (s_clf (F k) (T k) a b) ∧ ∀ j, j ≠ n → el1 j = el135 j) ⟨hc0, fun j _ => rfl⟩ (fun el1 h1 => ?_) (fun b el1 hb5 h1 bih => ?_)
          · -- loop 260: its end
            obtain ⟨d1, d2⟩ := id h1
            have hs2 : SimAt V ad97 el1 B cnt M St We pl F T := hs1.keep (fun j hj => d2 j (by omega))
            obtain ⟨y141, y142, y143, y144, y145, y146, y147, y148⟩ := id hs2
            obtain ⟨g149, h150, z151⟩ := id y146
            obtain ⟨g152, h153, z154⟩ := id y147
            refine g_iload C 0 rfl dX5_told_260 ?_
            refine g_iconst C (v := nI 5) dX5_told_262 (by decide) ?_
            refine g_icmp_ge C (tgt := 374) dX5_told_263 (by decide) (fun c263 => ?_) (fun c263 => ?_)
            · -- 374
              have c263 : 5 ≤ (a + (5 - a)) := (nI_leI (by omega) (by omega)).mp c263
              refine g_iinc C 2 rfl (v := nI (a + 1)) (lv' := [(5, .int (nI (a + 1))), (7, .int (nI (a + (5 - a)))), (4, .int (s_down (F k) (T k) a (s_blk (F k) (T k) a) (5 - a))), (6, .ref (ad97 n)), (0, .ref (ad97 85)), (1, .int (nI k)), (2, .int (nI 5)), (3, .int (nI 0))]) dX5_told_374 (nI_add _ _) (by decide) rfl ?_
              refine g_goto C (tgt := 220) dX5_told_377 (by decide) ?_
              refine g_lv [0, 2, 4, 5, 6, 7] (lv' := [(5, .int (nI (a + 1))), (4, .int (s_down (F k) (T k) a (s_blk (F k) (T k) a) (5 - a))), (0, .ref (ad97 85)), (1, .int (nI k)), (2, .int (nI 5)), (3, .int (nI 0))]) rfl ?_
              have hend : ∀ k, k < n → el1 k = el k := fun k hk9 => (d2 k (by omega)).trans (hE1 k hk9)
              refine g_lveq (lv' := [(5, .int (nI (a + 1))), (4, .int (s_blk (F k) (T k) (a + 1))), (0, .ref (ad 85)), (1, .int (nI k)), (2, .int (nI 5)), (3, .int (nI 0))]) (by rw [ha99 85 (by omega)] <;> rfl) ?_
              refine g_perm (fun k => k) (n' := n) (ad' := ad) (el' := el) (fun k h => by omega) (fun i j _ _ h => h) (fun k h => (ha99 k h).symm) (fun k h => (hend k h).symm) ?_
              exact aih
            · -- 266
              have c263 : (a + (5 - a)) < 5 := Nat.lt_of_not_le (fun z => c263 ((nI_leI (by omega) (by omega)).mpr z))
              exact absurd c263 (by omega)
          · -- loop 260: its body
            obtain ⟨d1, d2⟩ := id h1
            have hs2 : SimAt V ad97 el1 B cnt M St We pl F T := hs1.keep (fun j hj => d2 j (by omega))
            obtain ⟨y155, y156, y157, y158, y159, y160, y161, y162⟩ := id hs2
            obtain ⟨g163, h164, z165⟩ := id y160
            obtain ⟨g166, h167, z168⟩ := id y161
            refine g_iload C 0 rfl dX5_told_260 ?_
            refine g_iconst C (v := nI 5) dX5_told_262 (by decide) ?_
            refine g_icmp_ge C (tgt := 374) dX5_told_263 (by decide) (fun c263 => ?_) (fun c263 => ?_)
            · -- 374
              have c263 : 5 ≤ (a + b) := (nI_leI (by omega) (by omega)).mp c263
              exact absurd c263 (by omega)
            · -- 266
              have c263 : (a + b) < 5 := Nat.lt_of_not_le (fun z => c263 ((nI_leI (by omega) (by omega)).mpr z))
              refine g_iconst C (v := nI 0) dX5_told_266 (by decide) ?_
              refine g_istore C (lv' := [(8, .int (nI 0)), (7, .int (nI (a + b))), (4, .int (s_down (F k) (T k) a (s_blk (F k) (T k) a) b)), (5, .int (nI a)), (6, .ref (ad97 n)), (0, .ref (ad97 85)), (1, .int (nI k)), (2, .int (nI 5)), (3, .int (nI 0))]) dX5_told_267 (by decide) rfl ?_
              refine g_iconst C (v := nI 0) dX5_told_269 (by decide) ?_
              refine g_istore C (lv' := [(9, .int (nI 0)), (8, .int (nI 0)), (7, .int (nI (a + b))), (4, .int (s_down (F k) (T k) a (s_blk (F k) (T k) a) b)), (5, .int (nI a)), (6, .ref (ad97 n)), (0, .ref (ad97 85)), (1, .int (nI k)), (2, .int (nI 5)), (3, .int (nI 0))]) dX5_told_270 (by decide) rfl ?_
              refine g_lv [0, 1, 3, 2, 4, 5, 6, 7, 8, 9] (lv' := [(9, .int (nI 0)), (8, .int (nI 0)), (4, .int (s_down (F k) (T k) a (s_blk (F k) (T k) a) b)), (7, .int (nI (a + b))), (5, .int (nI a)), (6, .ref (ad97 n)), (0, .ref (ad97 85)), (1, .int (nI k)), (2, .int (nI 5)), (3, .int (nI 0))]) rfl ?_
              have hD0 := blk_0 (s_cols (F k) (T k) a (b + 1)) (b + 1) (s_down_ge (F k) (T k) a (s_blk_ge (F k) (T k) a) b)
              refine g_lveq (lv' := [(9, .int (nI 0)), (8, .int (s_run (s_cols (F k) (T k) a (b + 1)) 0)), (4, .int (s_max (s_down (F k) (T k) a (s_blk (F k) (T k) a) b) (nI (b + 1) * s_longest (s_cols (F k) (T k) a (b + 1)) 0))), (7, .int (nI (a + b))), (5, .int (nI a)), (6, .ref (ad97 n)), (0, .ref (ad97 85)), (1, .int (nI k)), (2, .int (nI 5)), (3, .int (nI 0))]) (congrArg (fun z : Int32 => ([(9, .int (nI 0)), (8, .int (nI 0)), (4, .int z), (7, .int (nI (a + b))), (5, .int (nI a)), (6, .ref (ad97 n)), (0, .ref (ad97 85)), (1, .int (nI k)), (2, .int (nI 5)), (3, .int (nI 0))] : List (Nat × Value))) hD0.symm) ?_
              refine g_forE 6 (fun (j : Nat) => [(9, .int (nI j)), (8, .int (s_run (s_cols (F k) (T k) a (b + 1)) j)), (4, .int (s_max (s_down (F k) (T k) a (s_blk (F k) (T k) a) b) (nI (b + 1) * s_longest (s_cols (F k) (T k) a (b + 1)) j))), (7, .int (nI (a + b))), (5, .int (nI a)), (6, .ref (ad97 n)), (0, .ref (ad97 85)), (1, .int (nI k)), (2, .int (nI 5)), (3, .int (nI 0))]) (fun j el2 => ArrZ V el2 n 6 (fun q => if q < j then s_clf (F k) (T k) a (b + 1) q else s_clf (F k) (T k) a b q) ∧ ∀ j, j ≠ n → el2 j = el1 j) ⟨d1.cg (fun q hq => if_neg (by omega)), fun j _ => rfl⟩ (fun el2 h2 => ?_) (fun j el2 hj h2 jh => ?_)
              · -- loop 272: its end
                obtain ⟨f1, f2⟩ := id h2
                have hs3 : SimAt V ad97 el2 B cnt M St We pl F T := hs2.keep (fun j hj => f2 j (by omega))
                obtain ⟨y169, y170, y171, y172, y173, y174, y175, y176⟩ := id hs3
                obtain ⟨g177, h178, z179⟩ := id y174
                obtain ⟨g180, h181, z182⟩ := id y175
                refine g_iload C 0 rfl dX5_told_272 ?_
                refine g_bipush C (v := nI 6) dX5_told_274 (by decide) ?_
                refine g_icmp_ge C (tgt := 368) dX5_told_276 (by decide) (fun c276 => ?_) (fun c276 => ?_)
                rotate_left
                · exact absurd c276 (by decide)
                refine g_iinc C 3 rfl (v := nI (a + b + 1)) (lv' := [(7, .int (nI (a + b + 1))), (9, .int (nI 6)), (8, .int (s_run (s_cols (F k) (T k) a (b + 1)) 6)), (4, .int (s_max (s_down (F k) (T k) a (s_blk (F k) (T k) a) b) (nI (b + 1) * s_longest (s_cols (F k) (T k) a (b + 1)) 6))), (5, .int (nI a)), (6, .ref (ad97 n)), (0, .ref (ad97 85)), (1, .int (nI k)), (2, .int (nI 5)), (3, .int (nI 0))]) dX5_told_368 (nI_add _ _) (by decide) rfl ?_
                refine g_goto C (tgt := 260) dX5_told_371 (by decide) ?_
                refine g_lv [0, 3, 4, 5, 6, 7, 8, 9] (lv' := [(7, .int (nI (a + b + 1))), (4, .int (s_max (s_down (F k) (T k) a (s_blk (F k) (T k) a) b) (nI (b + 1) * s_longest (s_cols (F k) (T k) a (b + 1)) 6))), (5, .int (nI a)), (6, .ref (ad97 n)), (0, .ref (ad97 85)), (1, .int (nI k)), (2, .int (nI 5)), (3, .int (nI 0))]) rfl ?_
                exact bih _ ⟨f1.cg (fun q hq => (if_pos hq).symm), fun j hj => (f2 j hj).trans (d2 j hj)⟩
              · -- loop 272: its body
                obtain ⟨f1, f2⟩ := id h2
                have hs3 : SimAt V ad97 el2 B cnt M St We pl F T := hs2.keep (fun j hj => f2 j (by omega))
                obtain ⟨y183, y184, y185, y186, y187, y188, y189, y190⟩ := id hs3
                obtain ⟨g191, h192, z193⟩ := id y188
                obtain ⟨g194, h195, z196⟩ := id y189
                obtain ⟨g197, h198, z199⟩ := id f1
                refine g_iload C 0 rfl dX5_told_272 ?_
                refine g_bipush C (v := nI 6) dX5_told_274 (by decide) ?_
                refine g_icmp_ge C (tgt := 368) dX5_told_276 (by decide) (fun c276 => ?_) (fun c276 => ?_)
                · -- 368
                  have c276 : 6 ≤ j := (nI_leI (by omega) (by omega)).mp c276
                  exact absurd c276 (by omega)
                · -- 279
                  have c276 : j < 6 := Nat.lt_of_not_le (fun z => c276 ((nI_leI (by omega) (by omega)).mpr z))
                  refine g_aload C 5 rfl dX5_told_279 ?_
                  refine g_iload C 0 rfl dX5_told_281 ?_
                  refine g_aload C 5 rfl dX5_told_283 ?_
                  refine g_iload C 0 rfl dX5_told_285 ?_
                  refine g_zald C n (by omega) h198 j rfl (by omega) (by decide) dX5_told_287 ?_
                  refine g_top (((z199 j (by omega)).trans (if_neg (Nat.lt_irrefl j))) : g197 j = s_clf (F k) (T k) a b j) ?_
                  refine g_via (fun v : Int32 => v = s_clf (F k) (T k) a (b + 1) j) 326 (fun _ => [(9, .int (nI j)), (8, .int (s_run (s_cols (F k) (T k) a (b + 1)) j)), (4, .int (s_max (s_down (F k) (T k) a (s_blk (F k) (T k) a) b) (nI (b + 1) * s_longest (s_cols (F k) (T k) a (b + 1)) j))), (7, .int (nI (a + b))), (5, .int (nI a)), (6, .ref (ad97 n)), (0, .ref (ad97 85)), (1, .int (nI k)), (2, .int (nI 5)), (3, .int (nI 0))]) (fun v => .int v :: [.int (nI j), .ref (ad97 n)]) (fun v hv => ?_) (fun J => ?_)
                  · -- join
                    subst hv
                    refine g_zast C n (by omega) h198 j rfl (by omega) (by decide) (s_clf_nar _ _ _ _ _) dX5_told_326 (fun el200 e201 o202 => ?_)
                    have m203 := (o202 85 (by omega)).trans y183
                    have m204 := (o202 95 (by omega)).trans h192
                    have m205 := (o202 96 (by omega)).trans h195
                    refine g_aload C 5 rfl dX5_told_327 ?_
                    refine g_iload C 0 rfl dX5_told_329 ?_
                    refine g_zald C n (by omega) e201 j rfl (by omega) (by decide) dX5_told_331 ?_
                    refine g_top (pk_us : (upd g197 j (s_clf (F k) (T k) a (b + 1) j)) j = s_clf (F k) (T k) a (b + 1) j) ?_
                    refine g_via (fun v : Int32 => v = s_run (s_cols (F k) (T k) a (b + 1)) (j + 1)) 343 (fun _ => [(9, .int (nI j)), (8, .int (s_run (s_cols (F k) (T k) a (b + 1)) j)), (4, .int (s_max (s_down (F k) (T k) a (s_blk (F k) (T k) a) b) (nI (b + 1) * s_longest (s_cols (F k) (T k) a (b + 1)) j))), (7, .int (nI (a + b))), (5, .int (nI a)), (6, .ref (ad97 n)), (0, .ref (ad97 85)), (1, .int (nI k)), (2, .int (nI 5)), (3, .int (nI 0))]) (fun v => .int v :: []) (fun v hv => ?_) (fun J => ?_)
                    · -- join
                      subst hv
                      refine g_istore C (lv' := [(8, .int (s_run (s_cols (F k) (T k) a (b + 1)) (j + 1))), (9, .int (nI j)), (4, .int (s_max (s_down (F k) (T k) a (s_blk (F k) (T k) a) b) (nI (b + 1) * s_longest (s_cols (F k) (T k) a (b + 1)) j))), (7, .int (nI (a + b))), (5, .int (nI a)), (6, .ref (ad97 n)), (0, .ref (ad97 85)), (1, .int (nI k)), (2, .int (nI 5)), (3, .int (nI 0))]) dX5_told_343 (by decide) rfl ?_
                      refine g_iload C 2 rfl dX5_told_345 ?_
                      refine g_iload C 0 rfl dX5_told_347 ?_
                      refine g_iload C 3 rfl dX5_told_349 ?_
                      refine g_iload C 4 rfl dX5_told_351 ?_
                      refine g_isub C (v := nI b) dX5_told_353 (by rw [pk_sub (by omega)]; exact congrArg nI (by omega)) ?_
                      refine g_iconst C (v := nI 1) dX5_told_354 (by decide) ?_
                      refine g_iadd C (v := nI (b + 1)) dX5_told_355 (nI_add _ _) ?_
                      refine g_imul C (v := (s_run (s_cols (F k) (T k) a (b + 1)) (j + 1)) * (nI (b + 1))) dX5_told_356 rfl ?_
                      refine g_mmax C (v := s_max (s_max (s_down (F k) (T k) a (s_blk (F k) (T k) a) b) (nI (b + 1) * s_longest (s_cols (F k) (T k) a (b + 1)) j)) ((s_run (s_cols (F k) (T k) a (b + 1)) (j + 1)) * (nI (b + 1)))) rfl (List.mem_of_getElem? (i := 4) rfl) (List.mem_of_getElem? (i := 5) rfl) (List.mem_of_getElem? (i := 6) rfl) (List.mem_of_getElem? (i := 7) rfl) (Nat.le_of_ble_eq_true rfl) (Nat.le_of_ble_eq_true rfl) (by show _ ≤ 5; omega) (by show _ ≤ 30; omega) dX5_told_357 ?_
                      refine g_istore C (lv' := [(4, .int (s_max (s_max (s_down (F k) (T k) a (s_blk (F k) (T k) a) b) (nI (b + 1) * s_longest (s_cols (F k) (T k) a (b + 1)) j)) ((s_run (s_cols (F k) (T k) a (b + 1)) (j + 1)) * (nI (b + 1))))), (8, .int (s_run (s_cols (F k) (T k) a (b + 1)) (j + 1))), (9, .int (nI j)), (7, .int (nI (a + b))), (5, .int (nI a)), (6, .ref (ad97 n)), (0, .ref (ad97 85)), (1, .int (nI k)), (2, .int (nI 5)), (3, .int (nI 0))]) dX5_told_360 (by decide) rfl ?_
                      refine g_iinc C 2 rfl (v := nI (j + 1)) (lv' := [(9, .int (nI (j + 1))), (4, .int (s_max (s_max (s_down (F k) (T k) a (s_blk (F k) (T k) a) b) (nI (b + 1) * s_longest (s_cols (F k) (T k) a (b + 1)) j)) ((s_run (s_cols (F k) (T k) a (b + 1)) (j + 1)) * (nI (b + 1))))), (8, .int (s_run (s_cols (F k) (T k) a (b + 1)) (j + 1))), (7, .int (nI (a + b))), (5, .int (nI a)), (6, .ref (ad97 n)), (0, .ref (ad97 85)), (1, .int (nI k)), (2, .int (nI 5)), (3, .int (nI 0))]) dX5_told_362 (nI_add _ _) (by decide) rfl ?_
                      refine g_goto C (tgt := 272) dX5_told_365 (by decide) ?_
                      refine g_lv [0, 2, 1, 3, 4, 5, 6, 7, 8, 9] (lv' := [(9, .int (nI (j + 1))), (8, .int (s_run (s_cols (F k) (T k) a (b + 1)) (j + 1))), (4, .int (s_max (s_max (s_down (F k) (T k) a (s_blk (F k) (T k) a) b) (nI (b + 1) * s_longest (s_cols (F k) (T k) a (b + 1)) j)) ((s_run (s_cols (F k) (T k) a (b + 1)) (j + 1)) * (nI (b + 1))))), (7, .int (nI (a + b))), (5, .int (nI a)), (6, .ref (ad97 n)), (0, .ref (ad97 85)), (1, .int (nI k)), (2, .int (nI 5)), (3, .int (nI 0))]) rfl ?_
                      have e9 := blk_step (s_down (F k) (T k) a (s_blk (F k) (T k) a) b) (s_cols (F k) (T k) a (b + 1)) (b + 1) j (by omega) hj
                      refine g_lveq (lv' := [(9, .int (nI (j + 1))), (8, .int (s_run (s_cols (F k) (T k) a (b + 1)) (j + 1))), (4, .int (s_max (s_down (F k) (T k) a (s_blk (F k) (T k) a) b) (nI (b + 1) * s_longest (s_cols (F k) (T k) a (b + 1)) (j + 1)))), (7, .int (nI (a + b))), (5, .int (nI a)), (6, .ref (ad97 n)), (0, .ref (ad97 85)), (1, .int (nI k)), (2, .int (nI 5)), (3, .int (nI 0))]) (by rw [e9] <;> rfl) ?_
                      exact jh _ ⟨⟨_, e201, fun q hq => by
                          (try dsimp only)
                          by_cases e : q = j
                          · subst e; rw [pk_us, if_pos (by omega)]
                          · rw [pk_un e, z199 q hq]
                            (try dsimp only)
                            by_cases e2 : q < j
                            · rw [if_pos e2, if_pos (by omega)]
                            · rw [if_neg e2, if_neg (by omega)]⟩, fun q hq => (o202 q hq).trans (f2 q hq)⟩
                    · -- ways
                      refine g_if_eq C (tgt := 342) dX5_told_332 (by decide) (fun c332 => ?_) (fun c332 => ?_)
                      · -- 342
                        refine g_iconst C (v := nI 0) dX5_told_342 (by decide) ?_
                        refine g_lv [0, 1, 2, 3, 4, 5, 6, 7, 8, 9] (lv' := [(9, .int (nI j)), (8, .int (s_run (s_cols (F k) (T k) a (b + 1)) j)), (4, .int (s_max (s_down (F k) (T k) a (s_blk (F k) (T k) a) b) (nI (b + 1) * s_longest (s_cols (F k) (T k) a (b + 1)) j))), (7, .int (nI (a + b))), (5, .int (nI a)), (6, .ref (ad97 n)), (0, .ref (ad97 85)), (1, .int (nI k)), (2, .int (nI 5)), (3, .int (nI 0))]) rfl ?_
                        exact J _ ((by rw [s_run, if_pos ((s_clf_bit (F k) (T k) a b hj).mp c332)] <;> rfl))
                      · -- 335
                        refine g_iload C 1 rfl dX5_told_335 ?_
                        refine g_iconst C (v := nI 1) dX5_told_337 (by decide) ?_
                        refine g_iadd C (v := (s_run (s_cols (F k) (T k) a (b + 1)) j) + 1) dX5_told_338 rfl ?_
                        refine g_goto C (tgt := 343) dX5_told_339 (by decide) ?_
                        refine g_lv [0, 1, 2, 3, 4, 5, 6, 7, 8, 9] (lv' := [(9, .int (nI j)), (8, .int (s_run (s_cols (F k) (T k) a (b + 1)) j)), (4, .int (s_max (s_down (F k) (T k) a (s_blk (F k) (T k) a) b) (nI (b + 1) * s_longest (s_cols (F k) (T k) a (b + 1)) j))), (7, .int (nI (a + b))), (5, .int (nI a)), (6, .ref (ad97 n)), (0, .ref (ad97 85)), (1, .int (nI k)), (2, .int (nI 5)), (3, .int (nI 0))]) rfl ?_
                        exact J _ ((by rw [s_run, if_neg (fun z => c332 ((s_clf_bit (F k) (T k) a b hj).mpr z))] <;> rfl))
                  · -- ways
                    refine g_if_eq C (tgt := 325) dX5_told_288 (by decide) (fun c288 => ?_) (fun c288 => ?_)
                    · -- 325
                      refine g_iconst C (v := nI 0) dX5_told_325 (by decide) ?_
                      refine g_lv [0, 1, 2, 3, 4, 5, 6, 7, 8, 9] (lv' := [(9, .int (nI j)), (8, .int (s_run (s_cols (F k) (T k) a (b + 1)) j)), (4, .int (s_max (s_down (F k) (T k) a (s_blk (F k) (T k) a) b) (nI (b + 1) * s_longest (s_cols (F k) (T k) a (b + 1)) j))), (7, .int (nI (a + b))), (5, .int (nI a)), (6, .ref (ad97 n)), (0, .ref (ad97 85)), (1, .int (nI k)), (2, .int (nI 5)), (3, .int (nI 0))]) rfl ?_
                      exact J _ ((by rw [s_clf, if_pos c288] <;> rfl))
                    · -- 291
                      refine g_aload_n C 6 rfl dX5_told_291 ?_
                      refine g_getf C 85 (by omega) y183 rfl 11 (by decide) (fun w h => (List.mem_cons_of_mem _ (List.mem_append_right _ h))) (List.mem_of_getElem? (i := 2) rfl) rfl rfl dX5_told_292 ?_
                      refine g_iload_n C 7 rfl dX5_told_295 ?_
                      refine g_aaldA C 96 (by omega) 2 rfl h195 k rfl (by omega) (by omega) (z196 k (by omega)) dX5_told_296 ?_
                      obtain ⟨⟨g206, h207, z208⟩, r209⟩ := id (y190 k (by omega)).2
                      refine g_iload C 3 rfl dX5_told_297 ?_
                      refine g_aaldA C (B + 12 * k + 6) (by omega) 6 rfl h207 (a + b) rfl (by omega) (by decide) (z208 (a + b) (by omega)) dX5_told_299 ?_
                      obtain ⟨g210, h211, z212⟩ := id (r209 (a + b) (by omega))
                      refine g_iload C 0 rfl dX5_told_300 ?_
                      refine g_zald C (B + 12 * k + 7 + (a + b)) (by omega) h211 j rfl (by omega) (by decide) dX5_told_302 ?_
                      refine g_top ((z212 j (by omega)) : g210 j = T k (6 * (a + b) + j)) ?_
                      refine g_if_ne C (tgt := 325) dX5_told_303 (by decide) (fun c303 => ?_) (fun c303 => ?_)
                      · -- 325
                        refine g_iconst C (v := nI 0) dX5_told_325 (by decide) ?_
                        refine g_lv [0, 1, 2, 3, 4, 5, 6, 7, 8, 9] (lv' := [(9, .int (nI j)), (8, .int (s_run (s_cols (F k) (T k) a (b + 1)) j)), (4, .int (s_max (s_down (F k) (T k) a (s_blk (F k) (T k) a) b) (nI (b + 1) * s_longest (s_cols (F k) (T k) a (b + 1)) j))), (7, .int (nI (a + b))), (5, .int (nI a)), (6, .ref (ad97 n)), (0, .ref (ad97 85)), (1, .int (nI k)), (2, .int (nI 5)), (3, .int (nI 0))]) rfl ?_
                        exact J _ ((by rw [s_clf, if_neg c288, if_neg (fun z => c303 z.1)] <;> rfl))
                      · -- 306
                        refine g_aload_n C 6 rfl dX5_told_306 ?_
                        refine g_getf C 85 (by omega) y183 rfl 10 (by decide) (fun w h => (List.mem_cons_of_mem _ (List.mem_append_right _ h))) (List.mem_of_getElem? (i := 1) rfl) rfl rfl dX5_told_307 ?_
                        refine g_iload_n C 7 rfl dX5_told_310 ?_
                        refine g_aaldA C 95 (by omega) 7 rfl h192 k rfl (by omega) (by omega) (z193 k (by omega)) dX5_told_311 ?_
                        obtain ⟨⟨g213, h214, z215⟩, r216⟩ := id (y190 k (by omega)).1
                        refine g_iload C 3 rfl dX5_told_312 ?_
                        refine g_aaldA C (B + 12 * k) (by omega) 5 rfl h214 (a + b) rfl (by omega) (by decide) (z215 (a + b) (by omega)) dX5_told_314 ?_
                        obtain ⟨g217, h218, z219⟩ := id (r216 (a + b) (by omega))
                        refine g_iload C 0 rfl dX5_told_315 ?_
                        refine g_iald C (B + 12 * k + 1 + (a + b)) (by omega) h218 j rfl (by omega) (by decide) dX5_told_317 ?_
                        refine g_top ((z219 j (by omega)) : g217 j = F k (6 * (a + b) + j)) ?_
                        refine g_if_ne C (tgt := 325) dX5_told_318 (by decide) (fun c318 => ?_) (fun c318 => ?_)
                        · -- 325
                          refine g_iconst C (v := nI 0) dX5_told_325 (by decide) ?_
                          refine g_lv [0, 1, 2, 3, 4, 5, 6, 7, 8, 9] (lv' := [(9, .int (nI j)), (8, .int (s_run (s_cols (F k) (T k) a (b + 1)) j)), (4, .int (s_max (s_down (F k) (T k) a (s_blk (F k) (T k) a) b) (nI (b + 1) * s_longest (s_cols (F k) (T k) a (b + 1)) j))), (7, .int (nI (a + b))), (5, .int (nI a)), (6, .ref (ad97 n)), (0, .ref (ad97 85)), (1, .int (nI k)), (2, .int (nI 5)), (3, .int (nI 0))]) rfl ?_
                          exact J _ ((by rw [s_clf, if_neg c288, if_neg (fun z => c318 z.2)] <;> rfl))
                        · -- 321
                          refine g_iconst C (v := nI 1) dX5_told_321 (by decide) ?_
                          refine g_goto C (tgt := 326) dX5_told_322 (by decide) ?_
                          refine g_lv [0, 1, 2, 3, 4, 5, 6, 7, 8, 9] (lv' := [(9, .int (nI j)), (8, .int (s_run (s_cols (F k) (T k) a (b + 1)) j)), (4, .int (s_max (s_down (F k) (T k) a (s_blk (F k) (T k) a) b) (nI (b + 1) * s_longest (s_cols (F k) (T k) a (b + 1)) j))), (7, .int (nI (a + b))), (5, .int (nI a)), (6, .ref (ad97 n)), (0, .ref (ad97 85)), (1, .int (nI k)), (2, .int (nI 5)), (3, .int (nI 0))]) rfl ?_
                          exact J _ ((by rw [s_clf, if_neg c288, if_pos ⟨c303, c318⟩] <;> rfl))
    · -- loop 5: its body
      refine g_iload C 0 rfl dX5_told_5 ?_
      refine g_iconst C (v := nI 5) dX5_told_7 (by decide) ?_
      refine g_icmp_ge C (tgt := 207) dX5_told_8 (by decide) (fun c8 => ?_) (fun c8 => ?_)
      · -- 207
        have c8 : 5 ≤ i := (nI_leI (by omega) (by omega)).mp c8
        exact absurd c8 (by omega)
      · -- 11
        have c8 : i < 5 := Nat.lt_of_not_le (fun z => c8 ((nI_leI (by omega) (by omega)).mpr z))
        refine g_iload_n C 4 rfl dX5_told_11 ?_
        refine g_iconst C (v := nI 4) dX5_told_12 (by decide) ?_
        refine g_icmp_ne C (tgt := 32) dX5_told_13 (by decide) (fun c13 => ?_) (fun c13 => ?_)
        rotate_left
        · exact absurd c13 (by decide)
        refine g_iconst C (v := nI 0) dX5_told_32 (by decide) ?_
        refine g_istore C (lv' := [(5, .int (nI 0)), (4, .int (nI i)), (3, .int (nI 0)), (0, .ref (ad 85)), (1, .int (nI k)), (2, .int (nI 5))]) dX5_told_33 (by decide) rfl ?_
        refine g_lv [0, 2, 3, 4, 5, 1] (lv' := [(5, .int (nI 0)), (3, .int (nI 0)), (0, .ref (ad 85)), (1, .int (nI k)), (2, .int (nI 5)), (4, .int (nI i))]) rfl ?_
        refine g_for 6 (fun (j : Nat) => [(5, .int (nI j)), (3, .int (nI 0)), (0, .ref (ad 85)), (1, .int (nI k)), (2, .int (nI 5)), (4, .int (nI i))]) ?_ (fun j hj jh => ?_)
        · -- loop 35: its end
          refine g_iload C 0 rfl dX5_told_35 ?_
          refine g_bipush C (v := nI 6) dX5_told_37 (by decide) ?_
          refine g_icmp_ge C (tgt := 201) dX5_told_39 (by decide) (fun c39 => ?_) (fun c39 => ?_)
          rotate_left
          · exact absurd c39 (by decide)
          refine g_iinc C 5 rfl (v := nI (i + 1)) (lv' := [(4, .int (nI (i + 1))), (5, .int (nI 6)), (3, .int (nI 0)), (0, .ref (ad 85)), (1, .int (nI k)), (2, .int (nI 5))]) dX5_told_201 (nI_add _ _) (by decide) rfl ?_
          refine g_goto C (tgt := 5) dX5_told_204 (by decide) ?_
          refine g_lv [0, 2, 3, 4, 5] (lv' := [(4, .int (nI (i + 1))), (3, .int (nI 0)), (0, .ref (ad 85)), (1, .int (nI k)), (2, .int (nI 5))]) rfl ?_
          exact ih
        · -- loop 35: its body
          refine g_iload C 0 rfl dX5_told_35 ?_
          refine g_bipush C (v := nI 6) dX5_told_37 (by decide) ?_
          refine g_icmp_ge C (tgt := 201) dX5_told_39 (by decide) (fun c39 => ?_) (fun c39 => ?_)
          · -- 201
            have c39 : 6 ≤ j := (nI_leI (by omega) (by omega)).mp c39
            exact absurd c39 (by omega)
          · -- 42
            have c39 : j < 6 := Nat.lt_of_not_le (fun z => c39 ((nI_leI (by omega) (by omega)).mpr z))
            refine g_aload_n C 2 rfl dX5_told_42 ?_
            refine g_getf C 85 (by omega) y1 rfl 11 (by decide) (fun w h => (List.mem_cons_of_mem _ (List.mem_append_right _ h))) (List.mem_of_getElem? (i := 2) rfl) rfl rfl dX5_told_43 ?_
            refine g_iload_n C 3 rfl dX5_told_46 ?_
            refine g_aaldA C 96 (by omega) 2 rfl h13 k rfl (by omega) (by omega) (z14 k (by omega)) dX5_told_47 ?_
            obtain ⟨⟨g220, h221, z222⟩, r223⟩ := id (y8 k (by omega)).2
            refine g_iload C 5 rfl dX5_told_48 ?_
            refine g_aaldA C (B + 12 * k + 6) (by omega) 6 rfl h221 i rfl (by omega) (by decide) (z222 i (by omega)) dX5_told_50 ?_
            obtain ⟨g224, h225, z226⟩ := id (r223 i (by omega))
            refine g_iload C 0 rfl dX5_told_51 ?_
            refine g_zald C (B + 12 * k + 7 + i) (by omega) h225 j rfl (by omega) (by decide) dX5_told_53 ?_
            refine g_top ((z226 j (by omega)) : g224 j = T k (6 * i + j)) ?_
            refine g_istore C (lv' := [(6, .int (T k (6 * i + j))), (5, .int (nI j)), (3, .int (nI 0)), (0, .ref (ad 85)), (1, .int (nI k)), (2, .int (nI 5)), (4, .int (nI i))]) dX5_told_54 (by decide) rfl ?_
            refine g_aload_n C 3 rfl dX5_told_56 ?_
            refine g_getf C 85 (by omega) y1 rfl 10 (by decide) (fun w h => (List.mem_cons_of_mem _ (List.mem_append_right _ h))) (List.mem_of_getElem? (i := 1) rfl) rfl rfl dX5_told_57 ?_
            refine g_iload_n C 4 rfl dX5_told_60 ?_
            refine g_aaldA C 95 (by omega) 7 rfl h10 k rfl (by omega) (by omega) (z11 k (by omega)) dX5_told_61 ?_
            obtain ⟨⟨g227, h228, z229⟩, r230⟩ := id (y8 k (by omega)).1
            refine g_iload C 6 rfl dX5_told_62 ?_
            refine g_aaldA C (B + 12 * k) (by omega) 5 rfl h228 i rfl (by omega) (by decide) (z229 i (by omega)) dX5_told_64 ?_
            obtain ⟨g231, h232, z233⟩ := id (r230 i (by omega))
            refine g_iload C 1 rfl dX5_told_65 ?_
            refine g_iald C (B + 12 * k + 1 + i) (by omega) h232 j rfl (by omega) (by decide) dX5_told_67 ?_
            refine g_top ((z233 j (by omega)) : g231 j = F k (6 * i + j)) ?_
            refine g_istore C (lv' := [(7, .int (F k (6 * i + j))), (6, .int (T k (6 * i + j))), (5, .int (nI j)), (3, .int (nI 0)), (0, .ref (ad 85)), (1, .int (nI k)), (2, .int (nI 5)), (4, .int (nI i))]) dX5_told_68 (by decide) rfl ?_
            refine g_iload_n C 6 rfl dX5_told_70 ?_
            refine g_if_ne C (tgt := 87) dX5_told_71 (by decide) (fun c71 => ?_) (fun c71 => ?_)
            rotate_left
            · exact absurd c71 (by decide)
            refine g_iload_n C 6 rfl dX5_told_87 ?_
            refine g_iconst C (v := nI 1) dX5_told_88 (by decide) ?_
            refine g_icmp_ne C (tgt := 110) dX5_told_89 (by decide) (fun c89 => ?_) (fun c89 => ?_)
            rotate_left
            · exact absurd c89 (by decide)
            refine g_iload_n C 6 rfl dX5_told_110 ?_
            refine g_iconst C (v := nI 2) dX5_told_111 (by decide) ?_
            refine g_icmp_ne C (tgt := 125) dX5_told_112 (by decide) (fun c112 => ?_) (fun c112 => ?_)
            rotate_left
            · exact absurd c112 (by decide)
            refine g_iload_n C 6 rfl dX5_told_125 ?_
            refine g_iconst C (v := nI 3) dX5_told_126 (by decide) ?_
            refine g_icmp_ne C (tgt := 195) dX5_told_127 (by decide) (fun c127 => ?_) (fun c127 => ?_)
            rotate_left
            · exact absurd c127 (by decide)
            refine g_iinc C 2 rfl (v := nI (j + 1)) (lv' := [(5, .int (nI (j + 1))), (7, .int (F k (6 * i + j))), (6, .int (T k (6 * i + j))), (3, .int (nI 0)), (0, .ref (ad 85)), (1, .int (nI k)), (2, .int (nI 5)), (4, .int (nI i))]) dX5_told_195 (nI_add _ _) (by decide) rfl ?_
            refine g_goto C (tgt := 35) dX5_told_198 (by decide) ?_
            refine g_lv [0, 3, 4, 5, 6, 7] (lv' := [(5, .int (nI (j + 1))), (3, .int (nI 0)), (0, .ref (ad 85)), (1, .int (nI k)), (2, .int (nI 5)), (4, .int (nI i))]) rfl ?_
            exact jh
