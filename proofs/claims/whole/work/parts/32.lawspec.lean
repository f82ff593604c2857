/-! ===== the law's loop: what holds at its head; rows of the script; lemmas of its cases ===== -/
theorem lg_cmp_same (x : Int64) : lg_cmp x x = 0 := by
  have h : ¬ x > x := fun z => by
    have h1 := (lg_cmp_lt x x).mpr z
    have h2 := (lg_cmp_ge x x).mpr (Int64.le_refl x)
    exact absurd h1 (i_nlt h2)
  unfold lg_cmp
  rw [if_neg h, if_pos rfl]
abbrev AL (s : State) : Nat → Prop := fun q => s.heap.size ≤ q
section GSC
variable {p : Program} {l : Launch} {e : Env} {R : Room} {s : State} {m : MethodId} {args : Array Value} {below : List Frame} {meth : Method} {c : Code} {V : gT} {nL : Nat} {Q : State → Prop} {n : Nat} {ad : Nat → Nat} {el : Nat → va_E} {cells slots pc : Nat} {lv : List (Nat × Value)} {st : List Value} {own : String} {cc : ByteArray} {ret : Option FieldType} {Ts : List Cond}
theorem g_sld (C : CX V (AL s) own cc nL ret Ts p s m args meth c) {b L : Nat} {xs : Nat → Int32} (hX : va_X b L xs s s.heap) (hbl : b < s.heap.size) (hL : L ≤ 2048) (i : Nat) {x : Int32} (hx : x = nI i) (hi : i < L) (hdg : decode cc pc = .ok (.iaload, 1)) (kk : GW p l e R s m args below meth c V (AL s) nL Q n ad el cells slots (pc + 1) lv (.int (xs i) :: st)) : GW p l e R s m args below meth c V (AL s) nL Q n ad el cells slots pc lv (.int x :: .ref b :: st) := by
  subst hx
  intro H locs ls hP hD hS hl
  refine va_sld C.x C.b hX hbl (Nat.not_le.mpr hbl) hS (vp_in_nI hi (by omega)) hdg ?_
  rw [nI_clamp (by omega)]
  exact kk H locs ls hP hD hS hl
theorem g_slen (C : CX V (AL s) own cc nL ret Ts p s m args meth c) {b L : Nat} {xs : Nat → Int32} (hX : va_X b L xs s s.heap) (hbl : b < s.heap.size) (hdg : decode cc pc = .ok (.arraylength, 1)) (kk : GW p l e R s m args below meth c V (AL s) nL Q n ad el cells slots (pc + 1) lv (.int (nI L) :: st)) : GW p l e R s m args below meth c V (AL s) nL Q n ad el cells slots pc lv (.ref b :: st) :=
  fun H locs ls hP hD hS hl => va_slen C.x C.b hX hbl (Nat.not_le.mpr hbl) hS hdg (kk H locs ls hP hD hS hl)
end GSC
/-- class and reference hold one state -/
abbrev Inv (V : gT) (ad : Nat → Nat) (el : Nat → va_E) : Prop :=
  ∃ (cnt : Nat) (M St We pl : Nat → Int32) (F T : Nat → Nat → Int32), cnt ≤ 20 ∧ X4At V ad el cnt M St We pl F T ∧ (∃ (thr : Int32) (sh : Nat → Int32), X5At V ad el thr cnt M St We pl sh F T) ∧ 0 < M 4 ∧ (∀ q, q < cnt → ∀ k, k < 30 → F32 (F q k)) ∧ (∀ q, cnt ≤ q → ∀ k, k < 30 → T q k = 0) ∧ (∀ q, q < 7 → We q ≤ St q ∨ We q = St q + 1) ∧ ∃ g0 : Nat → Int64, el 92 = .inl (V.2 2, 1, .inr (.inl g0))
theorem roll_eq (M : Nat → Int32) (x y : Int32) : upd (upd (upd M 3 x) 4 y) 5 0 = upd (upd (upd M 3 x) 5 0) 4 y := by
  funext j
  by_cases h4 : j = 4
  · subst h4; rw [pk_un (by decide), pk_us, pk_us]
  · by_cases h5 : j = 5
    · subst h5; rw [pk_us, pk_un (by decide), pk_us]
    · rw [pk_un h5, pk_un h4, pk_un h4, pk_un h5]
theorem pins_row {St We : Nat → Int32} (h : ∀ q, q < 7 → We q ≤ St q ∨ We q = St q + 1) : ∀ q, q < 7 → s_rowW St We q ≤ St q ∨ s_rowW St We q = St q + 1 := by
  intro q hq
  show s_strike (St q) (We q) ≤ St q ∨ s_strike (St q) (We q) = St q + 1
  unfold s_strike
  by_cases e : We q ≤ St q
  · rw [if_pos e]
    by_cases e2 : We q = St q
    · exact Or.inr (by rw [e2])
    · refine Or.inl ?_
      rw [i_le] at e ⊢
      have e3 : (We q).toInt ≠ (St q).toInt := fun z => e2 (Int32.toInt_inj.mp z)
      have e4 : (We q + 1).toInt = (We q).toInt + 1 := by
        rw [Int32.toInt_add]
        have h1 := Int32.toInt_lt (St q)
        have h2 := Int32.le_toInt (We q)
        have h3 : (1 : Int32).toInt = 1 := by decide
        rw [h3]
        exact Int.bmod_eq_of_le (by omega) (by omega)
      omega
  · rw [if_neg e]
    exact h q hq
theorem pins_W {St We : Nat → Int32} (h : ∀ q, q < 7 → We q ≤ St q ∨ We q = St q + 1) : ∀ r, ∀ q, q < 7 → s_W St We r q ≤ St q ∨ s_W St We r q = St q + 1
  | 0 => h
  | r + 1 => pins_row (pins_W h r)
theorem pins_fit {St We : Nat → Int32} (h : ∀ q, q < 7 → We q ≤ St q ∨ We q = St q + 1) (i : Nat) {y : Int32} (hy : 1 ≤ y) : ∀ q, q < 7 → upd We i 0 q ≤ upd St i y q ∨ upd We i 0 q = upd St i y q + 1 := by
  intro q hq
  by_cases e : q = i
  · subst e
    rw [pk_us, pk_us]
    refine Or.inl ?_
    rw [i_le] at hy ⊢
    have h1 : (1 : Int32).toInt = 1 := by decide
    have h0 : (0 : Int32).toInt = 0 := by decide
    omega
  · rw [pk_un e, pk_un e]
    exact h q hq
theorem pos_of_1 {y : Int32} (hy : 1 ≤ y) : 0 < y := by
  rw [i_le] at hy
  rw [i_lt]
  have h1 : (1 : Int32).toInt = 1 := by decide
  have h0 : (0 : Int32).toInt = 0 := by decide
  omega
theorem F32_run {F : Nat → Nat → Int32} {cnt : Nat} (h : ∀ q, q < cnt → ∀ k, k < 30 → F32 (F q k)) {M St We pl f1 : Nat → Int32} (hf : ∀ j, j < 30 → f1 j = s_fault M St We pl j) : ∀ q, q < cnt + 1 → ∀ k, k < 30 → F32 (va_up F cnt f1 q k) := by
  intro q hq k hk
  by_cases e : q = cnt
  · subst e
    rw [va_up_self, hf k hk]
    exact s_fault_32 _ _ _ _ _
  · rw [va_up_ne _ _ e]
    exact h q (by omega) k hk
theorem T_tear {T : Nat → Nat → Int32} {cnt i : Nat} (h : ∀ q, cnt ≤ q → ∀ k, k < 30 → T q k = 0) (hi : i < cnt) (f : Nat → Int32) : ∀ q, cnt ≤ q → ∀ k, k < 30 → va_up T i f q k = 0 := by
  intro q hq k hk
  rw [va_up_ne _ _ (by omega)]
  exact h q hq k hk
theorem in_of {x : Int32} {i N : Nat} (hN : N < 2 ^ 31) (h : x = nI i) (hi : i ≤ N) : 0 ≤ x ∧ x ≤ nI N := by
  subst h
  exact ⟨nI_pos' (by omega), nI_le hi (by omega)⟩
theorem in1_of {x : Int32} {N : Nat} (h : x = nI N) (h1 : 1 ≤ N) (h2 : N ≤ 20) : 1 ≤ x ∧ x ≤ 20 := by
  subst h
  exact ⟨nI_le (a := 1) h1 (by omega), nI_le (b := 20) h2 (by omega)⟩
theorem nI_inj {x : Int32} {i j : Nat} (hi : i < 2 ^ 31) (hj : j < 2 ^ 31) (h1 : x = nI i) (h2 : x = nI j) : i = j := (nI_eq hi hj).mp (h1.symm.trans h2)
theorem dcmp_lt (L j : Nat) (hL : L ≤ 2048) (hj : j ≤ 2048) : nI L - nI 4 < nI j ↔ L < j + 4 := by
  rw [i_lt, Int32.toInt_sub, nI_toInt (by omega), nI_toInt (by omega), nI_toInt (by omega)]
  rw [Int.bmod_eq_of_le (by omega) (by omega)]
  omega
