/-! ===== the reference: what it is in cells, and words for its numbers ===== -/
theorem fa_and (a b : Nat) : nI a &&& nI b = nI (a &&& b) := by
  apply Int32.toBitVec_inj.1
  show BitVec.ofNat 32 a &&& BitVec.ofNat 32 b = BitVec.ofNat 32 (a &&& b)
  apply BitVec.eq_of_getLsbD_eq
  intro i hi
  simp [hi]
theorem fa_or (a b : Nat) : nI a ||| nI b = nI (a ||| b) := by
  apply Int32.toBitVec_inj.1
  show BitVec.ofNat 32 a ||| BitVec.ofNat 32 b = BitVec.ofNat 32 (a ||| b)
  apply BitVec.eq_of_getLsbD_eq
  intro i hi
  simp [hi]
def enc (f t : Int32) : Int32 := if t = 0 then f else f + 32
def F32 (f : Int32) : Prop := ∃ w : Nat, w < 32 ∧ f = nI w
theorem enc_rem {f t : Int32} (h : F32 f) : enc f t - enc f t / nI 32 * nI 32 = f := by
  obtain ⟨w, hw, rfl⟩ := h
  unfold enc
  split
  · rw [pk_rem (by omega) (by omega) (by omega), Nat.mod_eq_of_lt hw]
  · rw [show nI w + 32 = nI (w + 32) from nI_add w 32, pk_rem (by omega) (by omega) (by omega)]
    exact congrArg nI (by omega)
theorem enc_ge {f t : Int32} (h : F32 f) : nI 32 ≤ enc f t ↔ ¬ t = 0 := by
  obtain ⟨w, hw, rfl⟩ := h
  unfold enc
  split
  · rename_i e
    rw [nI_leI (by omega) (by omega)]
    exact ⟨fun z => by omega, fun z => absurd e z⟩
  · rename_i e
    rw [show nI w + 32 = nI (w + 32) from nI_add w 32, nI_leI (by omega) (by omega)]
    exact ⟨fun _ => e, fun _ => by omega⟩
theorem enc_lt {f t : Int32} (h : F32 f) : enc f t < nI 32 ↔ t = 0 := by
  obtain ⟨w, hw, rfl⟩ := h
  unfold enc
  split
  · rename_i e
    rw [nI_ltI (by omega) (by omega)]
    exact ⟨fun _ => e, fun _ => hw⟩
  · rename_i e
    rw [show nI w + 32 = nI (w + 32) from nI_add w 32, nI_ltI (by omega) (by omega)]
    exact ⟨fun z => by omega, fun z => absurd z e⟩
theorem enc_eq {f t x : Int32} (h : F32 f) (hx : F32 x) : enc f t = x ↔ t = 0 ∧ f = x := by
  obtain ⟨w, hw, rfl⟩ := h
  obtain ⟨v, hv, rfl⟩ := hx
  unfold enc
  split
  · rename_i e
    exact ⟨fun z => ⟨e, z⟩, fun z => z.2⟩
  · rename_i e
    rw [show nI w + 32 = nI (w + 32) from nI_add w 32, nI_eq (by omega) (by omega)]
    exact ⟨fun z => by omega, fun z => absurd z.1 e⟩
theorem F32_0 : F32 0 := ⟨0, by omega, rfl⟩
theorem enc_0 {f t : Int32} (h : F32 f) : enc f t = 0 ↔ t = 0 ∧ f = 0 := enc_eq h F32_0
theorem enc_t0 (f : Int32) {t : Int32} (h : t = 0) : enc f t = f := if_pos h
set_option maxRecDepth 100000 in
theorem and1_a : ∀ w, w < 32 → nI w &&& 1 = if nI w &&& 1 = 0 then 0 else 1 := by decide +kernel
set_option maxRecDepth 100000 in
theorem and1_b : ∀ w, w < 32 → (nI w + 32) &&& 1 = if nI w &&& 1 = 0 then 0 else 1 := by decide +kernel
theorem enc_and1 {f t : Int32} (h : F32 f) : enc f t &&& 1 = if f &&& 1 = 0 then 0 else 1 := by
  obtain ⟨w, hw, rfl⟩ := h
  unfold enc
  split
  · exact and1_a w hw
  · exact and1_b w hw
/-- the worth of a stamp of the reference -/
def s_mw (x : Int32) : Int32 := if nI 32 ≤ x then 0 else if x &&& 7 = 0 then (1 + (if x &&& 8 = 0 then 0 else 20)) + (if x &&& 16 = 0 then 0 else 4) else 0
theorem mw_enc {f t : Int32} (h : F32 f) : s_mw (enc f t) = s_worth f t := by
  unfold s_mw s_worth
  by_cases e : t = 0
  · rw [if_neg (fun z => (enc_ge h).mp z e), enc_t0 f e]
    by_cases e2 : f &&& 7 = 0
    · rw [if_pos e2, if_pos (show t = 0 ∧ f &&& 7 = 0 from ⟨e, e2⟩)]
    · rw [if_neg e2, if_neg (show ¬ (t = 0 ∧ f &&& 7 = 0) from fun z => e2 z.2)]
  · rw [if_pos ((enc_ge h).mpr e), if_neg (show ¬ (t = 0 ∧ f &&& 7 = 0) from fun z => e z.1)]
def ArrI (V : gT) (el : Nat → va_E) (k N : Nat) (f : Nat → Int32) : Prop := ∃ g : Nat → Int32, el k = .inl (V.2 0, N, .inl g) ∧ ∀ j, j < N → g j = f j
def ArrZ (V : gT) (el : Nat → va_E) (k N : Nat) (f : Nat → Int32) : Prop := ∃ g : Nat → Int32, el k = .inl (V.2 1, N, .inl g) ∧ ∀ j, j < N → g j = f j
def Stm (V : gT) (el : Nat → va_E) (cnt : Nat) (F T : Nat → Nat → Int32) : Prop := ∃ g : Nat → Int32, el 86 = .inl (V.2 0, 600, .inl g) ∧ ∀ q, q < cnt → ∀ k, k < 30 → g (30 * q + k) = enc (F q k) (T q k)
theorem ArrI.keep {V : gT} {el el' : Nat → va_E} {k N : Nat} {f : Nat → Int32} (h : ArrI V el k N f) (ho : el' k = el k) : ArrI V el' k N f := by
  obtain ⟨g, h1, h2⟩ := h
  exact ⟨g, ho.trans h1, h2⟩
theorem ArrZ.keep {V : gT} {el el' : Nat → va_E} {k N : Nat} {f : Nat → Int32} (h : ArrZ V el k N f) (ho : el' k = el k) : ArrZ V el' k N f := by
  obtain ⟨g, h1, h2⟩ := h
  exact ⟨g, ho.trans h1, h2⟩
theorem Stm.keep {V : gT} {el el' : Nat → va_E} {cnt : Nat} {F T : Nat → Nat → Int32} (h : Stm V el cnt F T) (ho : el' 86 = el 86) : Stm V el' cnt F T := by
  obtain ⟨g, h1, h2⟩ := h
  exact ⟨g, ho.trans h1, h2⟩
/-- the reference: its 7 cells from place 85 on -/
def X5At (V : gT) (ad : Nat → Nat) (el : Nat → va_E) (thr : Int32) (cnt : Nat) (M St We pl sh : Nat → Int32) (F T : Nat → Nat → Int32) : Prop :=
  el 85 = .inr (5, [.int thr, .int (nI cnt), .ref (ad 86), .ref (ad 87), .ref (ad 88), .ref (ad 89), .ref (ad 90), .ref (ad 91)]) ∧ Stm V el cnt F T ∧ ArrI V el 87 6 M ∧ ArrI V el 88 7 St ∧ ArrI V el 89 7 We ∧ ArrZ V el 90 30 pl ∧ ArrI V el 91 30 sh
theorem X5At.keep {V : gT} {ad : Nat → Nat} {el el' : Nat → va_E} {thr : Int32} {cnt : Nat} {M St We pl sh : Nat → Int32} {F T : Nat → Nat → Int32} (h : X5At V ad el thr cnt M St We pl sh F T) (ho : ∀ j, 85 ≤ j → j < 92 → el' j = el j) : X5At V ad el' thr cnt M St We pl sh F T :=
  ⟨(ho _ (by omega) (by omega)).trans h.1, h.2.1.keep (ho _ (by omega) (by omega)), h.2.2.1.keep (ho _ (by omega) (by omega)), h.2.2.2.1.keep (ho _ (by omega) (by omega)), h.2.2.2.2.1.keep (ho _ (by omega) (by omega)), h.2.2.2.2.2.1.keep (ho _ (by omega) (by omega)), h.2.2.2.2.2.2.keep (ho _ (by omega) (by omega))⟩
theorem X5At.adr {V : gT} {ad ad' : Nat → Nat} {el : Nat → va_E} {thr : Int32} {cnt : Nat} {M St We pl sh : Nat → Int32} {F T : Nat → Nat → Int32} (h : X5At V ad el thr cnt M St We pl sh F T) (ho : ∀ j, 85 ≤ j → j < 92 → ad' j = ad j) : X5At V ad' el thr cnt M St We pl sh F T :=
  ⟨by rw [h.1, ho 86 (by omega) (by omega), ho 87 (by omega) (by omega), ho 88 (by omega) (by omega), ho 89 (by omega) (by omega), ho 90 (by omega) (by omega), ho 91 (by omega) (by omega)], h.2⟩
theorem upd_rel {f g : Nat → Int32} {N : Nat} (h : ∀ j, j < N → f j = g j) (i : Nat) (x : Int32) : ∀ j, j < N → upd f i x j = upd g i x j := by
  intro j hj
  unfold upd
  split
  · rfl
  · exact h j hj
theorem s_offF_1 {M : Nat → Int32} (h : ¬ s_offF M = 0) : s_offF M = 1 := by
  unfold s_offF at h ⊢
  split at h
  · rename_i e; rw [if_pos e]
  · exact absurd rfl h
theorem s_stamp_m (M St We pl : Nat → Int32) (r cl : Nat) (h : 0 < M 4) : (((s_offF M ||| (if We cl ≤ St cl then 0 else 2)) ||| (if We (cl + 1) ≤ St (cl + 1) then 0 else 4)) ||| (if pl (6 * r + cl) = 0 then 0 else 8)) ||| (if M 5 + nI cl - (M 5 + nI cl) / M 4 * M 4 = 0 then 0 else 16) = s_stamp M St We pl r cl := by
  unfold s_stamp s_hole s_hole1 s_wmi
  have ho : s_offF M = 0 ∨ s_offF M = 1 := by
    by_cases e : s_offF M = 0
    · exact Or.inl e
    · exact Or.inr (s_offF_1 e)
  by_cases e5 : M 5 + nI cl - (M 5 + nI cl) / M 4 * M 4 = 0
  · rw [if_pos e5, if_pos (show 0 < M 4 ∧ M 5 + nI cl - (M 5 + nI cl) / M 4 * M 4 = 0 from ⟨h, e5⟩)]
    by_cases e1 : We cl ≤ St cl <;> by_cases e2 : We (cl + 1) ≤ St (cl + 1) <;> by_cases e3 : pl (6 * r + cl) = 0 <;> rcases ho with e4 | e4 <;> simp only [e1, e2, e3, e4, if_true, if_false] <;> decide
  · rw [if_neg e5, if_neg (show ¬ (0 < M 4 ∧ M 5 + nI cl - (M 5 + nI cl) / M 4 * M 4 = 0) from fun z => e5 z.2)]
    by_cases e1 : We cl ≤ St cl <;> by_cases e2 : We (cl + 1) ≤ St (cl + 1) <;> by_cases e3 : pl (6 * r + cl) = 0 <;> rcases ho with e4 | e4 <;> simp only [e1, e2, e3, e4, if_true, if_false] <;> decide
theorem s_stamp_32 (M St We pl : Nat → Int32) (r cl : Nat) : F32 (s_stamp M St We pl r cl) := by
  have hz : ∀ a b : Int32, F32 a → F32 b → F32 (a ||| b) := by
    rintro a b ⟨u, hu, rfl⟩ ⟨v, hv, rfl⟩
    exact ⟨u ||| v, Nat.or_lt_two_pow (n := 5) hu hv, fa_or u v⟩
  have ho : F32 (s_offF M) := by
    unfold s_offF
    split
    · exact ⟨1, by omega, rfl⟩
    · exact F32_0
  have h1 : F32 (s_hole1 St We cl) := by
    unfold s_hole1
    split
    · exact F32_0
    · exact ⟨2, by omega, rfl⟩
  have h2 : F32 (s_hole St We cl) := by
    unfold s_hole
    split
    · exact h1
    · exact hz _ _ h1 ⟨4, by omega, rfl⟩
  have h3 : F32 (if pl (6 * r + cl) = 0 then s_offF M ||| s_hole St We cl else (s_offF M ||| s_hole St We cl) ||| 8) := by
    split
    · exact hz _ _ ho h2
    · exact hz _ _ (hz _ _ ho h2) ⟨8, by omega, rfl⟩
  unfold s_stamp
  split
  · exact hz _ _ h3 ⟨16, by omega, rfl⟩
  · exact h3
theorem s_fault_32 (M St We pl : Nat → Int32) (j : Nat) : F32 (s_fault M St We pl j) := s_stamp_32 _ _ _ _ _ _
theorem s_M_4 (M : Nat → Int32) : ∀ r, s_M M r 4 = M 4
  | 0 => rfl
  | r + 1 => s_M_4 M r
theorem s_end_4 (M : Nat → Int32) : s_end M 4 = M 4 := s_M_4 M 5
theorem s_rM_4 (M : Nat → Int32) : ∀ q, s_rM M q 4 = M 4
  | 0 => rfl
  | q + 1 => (s_end_4 _).trans (s_rM_4 M q)
