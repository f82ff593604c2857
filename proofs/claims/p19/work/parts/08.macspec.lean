/-! ===== the machine: what it is in cells, what it computes ===== -/
def MacAt (V : gT) (ad : Nat → Nat) (el : Nat → va_E) (k : Nat) (M St We : Nat → Int32) : Prop :=
  el k = .inr (0, [.ref (ad (k + 1)), .int (M 0), .int (M 1), .int (M 2), .int (M 3), .int (M 5), .int (M 4)]) ∧ (∃ g : Nat → Option Nat, el (k + 1) = .inl (V.2 3, 7, .inr (.inr (.inr (.inr g)))) ∧ ∀ i, i < 7 → g i = some (ad (k + 2 + i))) ∧ ∀ i, i < 7 → el (k + 2 + i) = .inr (1, [.int (St i), .int (We i)])
theorem MacAt.keep {V : gT} {ad : Nat → Nat} {el el' : Nat → va_E} {k : Nat} {M St We : Nat → Int32} (h : MacAt V ad el k M St We) (ho : ∀ j, k ≤ j → j < k + 9 → el' j = el j) : MacAt V ad el' k M St We := by
  obtain ⟨h1, ⟨g, h2, h3⟩, h4⟩ := h
  exact ⟨(ho k (by omega) (by omega)).trans h1, ⟨g, (ho _ (by omega) (by omega)).trans h2, h3⟩, fun i hi => (ho _ (by omega) (by omega)).trans (h4 i hi)⟩
theorem MacAt.adr {V : gT} {ad ad' : Nat → Nat} {el : Nat → va_E} {k : Nat} {M St We : Nat → Int32} (h : MacAt V ad el k M St We) (ho : ∀ j, k ≤ j → j < k + 9 → ad' j = ad j) : MacAt V ad' el k M St We := by
  obtain ⟨h1, ⟨g, h2, h3⟩, h4⟩ := h
  refine ⟨by rw [h1, ho _ (by omega) (by omega)], ⟨g, h2, fun i hi => by rw [h3 i hi, ho _ (by omega) (by omega)]⟩, h4⟩
theorem MacAt.we {V : gT} {ad : Nat → Nat} {el : Nat → va_E} {k : Nat} {M St We We' : Nat → Int32} (h : MacAt V ad el k M St We) (hw : ∀ i, i < 7 → We' i = We i) : MacAt V ad el k M St We' :=
  ⟨h.1, h.2.1, fun i hi => by rw [h.2.2 i hi, hw i hi]⟩
def ShtAt (V : gT) (ad : Nat → Nat) (el : Nat → va_E) (k : Nat) (f t : Nat → Int32) : Prop :=
  el k = .inr (2, [.ref (ad (k + 1)), .ref (ad (k + 2))]) ∧ el (k + 1) = .inl (V.2 0, 30, .inl f) ∧ el (k + 2) = .inl (V.2 1, 30, .inl t)
theorem ShtAt.keep {V : gT} {ad : Nat → Nat} {el el' : Nat → va_E} {k : Nat} {f t : Nat → Int32} (h : ShtAt V ad el k f t) (ho : ∀ j, k ≤ j → j < k + 3 → el' j = el j) : ShtAt V ad el' k f t :=
  ⟨(ho k (by omega) (by omega)).trans h.1, (ho _ (by omega) (by omega)).trans h.2.1, (ho _ (by omega) (by omega)).trans h.2.2⟩
theorem ShtAt.adr {V : gT} {ad ad' : Nat → Nat} {el : Nat → va_E} {k : Nat} {f t : Nat → Int32} (h : ShtAt V ad el k f t) (ho : ∀ j, k ≤ j → j < k + 3 → ad' j = ad j) : ShtAt V ad' el k f t :=
  ⟨by rw [h.1, ho _ (by omega) (by omega), ho _ (by omega) (by omega)], h.2.1, h.2.2⟩
def s_in (x a b : Int32) : Int32 := if a ≤ x ∧ x ≤ b then 1 else 0
theorem s_in_1 {x a b : Int32} (h : ¬ s_in x a b = 0) : a ≤ x ∧ x ≤ b := by
  by_cases q : a ≤ x ∧ x ≤ b
  · exact q
  · rw [s_in, if_neg q] at h; exact absurd rfl h
theorem s_in_0 {x a b : Int32} (h : s_in x a b = 0) : ¬ (a ≤ x ∧ x ≤ b) := by
  intro q
  rw [s_in, if_pos q] at h
  exact absurd h (by decide)
/-- the machine's numbers: 0 feed, 1 drift, 2 error, 3 rows left, 4 step, 5 rows run -/
def s_offF (M : Nat → Int32) : Int32 := if s_in (M 2) (-6) 6 = 0 then 1 else 0
def s_hole1 (St We : Nat → Int32) (c : Nat) : Int32 := if We c ≤ St c then 0 else 2
def s_hole (St We : Nat → Int32) (c : Nat) : Int32 := if We (c + 1) ≤ St (c + 1) then s_hole1 St We c else s_hole1 St We c ||| 4
def s_wmi (M : Nat → Int32) (c : Nat) : Int32 := if 0 < M 4 ∧ M 5 + nI c - (M 5 + nI c) / M 4 * M 4 = 0 then 1 else 0
def s_stamp (M St We pl : Nat → Int32) (r c : Nat) : Int32 :=
  if s_wmi M c = 0 then (if pl (6 * r + c) = 0 then s_offF M ||| s_hole St We c else (s_offF M ||| s_hole St We c) ||| 8) ||| 16 else (if pl (6 * r + c) = 0 then s_offF M ||| s_hole St We c else (s_offF M ||| s_hole St We c) ||| 8)
def s_err (M : Nat → Int32) : Nat → Int32 := upd M 2 (M 2 + (M 0 - 20))
def s_rowM (M : Nat → Int32) : Nat → Int32 := upd (upd (s_err M) 3 (M 3 - 1)) 5 (M 5 + 1)
def s_rowW (St We : Nat → Int32) : Nat → Int32 := fun k => s_strike (St k) (We k)
def s_M (M : Nat → Int32) : Nat → Nat → Int32
  | 0 => M
  | r + 1 => s_rowM (s_M M r)
def s_W (St We : Nat → Int32) : Nat → Nat → Int32
  | 0 => We
  | r + 1 => s_rowW St (s_W St We r)
def s_fault (M St We pl : Nat → Int32) (j : Nat) : Int32 := s_stamp (s_err (s_M M (j / 6))) St (s_W St We (j / 6)) pl (j / 6) (j % 6)
def s_end (M : Nat → Int32) : Nat → Int32 := upd (s_M M 5) 0 (s_max 10 (s_min 30 (s_M M 5 0 + s_M M 5 1)))
def s_broken (St We : Nat → Int32) : Int32 := s_sum (fun i => if We i ≤ St i then 0 else 1) 7
/-- q sheets on end -/
def s_rM (M : Nat → Int32) : Nat → Nat → Int32
  | 0 => M
  | q + 1 => s_end (s_rM M q)
def s_rW (St We : Nat → Int32) : Nat → Nat → Int32
  | 0 => We
  | q + 1 => s_W St (s_rW St We q) 5
def s_tF (M St We pl : Nat → Int32) (q : Nat) : Nat → Int32 := s_fault (s_rM M q) St (s_rW St We q) pl
def s_tC (M St We pl t : Nat → Int32) : Nat → Int32 := s_sum (fun q => s_leftWith (s_tF M St We pl q) t 0)
def s_tV (M St We pl t : Nat → Int32) : Nat → Int32 := s_sum (fun q => s_worths (s_tF M St We pl q) t)
