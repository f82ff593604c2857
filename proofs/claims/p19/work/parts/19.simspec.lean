/-! ===== the law's own machine: what it is in cells, and words for its numbers ===== -/
theorem fa_and (a b : Nat) : nI a &&& nI b = nI (a &&& b) := by
  apply Int32.toBitVec_inj.1
  show BitVec.ofNat 32 a &&& BitVec.ofNat 32 b = BitVec.ofNat 32 (a &&& b)
  apply BitVec.eq_of_getLsbD_eq
  intro i hi
  simp [hi]
theorem fa_or (a b : Nat) : nI a ||| nI b = nI (a ||| b) := by
  apply Int32.toBitVec_inj.1
  show BitVec.ofNat 32 a ||| BitVec.ofNat 32 b = BitVec.ofNat 32 (a ||| b)
  apply BitVec.eq_of_getLsbD_eq
  intro i hi
  simp [hi]
def F32 (f : Int32) : Prop := ∃ w : Nat, w < 32 ∧ f = nI w
theorem F32_0 : F32 0 := ⟨0, by omega, rfl⟩
def ArrI (V : gT) (el : Nat → va_E) (k N : Nat) (f : Nat → Int32) : Prop := ∃ g : Nat → Int32, el k = .inl (V.2 0, N, .inl g) ∧ ∀ j, j < N → g j = f j
def ArrZ (V : gT) (el : Nat → va_E) (k N : Nat) (f : Nat → Int32) : Prop := ∃ g : Nat → Int32, el k = .inl (V.2 1, N, .inl g) ∧ ∀ j, j < N → g j = f j
theorem ArrI.keep {V : gT} {el el' : Nat → va_E} {k N : Nat} {f : Nat → Int32} (h : ArrI V el k N f) (ho : el' k = el k) : ArrI V el' k N f := by
  obtain ⟨g, h1, h2⟩ := h
  exact ⟨g, ho.trans h1, h2⟩
theorem ArrZ.keep {V : gT} {el el' : Nat → va_E} {k N : Nat} {f : Nat → Int32} (h : ArrZ V el k N f) (ho : el' k = el k) : ArrZ V el' k N f := by
  obtain ⟨g, h1, h2⟩ := h
  exact ⟨g, ho.trans h1, h2⟩
theorem s_offF_1 {M : Nat → Int32} (h : ¬ s_offF M = 0) : s_offF M = 1 := by
  unfold s_offF at h ⊢
  split at h
  · rename_i e; rw [if_pos e]
  · exact absurd rfl h
theorem s_stamp_m (M St We pl : Nat → Int32) (r cl : Nat) (h : 0 < M 4) : (((s_offF M ||| (if We cl ≤ St cl then 0 else 2)) ||| (if We (cl + 1) ≤ St (cl + 1) then 0 else 4)) ||| (if pl (6 * r + cl) = 0 then 0 else 8)) ||| (if M 5 + nI cl - (M 5 + nI cl) / M 4 * M 4 = 0 then 0 else 16) = s_stamp M St We pl r cl := by
  unfold s_stamp s_hole s_hole1 s_wmi
  have ho : s_offF M = 0 ∨ s_offF M = 1 := by
    by_cases e : s_offF M = 0
    · exact Or.inl e
    · exact Or.inr (s_offF_1 e)
  by_cases e5 : M 5 + nI cl - (M 5 + nI cl) / M 4 * M 4 = 0
  · rw [if_pos e5, if_pos (show 0 < M 4 ∧ M 5 + nI cl - (M 5 + nI cl) / M 4 * M 4 = 0 from ⟨h, e5⟩)]
    by_cases e1 : We cl ≤ St cl <;> by_cases e2 : We (cl + 1) ≤ St (cl + 1) <;> by_cases e3 : pl (6 * r + cl) = 0 <;> rcases ho with e4 | e4 <;> simp only [e1, e2, e3, e4, if_true, if_false] <;> decide
  · rw [if_neg e5, if_neg (show ¬ (0 < M 4 ∧ M 5 + nI cl - (M 5 + nI cl) / M 4 * M 4 = 0) from fun z => e5 z.2)]
    by_cases e1 : We cl ≤ St cl <;> by_cases e2 : We (cl + 1) ≤ St (cl + 1) <;> by_cases e3 : pl (6 * r + cl) = 0 <;> rcases ho with e4 | e4 <;> simp only [e1, e2, e3, e4, if_true, if_false] <;> decide
theorem s_stamp_32 (M St We pl : Nat → Int32) (r cl : Nat) : F32 (s_stamp M St We pl r cl) := by
  have hz : ∀ a b : Int32, F32 a → F32 b → F32 (a ||| b) := by
    rintro a b ⟨u, hu, rfl⟩ ⟨v, hv, rfl⟩
    exact ⟨u ||| v, Nat.or_lt_two_pow (n := 5) hu hv, fa_or u v⟩
  have ho : F32 (s_offF M) := by
    unfold s_offF
    split
    · exact ⟨1, by omega, rfl⟩
    · exact F32_0
  have h1 : F32 (s_hole1 St We cl) := by
    unfold s_hole1
    split
    · exact F32_0
    · exact ⟨2, by omega, rfl⟩
  have h2 : F32 (s_hole St We cl) := by
    unfold s_hole
    split
    · exact h1
    · exact hz _ _ h1 ⟨4, by omega, rfl⟩
  have h3 : F32 (if pl (6 * r + cl) = 0 then s_offF M ||| s_hole St We cl else (s_offF M ||| s_hole St We cl) ||| 8) := by
    split
    · exact hz _ _ ho h2
    · exact hz _ _ (hz _ _ ho h2) ⟨8, by omega, rfl⟩
  unfold s_stamp
  split
  · exact hz _ _ h3 ⟨16, by omega, rfl⟩
  · exact h3
theorem s_fault_32 (M St We pl : Nat → Int32) (j : Nat) : F32 (s_fault M St We pl j) := s_stamp_32 _ _ _ _ _ _
theorem s_M_4 (M : Nat → Int32) : ∀ r, s_M M r 4 = M 4
  | 0 => rfl
  | r + 1 => s_M_4 M r
theorem s_end_4 (M : Nat → Int32) : s_end M 4 = M 4 := s_M_4 M 5
theorem s_rM_4 (M : Nat → Int32) : ∀ q, s_rM M q 4 = M 4
  | 0 => rfl
  | q + 1 => (s_end_4 _).trans (s_rM_4 M q)
/-- an array of references to the cells a 0, a 1 .. -/
def RfA (V : gT) (el : Nat → va_E) (k t N : Nat) (a : Nat → Nat) : Prop := ∃ g : Nat → Option Nat, el k = .inl (V.2 t, N, .inr (.inr (.inr (.inr g)))) ∧ ∀ i, i < N → g i = some (a i)
theorem RfA.keep {V : gT} {el el' : Nat → va_E} {k t N : Nat} {a : Nat → Nat} (h : RfA V el k t N a) (ho : el' k = el k) : RfA V el' k t N a := by
  obtain ⟨g, h1, h2⟩ := h
  exact ⟨g, ho.trans h1, h2⟩
theorem RfA.adr {V : gT} {el : Nat → va_E} {k t N : Nat} {a a' : Nat → Nat} (h : RfA V el k t N a) (ho : ∀ i, i < N → a' i = a i) : RfA V el k t N a' := by
  obtain ⟨g, h1, h2⟩ := h
  exact ⟨g, h1, fun i hi => by rw [h2 i hi, ho i hi]⟩
theorem ArrI.cg {V : gT} {el : Nat → va_E} {k N : Nat} {f f' : Nat → Int32} (h : ArrI V el k N f) (hf : ∀ j, j < N → f' j = f j) : ArrI V el k N f' := by
  obtain ⟨g, h1, h2⟩ := h
  exact ⟨g, h1, fun j hj => by rw [h2 j hj, hf j hj]⟩
theorem ArrZ.cg {V : gT} {el : Nat → va_E} {k N : Nat} {f f' : Nat → Int32} (h : ArrZ V el k N f) (hf : ∀ j, j < N → f' j = f j) : ArrZ V el k N f' := by
  obtain ⟨g, h1, h2⟩ := h
  exact ⟨g, h1, fun j hj => by rw [h2 j hj, hf j hj]⟩
/-- five rows of ints, of booleans: six cells from place b on -/
def RwI (V : gT) (ad : Nat → Nat) (el : Nat → va_E) (b : Nat) (f : Nat → Int32) : Prop := RfA V el b 5 5 (fun r => ad (b + 1 + r)) ∧ ∀ r, r < 5 → ArrI V el (b + 1 + r) 6 (fun c => f (6 * r + c))
def RwZ (V : gT) (ad : Nat → Nat) (el : Nat → va_E) (b : Nat) (f : Nat → Int32) : Prop := RfA V el b 6 5 (fun r => ad (b + 1 + r)) ∧ ∀ r, r < 5 → ArrZ V el (b + 1 + r) 6 (fun c => f (6 * r + c))
theorem RwI.keep {V : gT} {ad : Nat → Nat} {el el' : Nat → va_E} {b : Nat} {f : Nat → Int32} (h : RwI V ad el b f) (ho : ∀ j, b ≤ j → j < b + 6 → el' j = el j) : RwI V ad el' b f :=
  ⟨h.1.keep (ho _ (by omega) (by omega)), fun r hr => (h.2 r hr).keep (ho _ (by omega) (by omega))⟩
theorem RwZ.keep {V : gT} {ad : Nat → Nat} {el el' : Nat → va_E} {b : Nat} {f : Nat → Int32} (h : RwZ V ad el b f) (ho : ∀ j, b ≤ j → j < b + 6 → el' j = el j) : RwZ V ad el' b f :=
  ⟨h.1.keep (ho _ (by omega) (by omega)), fun r hr => (h.2 r hr).keep (ho _ (by omega) (by omega))⟩
theorem RwI.adr {V : gT} {ad ad' : Nat → Nat} {el : Nat → va_E} {b : Nat} {f : Nat → Int32} (h : RwI V ad el b f) (ho : ∀ j, b ≤ j → j < b + 6 → ad' j = ad j) : RwI V ad' el b f :=
  ⟨h.1.adr (fun i hi => ho _ (by omega) (by omega)), h.2⟩
theorem RwZ.adr {V : gT} {ad ad' : Nat → Nat} {el : Nat → va_E} {b : Nat} {f : Nat → Int32} (h : RwZ V ad el b f) (ho : ∀ j, b ≤ j → j < b + 6 → ad' j = ad j) : RwZ V ad' el b f :=
  ⟨h.1.adr (fun i hi => ho _ (by omega) (by omega)), h.2⟩
theorem RwI.cg {V : gT} {ad : Nat → Nat} {el : Nat → va_E} {b : Nat} {f f' : Nat → Int32} (h : RwI V ad el b f) (hf : ∀ j, j < 30 → f' j = f j) : RwI V ad el b f' :=
  ⟨h.1, fun r hr => (h.2 r hr).cg (fun c hc => hf _ (by omega))⟩
theorem RwZ.cg {V : gT} {ad : Nat → Nat} {el : Nat → va_E} {b : Nat} {f f' : Nat → Int32} (h : RwZ V ad el b f) (hf : ∀ j, j < 30 → f' j = f j) : RwZ V ad el b f' :=
  ⟨h.1, fun r hr => (h.2 r hr).cg (fun c hc => hf _ (by omega))⟩
/-- .. moved: the same cells at other places -/
theorem RwI.mv {V : gT} {ad ad' : Nat → Nat} {el el' : Nat → va_E} {b b' : Nat} {f : Nat → Int32} (h : RwI V ad el b f) (ho : ∀ j, j < 6 → el' (b' + j) = el (b + j)) (ha : ∀ j, j < 6 → ad' (b' + j) = ad (b + j)) : RwI V ad' el' b' f := by
  obtain ⟨⟨g, h1, h2⟩, h3⟩ := h
  refine ⟨⟨g, (ho 0 (by omega)).trans h1, fun i hi => ?_⟩, fun r hr => ?_⟩
  · have := ha (1 + i) (by omega)
    refine (h2 i hi).trans (congrArg some ?_)
    show ad (b + 1 + i) = ad' (b' + 1 + i)
    rw [show b + 1 + i = b + (1 + i) by omega, show b' + 1 + i = b' + (1 + i) by omega, this]
  · obtain ⟨x, h4, h5⟩ := h3 r hr
    have := ho (1 + r) (by omega)
    exact ⟨x, by rw [show b' + 1 + r = b' + (1 + r) by omega, this, show b + (1 + r) = b + 1 + r by omega, h4], h5⟩
theorem RwZ.mv {V : gT} {ad ad' : Nat → Nat} {el el' : Nat → va_E} {b b' : Nat} {f : Nat → Int32} (h : RwZ V ad el b f) (ho : ∀ j, j < 6 → el' (b' + j) = el (b + j)) (ha : ∀ j, j < 6 → ad' (b' + j) = ad (b + j)) : RwZ V ad' el' b' f := by
  obtain ⟨⟨g, h1, h2⟩, h3⟩ := h
  refine ⟨⟨g, (ho 0 (by omega)).trans h1, fun i hi => ?_⟩, fun r hr => ?_⟩
  · have := ha (1 + i) (by omega)
    refine (h2 i hi).trans (congrArg some ?_)
    show ad (b + 1 + i) = ad' (b' + 1 + i)
    rw [show b + 1 + i = b + (1 + i) by omega, show b' + 1 + i = b' + (1 + i) by omega, this]
  · obtain ⟨x, h4, h5⟩ := h3 r hr
    have := ho (1 + r) (by omega)
    exact ⟨x, by rw [show b' + 1 + r = b' + (1 + r) by omega, this, show b + (1 + r) = b + 1 + r by omega, h4], h5⟩
def s_bk (st we : Int32) : Int32 := if we ≤ st then 0 else 1
/-- the law's machine: its cells 85 to 96, those of its sheets from B on, 12 each -/
def SimAt (V : gT) (ad : Nat → Nat) (el : Nat → va_E) (B cnt : Nat) (M St We pl : Nat → Int32) (F T : Nat → Nat → Int32) : Prop :=
  el 85 = .inr (5, [.int (M 0), .int (M 1), .int (M 2), .int (M 3), .int (M 4), .int (M 5), .ref (ad 86), .ref (ad 87), .ref (ad 88), .ref (ad 89), .ref (ad 95), .ref (ad 96)]) ∧ ArrI V el 86 7 St ∧ ArrI V el 87 7 We ∧ ArrZ V el 88 7 (fun i => s_bk (St i) (We i)) ∧ RwZ V ad el 89 pl ∧ RfA V el 95 7 cnt (fun k => ad (B + 12 * k)) ∧ RfA V el 96 2 cnt (fun k => ad (B + 12 * k + 6)) ∧ ∀ k, k < cnt → RwI V ad el (B + 12 * k) (F k) ∧ RwZ V ad el (B + 12 * k + 6) (T k)
theorem SimAt.keep {V : gT} {ad : Nat → Nat} {el el' : Nat → va_E} {B cnt : Nat} {M St We pl : Nat → Int32} {F T : Nat → Nat → Int32} (h : SimAt V ad el B cnt M St We pl F T) (ho : ∀ j, (85 ≤ j ∧ j < 97) ∨ (B ≤ j ∧ j < B + 12 * cnt) → el' j = el j) : SimAt V ad el' B cnt M St We pl F T := by
  obtain ⟨h1, h2, h3, h4, h5, h6, h7, h8⟩ := h
  exact ⟨(ho _ (by omega)).trans h1, h2.keep (ho _ (by omega)), h3.keep (ho _ (by omega)), h4.keep (ho _ (by omega)), h5.keep (fun j _ _ => ho j (by omega)), h6.keep (ho _ (by omega)), h7.keep (ho _ (by omega)), fun k hk => ⟨(h8 k hk).1.keep (fun j _ _ => ho j (by omega)), (h8 k hk).2.keep (fun j _ _ => ho j (by omega))⟩⟩
theorem SimAt.adr {V : gT} {ad ad' : Nat → Nat} {el : Nat → va_E} {B cnt : Nat} {M St We pl : Nat → Int32} {F T : Nat → Nat → Int32} (h : SimAt V ad el B cnt M St We pl F T) (ho : ∀ j, (85 ≤ j ∧ j < 97) ∨ (B ≤ j ∧ j < B + 12 * cnt) → ad' j = ad j) : SimAt V ad' el B cnt M St We pl F T := by
  obtain ⟨h1, h2, h3, h4, h5, h6, h7, h8⟩ := h
  exact ⟨by rw [h1, ho 86 (by omega), ho 87 (by omega), ho 88 (by omega), ho 89 (by omega), ho 95 (by omega), ho 96 (by omega)], h2, h3, h4, h5.adr (fun j _ _ => ho j (by omega)), h6.adr (fun i hi => ho _ (by omega)), h7.adr (fun i hi => ho _ (by omega)), fun k hk => ⟨(h8 k hk).1.adr (fun j _ _ => ho j (by omega)), (h8 k hk).2.adr (fun j _ _ => ho j (by omega))⟩⟩
theorem SimAt.cg {V : gT} {ad : Nat → Nat} {el : Nat → va_E} {B cnt : Nat} {M St We pl M' St' We' pl' : Nat → Int32} {F T F' T' : Nat → Nat → Int32} (h : SimAt V ad el B cnt M St We pl F T) (hM : ∀ j, j < 6 → M' j = M j) (hS : ∀ j, j < 7 → St' j = St j) (hW : ∀ j, j < 7 → We' j = We j) (hp : ∀ j, j < 30 → pl' j = pl j) (hF : ∀ k, k < cnt → ∀ j, j < 30 → F' k j = F k j) (hT : ∀ k, k < cnt → ∀ j, j < 30 → T' k j = T k j) : SimAt V ad el B cnt M' St' We' pl' F' T' := by
  obtain ⟨h1, h2, h3, h4, h5, h6, h7, h8⟩ := h
  exact ⟨by rw [h1, hM 0 (by omega), hM 1 (by omega), hM 2 (by omega), hM 3 (by omega), hM 4 (by omega), hM 5 (by omega)], h2.cg hS, h3.cg hW, h4.cg (fun j hj => by show s_bk _ _ = s_bk _ _; rw [hS j hj, hW j hj]), h5.cg hp, h6, h7, fun k hk => ⟨(h8 k hk).1.cg (hF k hk), (h8 k hk).2.cg (hT k hk)⟩⟩
