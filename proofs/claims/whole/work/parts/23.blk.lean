/-! ===== the greatest block: by four loops, and by bits ===== -/
theorem s_max_l {a b : Int32} (h : a < b) : s_max a b = b := if_pos h
theorem s_max_r {a b : Int32} (h : ¬ a < b) : s_max a b = a := if_neg h
theorem s_max_assoc (b a x : Int32) : s_max (s_max b a) x = s_max b (s_max a x) := by
  by_cases h1 : b < a
  · rw [s_max_l h1]
    by_cases h2 : a < x
    · rw [s_max_l h2, s_max_l (by rw [i_lt] at h1 h2 ⊢; omega)]
    · rw [s_max_r h2, s_max_l h1]
  · rw [s_max_r h1]
    by_cases h2 : a < x
    · rw [s_max_l h2]
    · rw [s_max_r h2, s_max_r h1, s_max_r (by rw [i_lt] at h1 h2 ⊢; omega)]
theorem s_max_0 {b : Int32} (h : 0 ≤ b) : s_max b 0 = b := s_max_r (i_nlt h)
theorem s_max_ge {a b : Int32} (h : 0 ≤ a) : 0 ≤ s_max a b := by
  by_cases h1 : a < b
  · rw [s_max_l h1]; rw [i_lt] at h1; rw [i_le] at h ⊢; omega
  · rw [s_max_r h1]; exact h
def s_bq (h : Nat) (g : Nat → Bool) (b : Int32) : Nat → Int32
  | 0 => b
  | q + 1 => if g q = true then s_max (s_bq h g b q) (nI (h * (q + 1))) else s_bq h g b q
def s_bf (h : Nat) (g : Nat → Nat → Bool) (b : Int32) : Nat → Int32
  | 0 => b
  | j + 1 => s_bq h (g j) (s_bf h g b j) (6 - j)
theorem s_bq_max (h : Nat) (g : Nat → Bool) (b a : Int32) : ∀ q, s_bq h g (s_max b a) q = s_max b (s_bq h g a q)
  | 0 => rfl
  | q + 1 => by
    rw [s_bq, s_bq, s_bq_max h g b a q]
    by_cases e : g q = true
    · rw [if_pos e, if_pos e, s_max_assoc]
    · rw [if_neg e, if_neg e]
theorem s_bf_max (h : Nat) (g : Nat → Nat → Bool) (b a : Int32) : ∀ j, s_bf h g (s_max b a) j = s_max b (s_bf h g a j)
  | 0 => rfl
  | j + 1 => by rw [s_bf, s_bf, s_bf_max h g b a j, s_bq_max]
def msk (w j q : Nat) : Bool := (List.range 6).all fun d => !(decide (j ≤ d) && decide (d ≤ j + q)) || w.testBit d
theorem msk_iff (w j q : Nat) : msk w j q = true ↔ ∀ d, d < 6 → ¬ (j ≤ d ∧ d ≤ j + q) ∨ w.testBit d = true := by
  unfold msk
  rw [List.all_eq_true]
  constructor
  · intro h d hd
    have h1 := h d (List.mem_range.mpr hd)
    rw [Bool.or_eq_true, Bool.not_eq_true'] at h1
    rcases h1 with h1 | h1
    · refine Or.inl (fun z => ?_)
      rw [decide_eq_true z.1, decide_eq_true z.2] at h1
      exact absurd h1 (by decide)
    · exact Or.inr h1
  · intro h d hd
    rw [Bool.or_eq_true, Bool.not_eq_true']
    rcases h d (List.mem_range.mp hd) with h1 | h1
    · refine Or.inl ?_
      rw [Bool.and_eq_false_iff]
      by_cases e : j ≤ d
      · exact Or.inr (decide_eq_false (fun z => h1 ⟨e, z⟩))
      · exact Or.inl (decide_eq_false e)
    · exact Or.inr h1
set_option maxRecDepth 100000 in
theorem s_bf_dec : ∀ w, w < 64 → ∀ h, h < 6 → s_bf h (msk w) 0 6 = nI h * s_longest (nI w) 6 := by decide +kernel
theorem s_bf_w {w h : Nat} (hw : w < 64) (hh : h < 6) {b : Int32} (hb : 0 ≤ b) : s_bf h (msk w) b 6 = s_max b (nI h * s_longest (nI w) 6) := by
  rw [← s_bf_dec w hw h hh, ← s_bf_max, s_max_0 hb]
theorem shl_dec : ∀ q, q < 6 → (1 : Int32) <<< (nI q &&& 31) = nI (2 ^ q) := by decide +kernel
theorem s_good_w (f t : Nat → Int32) (r : Nat) : ∀ N, N ≤ 6 → ∃ w, w < 2 ^ N ∧ s_good f t r N = nI w ∧ ∀ d, d < N → (w.testBit d = true ↔ t (6 * r + d) = 0 ∧ f (6 * r + d) = 0)
  | 0, _ => ⟨0, by decide, rfl, fun d hd => absurd hd (by omega)⟩
  | N + 1, hN => by
    obtain ⟨w, hw, e, hb⟩ := s_good_w f t r N (by omega)
    have h2 : 2 ^ N < 2 ^ (N + 1) := Nat.pow_lt_pow_right (by decide) (by omega)
    by_cases hc : t (6 * r + N) = 0 ∧ f (6 * r + N) = 0
    · refine ⟨w ||| 2 ^ N, Nat.or_lt_two_pow (by omega) h2, ?_, fun d hd => ?_⟩
      · rw [s_good, if_pos hc, e, shl_dec N (by omega), fa_or]
      · rw [Nat.testBit_or, Nat.testBit_two_pow]
        by_cases ed : d = N
        · subst ed
          simp [hc]
        · rw [← hb d (by omega)]
          simp [Ne.symm ed]
    · refine ⟨w, by omega, ?_, fun d hd => ?_⟩
      · rw [s_good, if_neg hc, e]
      · by_cases ed : d = N
        · subst ed
          rw [Nat.testBit_lt_two_pow hw]
          simp [hc]
        · exact hb d (by omega)
theorem s_cols_w (f t : Nat → Int32) (a : Nat) : ∀ k, ∃ w, w < 64 ∧ s_cols f t a k = nI w ∧ ∀ d, d < 6 → (w.testBit d = true ↔ (t (6 * a + d) = 0 ∧ f (6 * a + d) = 0) ∧ ∀ r, a ≤ r → r < a + k → t (6 * r + d) = 0 ∧ f (6 * r + d) = 0)
  | 0 => by
    obtain ⟨w, hw, e, hb⟩ := s_good_w f t a 6 (by omega)
    exact ⟨w, hw, e, fun d hd => (hb d hd).trans ⟨fun z => ⟨z, fun r h1 h2 => absurd h2 (by omega)⟩, fun z => z.1⟩⟩
  | k + 1 => by
    obtain ⟨w, hw, e, hb⟩ := s_cols_w f t a k
    obtain ⟨v, hv, e2, hb2⟩ := s_good_w f t (a + k) 6 (by omega)
    refine ⟨w &&& v, Nat.and_lt_two_pow (n := 6) w hv, by rw [s_cols, e, e2, fa_and], fun d hd => ?_⟩
    rw [Nat.testBit_and, Bool.and_eq_true, hb d hd, hb2 d hd]
    constructor
    · rintro ⟨⟨h1, h2⟩, h3⟩
      refine ⟨h1, fun r h4 h5 => ?_⟩
      by_cases er : r = a + k
      · subst er; exact h3
      · exact h2 r h4 (by omega)
    · rintro ⟨h1, h2⟩
      exact ⟨⟨h1, fun r h4 h5 => h2 r h4 (by omega)⟩, h2 (a + k) (by omega) (by omega)⟩
theorem msk_cl {f t : Nat → Int32} {a k w : Nat} (hb : ∀ d, d < 6 → (w.testBit d = true ↔ (t (6 * a + d) = 0 ∧ f (6 * a + d) = 0) ∧ ∀ r, a ≤ r → r < a + (k + 1) → t (6 * r + d) = 0 ∧ f (6 * r + d) = 0)) {j q : Nat} (hq : j + q < 6) : s_cl f t a (a + k) j (j + q) ↔ msk w j q = true := by
  rw [msk_iff]
  constructor
  · intro h d h1
    by_cases e : j ≤ d ∧ d ≤ j + q
    case neg => exact Or.inl e
    obtain ⟨h2, h3⟩ := e
    refine Or.inr ?_
    exact (hb d h1).mpr ⟨h a (by omega) (by omega) d h2 h3, fun r h4 h5 => h r h4 (by omega) d h2 h3⟩
  · intro h r h1 h2 d h3 h4
    exact ((hb d (by omega)).mp ((h d (by omega)).resolve_left (fun z => z ⟨h3, h4⟩))).2 r h1 (by omega)
theorem s_down_ge (f t : Nat → Int32) (a : Nat) {g0 : Int32} (h : 0 ≤ g0) : ∀ k, 0 ≤ s_down f t a g0 k
  | 0 => h
  | k + 1 => by rw [s_down]; exact s_max_ge (s_down_ge f t a h k)
theorem s_blk_ge (f t : Nat → Int32) : ∀ k, 0 ≤ s_blk f t k
  | 0 => show (0 : Int32) ≤ 0 by decide
  | k + 1 => by rw [s_blk]; exact s_down_ge f t k (s_blk_ge f t k) _
/-- what a stamp adds to what is told of its sheet -/
def s_gw (f t : Nat → Int32) (x : Int32) (k : Nat) : Int32 :=
  if x = 0 then (if t k = 0 then 1 else 0) else if x = 1 then s_lw (f k) (t k) 0 else if x = 2 then s_worth (f k) (t k) else if x = 4 ∧ k % 6 = 0 then (if f k &&& 1 = 0 then 0 else 1) else 0
set_option maxRecDepth 100000 in
theorem s_gw_off (f : Nat → Int32) : s_sum (fun k => if k % 6 = 0 then (if f k &&& 1 = 0 then 0 else 1) else 0) 30 = s_off f := by
  simp [s_sum, s_off]
theorem s_gw_sum (f t : Nat → Int32) {w : Nat} (hw : w ≤ 5) (h3 : ¬ nI w = nI 3) (h5 : ¬ nI w = nI 5) : s_sum (s_gw f t (nI w)) 30 = s_sheet f t (nI w) := by
  have hc : w = 0 ∨ w = 1 ∨ w = 2 ∨ w = 4 := by
    have e3 : ¬ w = 3 := fun z => h3 (congrArg nI z)
    have e5 : ¬ w = 5 := fun z => h5 (congrArg nI z)
    omega
  rcases hc with rfl | rfl | rfl | rfl
  · exact s_sum_congr (fun j _ => by rw [s_gw, if_pos (by decide)])
  · rw [s_sheet, if_neg (by decide), if_pos (by decide)]
    exact s_sum_congr (fun j _ => by rw [s_gw, if_neg (by decide), if_pos (by decide)])
  · rw [s_sheet, if_neg (by decide), if_neg (by decide), if_pos (by decide)]
    exact s_sum_congr (fun j _ => by rw [s_gw, if_neg (by decide), if_neg (by decide), if_pos (by decide)])
  · rw [s_sheet, if_neg (by decide), if_neg (by decide), if_neg (by decide), if_neg (by decide), if_pos (by decide), ← s_gw_off f]
    refine s_sum_congr (fun j _ => ?_)
    rw [s_gw, if_neg (by decide), if_neg (by decide), if_neg (by decide)]
    by_cases e : j % 6 = 0
    · rw [if_pos ⟨by decide, e⟩, if_pos e]
    · rw [if_neg (fun z => e z.2), if_neg e]
