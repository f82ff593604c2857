/-! ===== good columns as bits (before what is told) ===== -/
theorem s_max_l {a b : Int32} (h : a < b) : s_max a b = b := if_pos h
theorem s_max_r {a b : Int32} (h : ¬ a < b) : s_max a b = a := if_neg h
theorem s_max_assoc (b a x : Int32) : s_max (s_max b a) x = s_max b (s_max a x) := by
  by_cases h1 : b < a
  · rw [s_max_l h1]
    by_cases h2 : a < x
    · rw [s_max_l h2, s_max_l (by rw [i_lt] at h1 h2 ⊢; omega)]
    · rw [s_max_r h2, s_max_l h1]
  · rw [s_max_r h1]
    by_cases h2 : a < x
    · rw [s_max_l h2]
    · rw [s_max_r h2, s_max_r h1, s_max_r (by rw [i_lt] at h1 h2 ⊢; omega)]
theorem s_max_0 {b : Int32} (h : 0 ≤ b) : s_max b 0 = b := s_max_r (i_nlt h)
theorem s_max_ge {a b : Int32} (h : 0 ≤ a) : 0 ≤ s_max a b := by
  by_cases h1 : a < b
  · rw [s_max_l h1]; rw [i_lt] at h1; rw [i_le] at h ⊢; omega
  · rw [s_max_r h1]; exact h
theorem shl_dec : ∀ q, q < 6 → (1 : Int32) <<< (nI q &&& 31) = nI (2 ^ q) := by decide +kernel
theorem s_good_w (f t : Nat → Int32) (r : Nat) : ∀ N, N ≤ 6 → ∃ w, w < 2 ^ N ∧ s_good f t r N = nI w ∧ ∀ d, d < N → (w.testBit d = true ↔ t (6 * r + d) = 0 ∧ f (6 * r + d) = 0)
  | 0, _ => ⟨0, by decide, rfl, fun d hd => absurd hd (by omega)⟩
  | N + 1, hN => by
    obtain ⟨w, hw, e, hb⟩ := s_good_w f t r N (by omega)
    have h2 : 2 ^ N < 2 ^ (N + 1) := Nat.pow_lt_pow_right (by decide) (by omega)
    by_cases hc : t (6 * r + N) = 0 ∧ f (6 * r + N) = 0
    · refine ⟨w ||| 2 ^ N, Nat.or_lt_two_pow (by omega) h2, ?_, fun d hd => ?_⟩
      · rw [s_good, if_pos hc, e, shl_dec N (by omega), fa_or]
      · rw [Nat.testBit_or, Nat.testBit_two_pow]
        by_cases ed : d = N
        · subst ed
          simp [hc]
        · rw [← hb d (by omega)]
          simp [Ne.symm ed]
    · refine ⟨w, by omega, ?_, fun d hd => ?_⟩
      · rw [s_good, if_neg hc, e]
      · by_cases ed : d = N
        · subst ed
          rw [Nat.testBit_lt_two_pow hw]
          simp [hc]
        · exact hb d (by omega)
theorem s_cols_w (f t : Nat → Int32) (a : Nat) : ∀ k, ∃ w, w < 64 ∧ s_cols f t a k = nI w ∧ ∀ d, d < 6 → (w.testBit d = true ↔ (t (6 * a + d) = 0 ∧ f (6 * a + d) = 0) ∧ ∀ r, a ≤ r → r < a + k → t (6 * r + d) = 0 ∧ f (6 * r + d) = 0)
  | 0 => by
    obtain ⟨w, hw, e, hb⟩ := s_good_w f t a 6 (by omega)
    exact ⟨w, hw, e, fun d hd => (hb d hd).trans ⟨fun z => ⟨z, fun r h1 h2 => absurd h2 (by omega)⟩, fun z => z.1⟩⟩
  | k + 1 => by
    obtain ⟨w, hw, e, hb⟩ := s_cols_w f t a k
    obtain ⟨v, hv, e2, hb2⟩ := s_good_w f t (a + k) 6 (by omega)
    refine ⟨w &&& v, Nat.and_lt_two_pow (n := 6) w hv, by rw [s_cols, e, e2, fa_and], fun d hd => ?_⟩
    rw [Nat.testBit_and, Bool.and_eq_true, hb d hd, hb2 d hd]
    constructor
    · rintro ⟨⟨h1, h2⟩, h3⟩
      refine ⟨h1, fun r h4 h5 => ?_⟩
      by_cases er : r = a + k
      · subst er; exact h3
      · exact h2 r h4 (by omega)
    · rintro ⟨h1, h2⟩
      exact ⟨⟨h1, fun r h4 h5 => h2 r h4 (by omega)⟩, h2 (a + k) (by omega) (by omega)⟩
theorem s_down_ge (f t : Nat → Int32) (a : Nat) {g0 : Int32} (h : 0 ≤ g0) : ∀ k, 0 ≤ s_down f t a g0 k
  | 0 => h
  | k + 1 => by rw [s_down]; exact s_max_ge (s_down_ge f t a h k)
theorem s_blk_ge (f t : Nat → Int32) : ∀ k, 0 ≤ s_blk f t k
  | 0 => show (0 : Int32) ≤ 0 by decide
  | k + 1 => by rw [s_blk]; exact s_down_ge f t k (s_blk_ge f t k) _
