/-! ===== quotients of small whole numbers are no NaN ===== -/
def d_fin (x : UInt64) : Bool := match FP.Core.decode FP.Core.b64 x.toNat with
  | .fin _ _ _ => true
  | _ => false
def d_finz (x : UInt64) : Bool := match FP.Core.decode FP.Core.b64 x.toNat with
  | .fin _ d _ => decide (d ≠ 0)
  | _ => false
set_option maxRecDepth 100000 in
theorem d_w : ∀ w, w < 601 → d_fin (FP.i2d (nI w)) = true := by decide +kernel
set_option maxRecDepth 100000 in
theorem d_r : ∀ k, k < 21 → 0 < k → d_finz (FP.i2d (nI (30 * k))) = true := by decide +kernel
theorem b64_t : FP.Core.b64.tails = 4503599627370496 := by decide
theorem b64_e : FP.Core.b64.exps = 2048 := by decide
theorem b64_q : FP.Core.b64.qmin = -1074 := by decide
theorem b64_Q : FP.Core.b64.qmax = 971 := by decide
theorem b64_p : (2 : Nat) ^ FP.Core.b64.p = 9007199254740992 := by decide
theorem enc_inf (s : Bool) : FP.Core.encode FP.Core.b64 (.inf s) % 9223372036854775808 ≤ 9218868437227405312 := by
  cases s <;> decide
theorem enc_fin (s : Bool) (k : Nat) (q : Int) (hk : k < 9007199254740992) (hq : q ≤ 971) : FP.Core.encode FP.Core.b64 (.fin s k q) % 9223372036854775808 ≤ 9218868437227405312 := by
  have hs : s.toNat = 0 ∨ s.toNat = 1 := by cases s <;> simp
  unfold FP.Core.encode FP.Core.assemble
  rw [b64_t, b64_e, b64_q]
  by_cases h : k < 4503599627370496
  · simp only [if_pos h]
    omega
  · simp only [if_neg h]
    omega
theorem enc_bound (s : Bool) (k : Nat) (q : Int) (hk : k < 9007199254740992) : FP.Core.encode FP.Core.b64 (FP.Core.bound FP.Core.b64 s k q) % 9223372036854775808 ≤ 9218868437227405312 := by
  unfold FP.Core.bound
  by_cases h : q ≤ FP.Core.b64.qmax
  · rw [if_pos h]
    exact enc_fin s k q hk (by rw [b64_Q] at h; exact h)
  · rw [if_neg h]
    exact enc_inf s
theorem enc_quot (s t : Bool) (k d : Nat) (q r : Int) (hd : d ≠ 0) : FP.Core.encode FP.Core.b64 (FP.Core.quotient FP.Core.b64 (.fin s k q) (.fin t d r)) % 9223372036854775808 ≤ 9218868437227405312 := by
  have e : FP.Core.quotient FP.Core.b64 (.fin s k q) (.fin t d r) = FP.Core.roundRatio FP.Core.b64 (s != t) k d (q - r) := if_neg hd
  rw [e]
  unfold FP.Core.roundRatio
  by_cases h : k = 0
  · rw [if_pos h]
    exact enc_fin _ 0 _ (by omega) (by rw [b64_q]; omega)
  · rw [if_neg h]
    unfold FP.Core.roundAt FP.Core.settle
    split
    · rename_i h2
      exact enc_bound _ _ _ (by rw [b64_p] at h2; exact h2)
    · exact enc_bound _ _ _ (by rw [b64_t]; omega)
theorem n64_ddiv (w k : Nat) (hw : w ≤ 600) (hk : 0 < k) (hk2 : k ≤ 20) : vf_n64 (FP.ddiv (FP.i2d (nI w)) (FP.i2d (nI (30 * k)))) := by
  have h1 := d_w w (by omega)
  have h2 := d_r k (by omega) hk
  unfold d_fin at h1
  unfold d_finz at h2
  generalize FP.i2d (nI w) = x at h1 ⊢
  generalize FP.i2d (nI (30 * k)) = y at h2 ⊢
  cases e1 : FP.Core.decode FP.Core.b64 x.toNat with
  | nan => rw [e1] at h1; exact absurd h1 (by decide)
  | inf s => rw [e1] at h1; exact absurd h1 (by simp)
  | fin s a q =>
    cases e2 : FP.Core.decode FP.Core.b64 y.toNat with
    | nan => rw [e2] at h2; exact absurd h2 (by decide)
    | inf t => rw [e2] at h2; exact absurd h2 (by simp)
    | fin t d r =>
      rw [e2] at h2
      have hd : d ≠ 0 := by simpa using h2
      have h3 := enc_quot s t a d q r hd
      unfold vf_n64
      rw [UInt64.le_iff_toNat_le, UInt64.toNat_and]
      show (FP.Core.ddiv x y).toNat &&& (2 ^ 63 - 1) ≤ 9218868437227405312
      rw [Nat.and_two_pow_sub_one_eq_mod]
      unfold FP.Core.ddiv FP.Core.div
      rw [e1, e2]
      show (FP.Core.encode FP.Core.b64 (FP.Core.quotient FP.Core.b64 (.fin s a q) (.fin t d r))) % 2 ^ 64 % 2 ^ 63 ≤ 9218868437227405312
      omega
theorem s_sum_bd {g : Nat → Int32} {B : Nat} : ∀ N, (∀ j, j < N → ∃ w, w ≤ B ∧ g j = nI w) → ∃ w, w ≤ B * N ∧ s_sum g N = nI w
  | 0, _ => ⟨0, Nat.zero_le _, rfl⟩
  | N + 1, h => by
    obtain ⟨a, ha, e⟩ := s_sum_bd N (fun j hj => h j (by omega))
    obtain ⟨b, hb, f⟩ := h N (by omega)
    refine ⟨a + b, ?_, by rw [s_sum, e, f, nI_add]⟩
    rw [Nat.mul_add]
    omega
theorem s_with_bd (F T : Nat → Nat → Int32) (x : Int32) (cnt : Nat) : ∃ w, w ≤ 30 * cnt ∧ s_with F T x cnt = nI w := by
  refine s_sum_bd cnt (fun s _ => ?_)
  have h := s_sum_bd (g := fun j => s_lw (F s j) (T s j) x) (B := 1) 30 (fun j _ => by
    show ∃ w, w ≤ 1 ∧ s_lw (F s j) (T s j) x = nI w
    unfold s_lw
    split
    · exact ⟨1, by omega, rfl⟩
    · exact ⟨0, by omega, rfl⟩)
  obtain ⟨w, hw, e⟩ := h
  exact ⟨w, by omega, e⟩
def s_share (F T : Nat → Nat → Int32) (cnt : Nat) : UInt64 := if cnt = 0 then FP.dconst0 else FP.ddiv (FP.i2d (s_with F T 0 cnt)) (FP.i2d (nI (30 * cnt)))
theorem s_share_n64 {F T : Nat → Nat → Int32} {cnt : Nat} (hc : cnt ≤ 20) (h : 0 < cnt) : vf_n64 (FP.ddiv (FP.i2d (s_with F T 0 cnt)) (FP.i2d (nI (30 * cnt)))) := by
  obtain ⟨w, hw, e⟩ := s_with_bd F T 0 cnt
  rw [e]
  exact n64_ddiv w cnt (by omega) h hc
