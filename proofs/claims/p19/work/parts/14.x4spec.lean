/-! ===== the class: words for its answers ===== -/
/-- a number that is within bounds is a natural one -/
theorem in_nat {x M : Int32} (k : Nat) (h : 0 ≤ x ∧ x ≤ M) (hM : M.toInt = k) : ∃ i : Nat, i ≤ k ∧ x = nI i := by
  have h1 : ¬ x < 0 := i_nlt h.1
  obtain ⟨j, hj, e⟩ := nI_of2 hM h1 h.2
  exact ⟨j, hj, e⟩
theorem in_sheet {x : Int32} {cnt : Nat} (hc : cnt ≤ 20) (h : 0 ≤ x ∧ x ≤ nI cnt - nI 1) : ∃ i : Nat, i < cnt ∧ x = nI i := by
  rcases Nat.eq_zero_or_pos cnt with e | e
  · subst e
    exfalso
    have h1 := h.1
    have h2 := h.2
    rw [i_le] at h1 h2
    have h3 : (nI 0 - nI 1).toInt = -1 := by decide
    have h4 : (0 : Int32).toInt = 0 := by decide
    omega
  · rw [pk_sub e] at h
    obtain ⟨i, hi, rfl⟩ := in_nat (cnt - 1) h (nI_toInt (by omega))
    exact ⟨i, by omega, rfl⟩
theorem sheet_in {cnt i : Nat} (hc : cnt ≤ 20) (h : i < cnt) : 0 ≤ nI i ∧ nI i ≤ nI cnt - nI 1 := by
  rw [pk_sub (by omega)]
  exact ⟨nI_pos' (by omega), nI_le (by omega) (by omega)⟩
def s_inv (pl : Nat → Int32) : Int32 := s_sum (fun j => if pl j = 0 then 0 else 1) 30
def s_val (F T : Nat → Nat → Int32) (cnt : Nat) : Int32 := s_sum (fun s => s_worths (F s) (T s)) cnt
def s_with (F T : Nat → Nat → Int32) (x : Int32) (cnt : Nat) : Int32 := s_sum (fun s => s_leftWith (F s) (T s) x) cnt
def s_cnt (cnt : Nat) (M St We pl : Nat → Int32) (F T : Nat → Nat → Int32) (w : Int32) : Int32 :=
  if w = 0 then nI cnt else if w = 1 then M 0 else if w = 2 then M 1 else if w = 3 then M 2 else if w = 4 then M 3 else if w = 5 then M 4 else if w = 6 then M 5 else if w = 7 then s_broken St We else if w = 8 then s_inv pl else s_val F T cnt
def s_digP (St We : Nat → Int32) (d : Int64) : Nat → Int64
  | 0 => d
  | q + 1 => s_dig (fun w => s_pin (St q) (We q) (nI w)) (s_digP St We d q) 4
def s_digA (F T : Nat → Nat → Int32) (d : Int64) : Nat → Int64
  | 0 => d
  | q + 1 => s_digS (F q) (T q) (s_digA F T d q)
def s_digest (cnt : Nat) (M St We pl : Nat → Int32) (F T : Nat → Nat → Int32) : Int64 :=
  s_digA F T (s_digP St We (s_dig (fun w => s_cnt cnt M St We pl F T (nI w)) 1069 10) 7) cnt
/-- the most so far; the best of 21 feeds -/
def s_best1 (g : Nat → Int32) : Nat → Int32
  | 0 => -1
  | i + 1 => if g i ≤ s_best1 g i then s_best1 g i else g i
def s_best (g : Nat → Int32) : Nat → Int32
  | 0 => 10
  | i + 1 => if g i ≤ s_best1 g i then s_best g i else nI (10 + i)
def s_adv (M St We pl : Nat → Int32) (N : Nat) : Int32 := s_best (fun i => s_tC (upd M 0 (nI (10 + i))) St We pl (fun _ => 0) N) 21
def s_fore (M St We pl : Nat → Int32) (N : Nat) (w : Int32) : Int32 :=
  if w = 0 then s_tC (upd M 0 (M 0)) St We pl (fun _ => 0) N else if w = 1 then s_tV (upd M 0 (M 0)) St We pl (fun _ => 0) N else if w = 2 then s_broken St (s_rW St We N) else s_rM (upd M 0 (M 0)) N 2
