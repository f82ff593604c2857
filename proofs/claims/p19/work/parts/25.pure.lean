/-! ===== sums of naturals; what holds of a sheet, of the pins, of all sheets ===== -/
def n_sum (g : Nat → Nat) : Nat → Nat
  | 0 => 0
  | k + 1 => n_sum g k + g k
theorem n_sum_le {a b : Nat → Nat} : ∀ N, (∀ j, j < N → a j ≤ b j) → n_sum a N ≤ n_sum b N
  | 0, _ => Nat.le_refl _
  | N + 1, h => Nat.add_le_add (n_sum_le N (fun j hj => h j (by omega))) (h N (by omega))
theorem n_sum_bd {a : Nat → Nat} {B : Nat} : ∀ N, (∀ j, j < N → a j ≤ B) → n_sum a N ≤ B * N
  | 0, _ => Nat.zero_le _
  | N + 1, h => by
    have h1 := n_sum_bd N (fun j hj => h j (by omega))
    have h2 := h N (by omega)
    show n_sum a N + a N ≤ B * (N + 1)
    rw [Nat.mul_add]
    omega
theorem n_sum_mul (c : Nat) (a : Nat → Nat) : ∀ N, n_sum (fun j => c * a j) N = c * n_sum a N
  | 0 => rfl
  | N + 1 => by
    show n_sum (fun j => c * a j) N + c * a N = c * (n_sum a N + a N)
    rw [n_sum_mul c a N, Nat.mul_add]
theorem n_sum_rng {R : Nat → Nat} {p : Nat} : ∀ (N a m : Nat), a + m ≤ N → (∀ r, a ≤ r → r < a + m → p ≤ R r) → m * p ≤ n_sum R N
  | N, a, 0, _, _ => by rw [Nat.zero_mul]; exact Nat.zero_le _
  | 0, a, m + 1, h, _ => absurd h (by omega)
  | N + 1, a, m + 1, h, hr => by
    show (m + 1) * p ≤ n_sum R N + R N
    by_cases e : a + (m + 1) ≤ N
    · exact Nat.le_trans (n_sum_rng N a (m + 1) e hr) (Nat.le_add_right _ _)
    · have h1 := n_sum_rng (R := R) (p := p) N a m (by omega) (fun r h1 h2 => hr r h1 (by omega))
      have h2 := hr N (by omega) (by omega)
      rw [Nat.add_mul, Nat.one_mul]
      omega
theorem n_sum_pos {g : Nat → Nat} : ∀ N, 0 < n_sum g N → ∃ j, j < N ∧ 0 < g j
  | 0, h => absurd h (Nat.lt_irrefl 0)
  | N + 1, h => by
    by_cases e : 0 < g N
    · exact ⟨N, by omega, e⟩
    · obtain ⟨j, hj, h2⟩ := n_sum_pos (g := g) N (by have h3 : 0 < n_sum g N + g N := h; omega)
      exact ⟨j, by omega, h2⟩
theorem n_sum_one {g : Nat → Nat} : ∀ N j, j < N → g j ≤ n_sum g N
  | 0, j, h => absurd h (by omega)
  | N + 1, j, h => by
    show g j ≤ n_sum g N + g N
    by_cases e : j = N
    · subst e; omega
    · have := n_sum_one (g := g) N j (by omega); omega
theorem n_sum_30 (g : Nat → Nat) : n_sum g 30 = n_sum (fun r => n_sum (fun c => g (6 * r + c)) 6) 5 := by
  simp [n_sum]
  omega
theorem s_sum_nat {g : Nat → Int32} {a : Nat → Nat} : ∀ N, (∀ j, j < N → g j = nI (a j)) → s_sum g N = nI (n_sum a N)
  | 0, _ => rfl
  | N + 1, h => by
    show s_sum g N + g N = nI (n_sum a N + a N)
    rw [s_sum_nat N (fun j hj => h j (by omega)), h N (by omega), nI_add]
-- stamps
def n_lw (f t : Int32) : Nat := if t = 0 ∧ f = 0 then 1 else 0
def n_th (t : Int32) : Nat := if t = 0 then 1 else 0
def n_wo (f t : Int32) : Nat := (s_worth f t).toNatClampNeg
theorem n_lw_eq (f t : Int32) : s_lw f t 0 = nI (n_lw f t) := by
  unfold s_lw n_lw
  by_cases h : t = 0 ∧ f = 0
  · rw [if_pos h, if_pos h]; rfl
  · rw [if_neg h, if_neg h]; rfl
theorem n_th_eq (t : Int32) : (if t = 0 then 1 else 0 : Int32) = nI (n_th t) := by
  unfold n_th
  by_cases h : t = 0
  · rw [if_pos h, if_pos h]; rfl
  · rw [if_neg h, if_neg h]; rfl
set_option maxRecDepth 100000 in
theorem n_wo_a : ∀ w, w < 32 → s_worth (nI w) 0 = nI (n_wo (nI w) 0) ∧ n_wo (nI w) 0 ≤ 25 ∧ n_lw (nI w) 0 ≤ n_wo (nI w) 0 := by decide +kernel
theorem n_wo_eq {f : Int32} (t : Int32) (h : F32 f) : s_worth f t = nI (n_wo f t) ∧ n_wo f t ≤ 25 * n_th t ∧ n_lw f t ≤ n_wo f t := by
  obtain ⟨w, hw, rfl⟩ := h
  by_cases e : t = 0
  · subst e
    obtain ⟨h1, h2, h3⟩ := n_wo_a w hw
    exact ⟨h1, by rw [n_th, if_pos rfl]; omega, h3⟩
  · have h1 : s_worth (nI w) t = 0 := if_neg (fun z => e z.1)
    have h2 : n_wo (nI w) t = 0 := by rw [n_wo, h1]; rfl
    exact ⟨by rw [h1, h2]; rfl, by omega, by rw [n_lw, if_neg (fun z => e z.1)]; omega⟩
def n_cl (f t : Nat → Int32) : Nat := n_sum (fun j => n_lw (f j) (t j)) 30
theorem n_lw_le (f t : Int32) : n_lw f t ≤ n_th t := by
  unfold n_lw n_th
  by_cases h : t = 0
  · rw [if_pos h]; split <;> omega
  · rw [if_neg h, if_neg (fun z => h z.1)]; omega
theorem n_lw_1 {f t : Int32} (h : t = 0 ∧ f = 0) : n_lw f t = 1 := if_pos h
-- the block
def n_ln (w : Nat) : Nat := (s_longest (nI w) 6).toNatClampNeg
set_option maxRecDepth 100000 in
theorem n_ln_a : ∀ w, w < 64 → s_longest (nI w) 6 = nI (n_ln w) ∧ n_ln w ≤ n_sum (fun c => if w.testBit c = true then 1 else 0) 6 ∧ (w ≠ 0 → 1 ≤ n_ln w) ∧ n_ln w ≤ 6 := by decide +kernel
theorem n_blk_term (f t : Nat → Int32) (a k : Nat) (h : a + (k + 1) ≤ 5) : ∃ v : Nat, nI (k + 1) * s_longest (s_cols f t a (k + 1)) 6 = nI v ∧ v ≤ n_cl f t ∧ v ≤ 30 := by
  obtain ⟨w, hw, e, hb⟩ := s_cols_w f t a (k + 1)
  obtain ⟨h1, h2, -, h4⟩ := n_ln_a w hw
  refine ⟨(k + 1) * n_ln w, by rw [e, h1, pk_mul], ?_, ?_⟩
  · refine Nat.le_trans (Nat.mul_le_mul_left _ h2) ?_
    unfold n_cl
    rw [n_sum_30]
    refine n_sum_rng 5 a (k + 1) h (fun r h5 h6 => n_sum_le 6 (fun c hc => ?_))
    show (if w.testBit c = true then 1 else 0) ≤ n_lw (f (6 * r + c)) (t (6 * r + c))
    by_cases e2 : w.testBit c = true
    · rw [if_pos e2, n_lw_1 (((hb c hc).mp e2).2 r h5 h6)]
      exact Nat.le_refl 1
    · rw [if_neg e2]; exact Nat.zero_le _
  · exact Nat.le_trans (Nat.mul_le_mul (show k + 1 ≤ 5 by omega) h4) (by omega)
theorem n_down (f t : Nat → Int32) (a g : Nat) (hg : g ≤ 30) : ∀ k, a + k ≤ 5 → ∃ d : Nat, s_down f t a (nI g) k = nI d ∧ g ≤ d ∧ d ≤ max g (n_cl f t) ∧ d ≤ 30 ∧ (1 ≤ k → ∃ v : Nat, nI 1 * s_longest (s_cols f t a 1) 6 = nI v ∧ v ≤ 30 ∧ v ≤ d)
  | 0, _ => ⟨g, rfl, Nat.le_refl g, by omega, hg, fun z => absurd z (by omega)⟩
  | k + 1, hk => by
    obtain ⟨d, h1, h2, h3, h4, h5⟩ := n_down f t a g hg k (by omega)
    obtain ⟨v, e1, e2, e3⟩ := n_blk_term f t a k (by omega)
    refine ⟨max d v, ?_, by omega, by omega, by omega, fun _ => ?_⟩
    · rw [s_down, h1, e1, s_max_n (by omega) (by omega)]
    · by_cases e : 1 ≤ k
      · obtain ⟨u, u1, u2, u3⟩ := h5 e
        exact ⟨u, u1, u2, by omega⟩
      · have ek : k = 0 := by omega
        subst ek
        exact ⟨v, e1, e3, by omega⟩
theorem n_blk (f t : Nat → Int32) : ∀ k, k ≤ 5 → ∃ d : Nat, s_blk f t k = nI d ∧ d ≤ n_cl f t ∧ d ≤ 30 ∧ ∀ r c, r < k → c < 6 → (t (6 * r + c) = 0 ∧ f (6 * r + c) = 0) → 1 ≤ d
  | 0, _ => ⟨0, rfl, Nat.zero_le _, by omega, fun r c h => absurd h (by omega)⟩
  | k + 1, hk => by
    obtain ⟨g, h1, h2, h3, h4⟩ := n_blk f t k (by omega)
    obtain ⟨d, d1, d2, d3, d4, d5⟩ := n_down f t k g h3 (5 - k) (by omega)
    refine ⟨d, by rw [s_blk, h1, d1], by omega, d4, fun r c hr hc hg => ?_⟩
    by_cases e : r = k
    · subst e
      obtain ⟨v, v1, v2, v3⟩ := d5 (by omega)
      obtain ⟨w, hw, e1, hb⟩ := s_cols_w f t r 1
      obtain ⟨l1, -, l3, l4⟩ := n_ln_a w hw
      rw [e1, l1, pk_mul] at v1
      have hv : 1 * n_ln w = v := (nI_eq (by omega) (by omega)).mp v1
      have hw0 : w ≠ 0 := by
        intro z
        have := (hb c hc).mpr ⟨hg, fun r1 h5 h6 => by rw [show r1 = r by omega]; exact hg⟩
        rw [z] at this
        simp at this
      have := l3 hw0
      omega
    · have := h4 r c (by omega) hc hg
      omega
/-- of a sheet: stamps there, without faults, worth, pairs, rows off, block -/
theorem sheet_facts {f : Nat → Int32} (t : Nat → Int32) (h : ∀ j, j < 30 → F32 (f j)) : ∃ d c w p o b : Nat, s_sheet f t (nI 0) = nI d ∧ s_sheet f t (nI 1) = nI c ∧ s_sheet f t (nI 2) = nI w ∧ s_sheet f t (nI 3) = nI p ∧ s_sheet f t (nI 4) = nI o ∧ s_sheet f t (nI 5) = nI b ∧ d ≤ 30 ∧ c ≤ d ∧ b ≤ c ∧ (0 < c ↔ 0 < b) ∧ c ≤ w ∧ w ≤ 25 * d ∧ p ≤ 25 ∧ o ≤ 5 := by
  have hp : ∃ p : Nat, s_pairs f t = nI p ∧ p ≤ 25 := by
    have key : ∀ r, ∃ p : Nat, s_prs f t r = nI p ∧ p ≤ 5 * r := by
      intro r
      induction r with
      | zero => exact ⟨0, rfl, by omega⟩
      | succ r ih =>
        obtain ⟨p, e, hp⟩ := ih
        have k2 : ∀ c, ∃ q : Nat, s_acc (fun c => s_pr (f (6 * r + c)) (t (6 * r + c)) (f (6 * r + c + 1)) (t (6 * r + c + 1))) (nI p) c = nI q ∧ q ≤ p + c := by
          intro c
          induction c with
          | zero => exact ⟨p, rfl, by omega⟩
          | succ c ih2 =>
            obtain ⟨q, e2, hq⟩ := ih2
            rw [s_acc, e2]
            unfold s_pr
            split
            · exact ⟨q + 1, nI_1 q, by omega⟩
            · exact ⟨q, Int32.add_zero _, by omega⟩
        obtain ⟨q, e3, hq⟩ := k2 5
        exact ⟨q, by rw [s_prs, e]; exact e3, by omega⟩
    obtain ⟨p, e, hp⟩ := key 5
    exact ⟨p, e, by omega⟩
  have ho : ∃ o : Nat, s_off f = nI o ∧ o ≤ 5 := by
    have e : s_off f = nI (n_sum (fun r => if f (6 * r) &&& 1 = 0 then 0 else 1) 5) := s_sum_nat 5 (fun j _ => by
      show (if f (6 * j) &&& 1 = 0 then (0 : Int32) else 1) = nI (if f (6 * j) &&& 1 = 0 then 0 else 1)
      split <;> rfl)
    have hb := n_sum_bd (a := fun r => if f (6 * r) &&& 1 = 0 then 0 else 1) (B := 1) 5 (fun j _ => by
      show (if f (6 * j) &&& 1 = 0 then 0 else 1) ≤ 1
      split <;> omega)
    exact ⟨_, e, by omega⟩
  obtain ⟨p, hp1, hp2⟩ := hp
  obtain ⟨o, ho1, ho2⟩ := ho
  obtain ⟨b, hb1, hb2, hb3, hb4⟩ := n_blk f t 5 (by omega)
  have hd : s_left t = nI (n_sum (fun j => n_th (t j)) 30) := s_sum_nat 30 (fun j _ => n_th_eq (t j))
  have hc : s_leftWith f t 0 = nI (n_cl f t) := s_sum_nat 30 (fun j _ => n_lw_eq (f j) (t j))
  have hw : s_worths f t = nI (n_sum (fun j => n_wo (f j) (t j)) 30) := s_sum_nat 30 (fun j hj => (n_wo_eq (t j) (h j hj)).1)
  have hd30 : n_sum (fun j => n_th (t j)) 30 ≤ 1 * 30 := n_sum_bd 30 (fun j _ => by show n_th (t j) ≤ 1; unfold n_th; split <;> omega)
  have hcd : n_cl f t ≤ n_sum (fun j => n_th (t j)) 30 := n_sum_le 30 (fun j _ => n_lw_le (f j) (t j))
  have hcw : n_cl f t ≤ n_sum (fun j => n_wo (f j) (t j)) 30 := n_sum_le 30 (fun j hj => (n_wo_eq (t j) (h j hj)).2.2)
  have hwd : n_sum (fun j => n_wo (f j) (t j)) 30 ≤ n_sum (fun j => 25 * n_th (t j)) 30 := n_sum_le 30 (fun j hj => (n_wo_eq (t j) (h j hj)).2.1)
  rw [n_sum_mul] at hwd
  refine ⟨_, n_cl f t, _, p, o, b, (by rw [s_sheet, if_pos (by decide)]; exact hd), (by rw [s_sheet, if_neg (by decide), if_pos (by decide)]; exact hc), (by rw [s_sheet, if_neg (by decide), if_neg (by decide), if_pos (by decide)]; exact hw), (by rw [s_sheet, if_neg (by decide), if_neg (by decide), if_neg (by decide), if_pos (by decide)]; exact hp1), (by rw [s_sheet, if_neg (by decide), if_neg (by decide), if_neg (by decide), if_neg (by decide), if_pos (by decide)]; exact ho1), (by rw [s_sheet, if_neg (by decide), if_neg (by decide), if_neg (by decide), if_neg (by decide), if_neg (by decide)]; exact hb1), by omega, hcd, hb2, ⟨fun z => ?_, fun z => by omega⟩, hcw, hwd, hp2, ho2⟩
  obtain ⟨j, hj, hg⟩ := n_sum_pos 30 z
  have hg2 : t j = 0 ∧ f j = 0 := by
    by_cases e : t j = 0 ∧ f j = 0
    · exact e
    · have e2 : n_lw (f j) (t j) = 0 := if_neg e
      have : 0 < n_lw (f j) (t j) := hg
      omega
  have := hb4 (j / 6) (j % 6) (by omega) (by omega) (by rw [show 6 * (j / 6) + j % 6 = j by omega]; exact hg2)
  omega
-- all masks
theorem s_sum_0 : ∀ N, s_sum (fun _ => 0) N = 0
  | 0 => rfl
  | N + 1 => by rw [s_sum, s_sum_0 N]; rfl
theorem s_sum_add (g h : Nat → Int32) : ∀ N, s_sum (fun j => g j + h j) N = s_sum g N + s_sum h N
  | 0 => rfl
  | N + 1 => by
    rw [s_sum, s_sum, s_sum, s_sum_add g h N]
    ac_rfl
theorem s_sum_swap (g : Nat → Nat → Int32) (M : Nat) : ∀ N, s_sum (fun i => s_sum (g i) M) N = s_sum (fun j => s_sum (fun i => g i j) N) M
  | 0 => (s_sum_0 M).symm
  | N + 1 => by
    rw [s_sum, s_sum_swap g M N, ← s_sum_add]
    rfl
set_option maxRecDepth 100000 in
theorem masks_a : ∀ w, w < 32 → s_sum (fun m => s_lw (nI w) 0 (nI m)) 32 = 1 := by decide +kernel
theorem masks_1 {f : Int32} (t : Int32) (h : F32 f) : s_sum (fun m => s_lw f t (nI m)) 32 = if t = 0 then 1 else 0 := by
  by_cases e : t = 0
  · subst e
    obtain ⟨w, hw, rfl⟩ := h
    rw [if_pos rfl]
    exact masks_a w hw
  · rw [if_neg e]
    exact (s_sum_congr (fun m _ => if_neg (fun z => e z.1))).trans (s_sum_0 32)
theorem masks_all {F : Nat → Nat → Int32} (T : Nat → Nat → Int32) {cnt : Nat} (h : ∀ q, q < cnt → ∀ j, j < 30 → F32 (F q j)) : s_sum (fun m => s_with F T (nI m) cnt) 32 = s_sum (fun q => s_left (T q)) cnt := by
  unfold s_with
  rw [s_sum_swap (fun m q => s_leftWith (F q) (T q) (nI m)) cnt 32]
  refine s_sum_congr (fun q hq => ?_)
  show s_sum (fun m => s_sum (fun j => s_lw (F q j) (T q j) (nI m)) 30) 32 = s_left (T q)
  rw [s_sum_swap (fun m j => s_lw (F q j) (T q j) (nI m)) 30 32]
  exact s_sum_congr (fun j hj => masks_1 (T q j) (h q hq j hj))
-- pins
def PinOk (s w : Int32) : Prop := ∃ a b : Nat, s = nI a ∧ w = nI b ∧ 1 ≤ a ∧ a ≤ 500 ∧ b ≤ a + 1
theorem pin_W {St We : Nat → Int32} {q a b : Nat} (hs : St q = nI a) (hw : We q = nI b) (ha : a ≤ 500) (hb : b ≤ a + 1) : ∀ r, s_W St We r q = nI (min (b + r) (a + 1))
  | 0 => by rw [s_W, hw]; exact congrArg nI (by omega)
  | r + 1 => by
    show s_strike (St q) (s_W St We r q) = _
    rw [pin_W hs hw ha hb r, hs, s_strike]
    by_cases e : min (b + r) (a + 1) ≤ a
    · rw [if_pos ((nI_leI (by omega) (by omega)).mpr e), nI_1]
      exact congrArg nI (by omega)
    · rw [if_neg (fun z => e ((nI_leI (by omega) (by omega)).mp z))]
      exact congrArg nI (by omega)
theorem PinOk.run {St We : Nat → Int32} {q : Nat} (h : PinOk (St q) (We q)) (r : Nat) : PinOk (St q) (s_W St We r q) := by
  obtain ⟨a, b, hs, hw, h1, h2, h3⟩ := h
  exact ⟨a, _, hs, pin_W hs hw h2 h3 r, h1, h2, by omega⟩
theorem pin_3 {a b : Nat} (ha : a ≤ 500) (hb : b ≤ a + 1) : s_pin (nI a) (nI b) (nI 3) = nI (a + 1 - b) := by
  rw [s_pin, if_neg (by decide), if_neg (by decide), if_neg (by decide)]
  by_cases e : b ≤ a
  · rw [if_pos ((nI_leI (by omega) (by omega)).mpr e), pk_sub e, nI_1]
    exact congrArg nI (by omega)
  · rw [if_neg (fun z => e ((nI_leI (by omega) (by omega)).mp z))]
    show nI 0 = _
    exact congrArg nI (by omega)
theorem pin_2 {a b : Nat} (ha : a ≤ 500) (hb : b ≤ a + 1) : s_pin (nI a) (nI b) (nI 2) = if b ≤ a then 1 else 0 := by
  rw [s_pin, if_neg (by decide), if_neg (by decide), if_pos (by decide)]
  by_cases e : b ≤ a
  · rw [if_pos ((nI_leI (by omega) (by omega)).mpr e), if_pos e]
  · rw [if_neg (fun z => e ((nI_leI (by omega) (by omega)).mp z)), if_neg e]
theorem pin_run {St We : Nat → Int32} {q : Nat} (h : PinOk (St q) (We q)) : s_pin (St q) (s_W St We 5 q) (nI 3) = s_max 0 (s_pin (St q) (We q) (nI 3) - 5) ∧ s_pin (St q) (s_W St We 5 q) (nI 2) = if 5 < s_pin (St q) (We q) (nI 3) then 1 else 0 := by
  obtain ⟨a, b, hs, hw, h1, h2, h3⟩ := h
  rw [pin_W hs hw h2 h3 5, hs, hw, pin_3 h2 h3, pin_3 h2 (by omega), pin_2 h2 (by omega)]
  constructor
  · by_cases e : 5 ≤ a + 1 - b
    · show _ = s_max (nI 0) (nI (a + 1 - b) - nI 5)
      rw [pk_sub e, s_max_n (by omega) (by omega)]
      exact congrArg nI (by omega)
    · have hn : nI (a + 1 - b) - nI 5 < 0 := pk_sneg (by omega) (by omega)
      have hn2 : ¬ (0 : Int32) < nI (a + 1 - b) - nI 5 := fun z => by rw [i_lt] at z hn; omega
      show _ = s_max 0 (nI (a + 1 - b) - nI 5)
      rw [s_max, if_neg hn2]
      show _ = nI 0
      exact congrArg nI (by omega)
  · by_cases e : min (b + 5) (a + 1) ≤ a
    · rw [if_pos e, if_pos (show (5 : Int32) < nI (a + 1 - b) from nI_lt (a := 5) (by omega) (by omega))]
    · rw [if_neg e, if_neg (show ¬ (5 : Int32) < nI (a + 1 - b) from nI_nlt (b := a + 1 - b) (a := 5) (by omega) (by omega))]
-- rows
def Rw (x y : Int32) : Prop := x - x / 2 * 2 = y - y / 2 * 2 ∧ x / 4 - x / 4 / 2 * 2 = y / 2 - y / 2 / 2 * 2
def Rows (f : Nat → Int32) : Prop := ∀ r, r < 5 → ∀ c, c < 5 → Rw (f (6 * r + c)) (f (6 * r + c + 1))
def r_val (o a b p w : Bool) : Int32 := ((((if o then 1 else 0) ||| (if a then 0 else 2)) ||| (if b then 0 else 4)) ||| (if p then 0 else 8)) ||| (if w then 0 else 16)
set_option maxRecDepth 100000 in
theorem r_val_rw : ∀ o a b c p w p2 w2 : Bool, r_val o a b p w - r_val o a b p w / 2 * 2 = r_val o b c p2 w2 - r_val o b c p2 w2 / 2 * 2 ∧ r_val o a b p w / 4 - r_val o a b p w / 4 / 2 * 2 = r_val o b c p2 w2 / 2 - r_val o b c p2 w2 / 2 / 2 * 2 := by decide +kernel
theorem r_val_eq (M St We pl : Nat → Int32) (r c : Nat) (h : 0 < M 4) : s_stamp M St We pl r c = r_val (!decide (s_offF M = 0)) (decide (We c ≤ St c)) (decide (We (c + 1) ≤ St (c + 1))) (decide (pl (6 * r + c) = 0)) (decide (M 5 + nI c - (M 5 + nI c) / M 4 * M 4 = 0)) := by
  rw [← s_stamp_m M St We pl r c h]
  unfold r_val
  have ho : s_offF M = if (!decide (s_offF M = 0)) = true then 1 else 0 := by
    by_cases e : s_offF M = 0
    · simp [e]
    · simp [s_offF_1 e]
  simp only [decide_eq_true_eq]
  rw [← ho]
theorem Rows_fault (M St We pl : Nat → Int32) (h : 0 < M 4) : Rows (s_fault M St We pl) := by
  intro r hr c hc
  rw [show 6 * r + c + 1 = 6 * r + (c + 1) by omega, s_fault_at (by omega), s_fault_at (by omega)]
  have h4 : 0 < s_err (s_M M r) 4 := by
    rw [show s_err (s_M M r) 4 = M 4 from s_M_4 M r]
    exact h
  rw [r_val_eq _ _ _ _ _ _ h4, r_val_eq _ _ _ _ _ _ h4]
  exact r_val_rw _ _ _ _ _ _ _ _
theorem Rows.cg {f g : Nat → Int32} (h : Rows f) (e : ∀ j, j < 30 → g j = f j) : Rows g := by
  intro r hr c hc
  rw [e _ (by omega), e _ (by omega)]
  exact h r hr c hc
-- ahead of time
theorem upd_same (M : Nat → Int32) (k : Nat) : upd M k (M k) = M := by
  funext j
  by_cases e : j = k
  · subst e; exact pk_us
  · exact pk_un e
theorem fore_0 {M St We pl f1 t : Nat → Int32} (hf : ∀ j, j < 30 → f1 j = s_fault M St We pl j) (ht : ∀ j, j < 30 → t j = 0) : s_sheet f1 t (nI 1) = s_fore M St We pl 1 (nI 0) := by
  rw [s_sheet, if_neg (by decide), if_pos (by decide), s_fore, if_pos (by decide), upd_same]
  show s_leftWith f1 t 0 = 0 + s_leftWith (s_fault M St We pl) (fun _ => 0) 0
  rw [Int32.zero_add]
  exact s_sum_congr (fun j hj => by show s_lw (f1 j) (t j) 0 = s_lw (s_fault M St We pl j) 0 0; rw [hf j hj, ht j hj])
theorem fore_1 {M St We pl f1 t : Nat → Int32} (hf : ∀ j, j < 30 → f1 j = s_fault M St We pl j) (ht : ∀ j, j < 30 → t j = 0) : s_sheet f1 t (nI 2) = s_fore M St We pl 1 (nI 1) := by
  rw [s_sheet, if_neg (by decide), if_neg (by decide), if_pos (by decide), s_fore, if_neg (by decide), if_pos (by decide), upd_same]
  show s_worths f1 t = 0 + s_worths (s_fault M St We pl) (fun _ => 0)
  rw [Int32.zero_add]
  exact s_sum_congr (fun j hj => by show s_worth (f1 j) (t j) = s_worth (s_fault M St We pl j) 0; rw [hf j hj, ht j hj])
theorem fore_2 (M St We pl : Nat → Int32) : s_broken St (s_W St We 5) = s_fore M St We pl 1 (nI 2) := by
  rw [s_fore, if_neg (by decide), if_neg (by decide), if_pos (by decide)]
  rfl
theorem fore_3 (M St We pl : Nat → Int32) : s_end M 2 = s_fore M St We pl 1 (nI 3) := by
  rw [s_fore, if_neg (by decide), if_neg (by decide), if_neg (by decide), upd_same]
  rfl
theorem left_30 {f t : Nat → Int32} (ht : ∀ j, j < 30 → t j = 0) : s_sheet f t (nI 0) = nI 30 := by
  rw [s_sheet, if_pos (by decide)]
  have h : s_left t = s_sum (fun _ => 1) 30 := s_sum_congr (fun j hj => if_pos (ht j hj))
  rw [h]
  decide
theorem dcmp_refl {x : UInt64} (h : vf_n64 x) : Op.cmpValue (FP.dcmp x x) .l = 0 := by
  have h1 : FP.Core.val64 x ≠ .nan := (FP.Core.ne_nan x).mpr (by
    unfold vf_n64 at h
    rw [UInt64.le_iff_toNat_le, UInt64.toNat_and] at h
    have h2 : x.toNat &&& (2 ^ 63 - 1) ≤ 9218868437227405312 := h
    rw [Nat.and_two_pow_sub_one_eq_mod] at h2
    exact h2)
  show Op.cmpValue (FP.Core.dcmp x x) .l = 0
  rw [FP.Core.dcmp_self h1]
  rfl
/-- what holds of the numbers all the time -/
def P0 (cnt : Nat) (M St We : Nat → Int32) (F T : Nat → Nat → Int32) : Prop := 0 < M 4 ∧ (∀ q, q < cnt → ∀ j, j < 30 → F32 (F q j)) ∧ (∀ q, cnt ≤ q → ∀ j, j < 30 → T q j = 0) ∧ (∀ q, q < 7 → PinOk (St q) (We q)) ∧ ∀ q, q < cnt → Rows (F q)
/-- class and law's machine hold one state -/
def Inv (V : gT) (n : Nat) (ad : Nat → Nat) (el : Nat → va_E) (B cnt : Nat) (M St We pl : Nat → Int32) (F T : Nat → Nat → Int32) : Prop := 97 ≤ B ∧ cnt ≤ 20 ∧ n = B + 12 * cnt ∧ X4At V ad el cnt M St We pl F T ∧ SimAt V ad el B cnt M St We pl F T ∧ P0 cnt M St We F T
theorem P0.run {cnt : Nat} {M St We pl f1 : Nat → Int32} {F T : Nat → Nat → Int32} (h : P0 cnt M St We F T) (hf : ∀ j, j < 30 → f1 j = s_fault M St We pl j) : P0 (cnt + 1) (s_end M) St (s_W St We 5) (va_up F cnt f1) T := by
  obtain ⟨h1, h2, h3, h4, h5⟩ := h
  refine ⟨by rw [s_end_4]; exact h1, fun q hq j hj => ?_, fun q hq => h3 q (by omega), fun q hq => (h4 q hq).run 5, fun q hq => ?_⟩
  · by_cases e : q = cnt
    · subst e; rw [va_up_self, hf j hj]; exact s_fault_32 _ _ _ _ _
    · rw [va_up_ne _ _ e]; exact h2 q (by omega) j hj
  · by_cases e : q = cnt
    · subst e; rw [va_up_self]; exact (Rows_fault M St We pl h1).cg hf
    · rw [va_up_ne _ _ e]; exact h5 q (by omega)
theorem P0.fit {cnt : Nat} {M St We : Nat → Int32} {F T : Nat → Nat → Int32} (h : P0 cnt M St We F T) (i a : Nat) (h1 : 1 ≤ a) (h2 : a ≤ 500) : P0 cnt M (upd St i (nI a)) (upd We i 0) F T := by
  obtain ⟨g1, g2, g3, g4, g5⟩ := h
  refine ⟨g1, g2, g3, fun q hq => ?_, g5⟩
  by_cases e : q = i
  · subst e; rw [pk_us, pk_us]; exact ⟨a, 0, rfl, rfl, h1, h2, by omega⟩
  · rw [pk_un e, pk_un e]; exact g4 q hq
theorem P0.tear {cnt i : Nat} {M St We : Nat → Int32} {F T : Nat → Nat → Int32} (h : P0 cnt M St We F T) (hi : i < cnt) (f : Nat → Int32) : P0 cnt M St We F (va_up T i f) := by
  obtain ⟨g1, g2, g3, g4, g5⟩ := h
  refine ⟨g1, g2, fun q hq j hj => ?_, g4, g5⟩
  rw [va_up_ne _ _ (by omega)]
  exact g3 q hq j hj
theorem P0.mac {cnt : Nat} {M M' St We : Nat → Int32} {F T : Nat → Nat → Int32} (h : P0 cnt M St We F T) (h4 : 0 < M' 4) : P0 cnt M' St We F T := ⟨h4, h.2⟩
