/-! ===== loops of the layer; pure words: what the class and the reference compute ===== -/
section GF
variable {p : Program} {l : Launch} {e : Env} {R : Room} {s : State} {m : MethodId} {args : Array Value} {below : List Frame} {meth : Method} {c : Code} {V : gT} {A : Nat → Prop} {nL : Nat} {Q : State → Prop} {n : Nat} {ad : Nat → Nat} {el : Nat → va_E} {cells slots pc : Nat} {lv : List (Nat × Value)} {st : List Value}
theorem g_down (P : Nat → Prop) (N : Nat) (hx : P N) (hs : ∀ i, i < N → P (i + 1) → P i) : ∀ i, i ≤ N → P i := by
  have key : ∀ k i, i + k = N → P i := by
    intro k
    induction k with
    | zero => intro i h; rw [show i = N by omega]; exact hx
    | succ k ih => intro i h; exact hs i (by omega) (ih (i + 1) (by omega))
  exact fun i h => key (N - i) i (by omega)
theorem g_for (N : Nat) (lvf : Nat → List (Nat × Value)) (hx : GW p l e R s m args below meth c V A nL Q n ad el cells slots pc (lvf N) st) (hs : ∀ i, i < N → GW p l e R s m args below meth c V A nL Q n ad el cells slots pc (lvf (i + 1)) st → GW p l e R s m args below meth c V A nL Q n ad el cells slots pc (lvf i) st) : GW p l e R s m args below meth c V A nL Q n ad el cells slots pc (lvf 0) st :=
  g_down (fun i => GW p l e R s m args below meth c V A nL Q n ad el cells slots pc (lvf i) st) N hx hs 0 (Nat.zero_le _)
/-- a loop that writes: the cells el vary, I holds of them -/
theorem g_forE (N : Nat) (lvf : Nat → List (Nat × Value)) (I : Nat → (Nat → va_E) → Prop) (h0 : I 0 el) (hx : ∀ el1, I N el1 → GW p l e R s m args below meth c V A nL Q n ad el1 cells slots pc (lvf N) st) (hs : ∀ i el1, i < N → I i el1 → (∀ el2, I (i + 1) el2 → GW p l e R s m args below meth c V A nL Q n ad el2 cells slots pc (lvf (i + 1)) st) → GW p l e R s m args below meth c V A nL Q n ad el1 cells slots pc (lvf i) st) : GW p l e R s m args below meth c V A nL Q n ad el cells slots pc (lvf 0) st :=
  g_down (fun i => ∀ el1, I i el1 → GW p l e R s m args below meth c V A nL Q n ad el1 cells slots pc (lvf i) st) N hx (fun i hi ih el1 h1 => hs i el1 hi h1 ih) 0 (Nat.zero_le _) el h0
/-- .. and locals that depend on more than the counter -/
theorem g_forS {σ : Type} (N : Nat) (lvf : Nat → σ → List (Nat × Value)) (elf : σ → Nat → va_E) (I : Nat → σ → Prop) (s0 : σ) (h0 : I 0 s0) (hx : ∀ s1, I N s1 → GW p l e R s m args below meth c V A nL Q n ad (elf s1) cells slots pc (lvf N s1) st) (hs : ∀ i s1, i < N → I i s1 → (∀ s2, I (i + 1) s2 → GW p l e R s m args below meth c V A nL Q n ad (elf s2) cells slots pc (lvf (i + 1) s2) st) → GW p l e R s m args below meth c V A nL Q n ad (elf s1) cells slots pc (lvf i s1) st) : GW p l e R s m args below meth c V A nL Q n ad (elf s0) cells slots pc (lvf 0 s0) st :=
  g_down (fun i => ∀ s1, I i s1 → GW p l e R s m args below meth c V A nL Q n ad (elf s1) cells slots pc (lvf i s1) st) N hx (fun i hi ih s1 h1 => hs i s1 hi h1 ih) 0 (Nat.zero_le _) s0 h0
/-- a cut: several ways come to pcJ -/
theorem g_via {β : Type} (φ : β → Prop) (pcJ : Nat) (lvJ : β → List (Nat × Value)) (stJ : β → List Value) (hJ : ∀ v, φ v → GW p l e R s m args below meth c V A nL Q n ad el cells slots pcJ (lvJ v) (stJ v)) (h : (∀ v, φ v → GW p l e R s m args below meth c V A nL Q n ad el cells slots pcJ (lvJ v) (stJ v)) → GW p l e R s m args below meth c V A nL Q n ad el cells slots pc lv st) : GW p l e R s m args below meth c V A nL Q n ad el cells slots pc lv st := h hJ
theorem g_lveq {lv' : List (Nat × Value)} (h : lv = lv') (kk : GW p l e R s m args below meth c V A nL Q n ad el cells slots pc lv' st) : GW p l e R s m args below meth c V A nL Q n ad el cells slots pc lv st := h ▸ kk
theorem g_steq {st' : List Value} (h : st = st') (kk : GW p l e R s m args below meth c V A nL Q n ad el cells slots pc lv st') : GW p l e R s m args below meth c V A nL Q n ad el cells slots pc lv st := h ▸ kk
/-- a loop that makes cells -/
theorem g_forN (N : Nat) (nf cf sf : Nat → Nat) (lvf : Nat → (Nat → Nat) → List (Nat × Value)) (I : Nat → (Nat → Nat) → (Nat → va_E) → Prop) (h0 : I 0 ad el) (hx : ∀ ad1 el1, I N ad1 el1 → GW p l e R s m args below meth c V A nL Q (nf N) ad1 el1 (cf N) (sf N) pc (lvf N ad1) st) (hs : ∀ i ad1 el1, i < N → I i ad1 el1 → (∀ ad2 el2, I (i + 1) ad2 el2 → GW p l e R s m args below meth c V A nL Q (nf (i + 1)) ad2 el2 (cf (i + 1)) (sf (i + 1)) pc (lvf (i + 1) ad2) st) → GW p l e R s m args below meth c V A nL Q (nf i) ad1 el1 (cf i) (sf i) pc (lvf i ad1) st) : GW p l e R s m args below meth c V A nL Q (nf 0) ad el (cf 0) (sf 0) pc (lvf 0 ad) st :=
  g_down (fun i => ∀ ad1 el1, I i ad1 el1 → GW p l e R s m args below meth c V A nL Q (nf i) ad1 el1 (cf i) (sf i) pc (lvf i ad1) st) N hx (fun i hi ih ad1 el1 h1 => hs i ad1 el1 hi h1 ih) 0 (Nat.zero_le _) ad el h0
end GF
theorem i_lt (a b : Int32) : a < b ↔ a.toInt < b.toInt := Int32.lt_iff_toInt_lt
theorem i_le (a b : Int32) : a ≤ b ↔ a.toInt ≤ b.toInt := Int32.le_iff_toInt_le
theorem i_nle {a b : Int32} (h : b < a) : ¬ a ≤ b := by rw [i_lt] at h; rw [i_le]; omega
theorem i_nlt {a b : Int32} (h : b ≤ a) : ¬ a < b := by rw [i_le] at h; rw [i_lt]; omega
theorem i_ge {a b : Int32} (h : ¬ a < b) : b ≤ a := by rw [i_lt] at h; rw [i_le]; omega
theorem i_gt {a b : Int32} (h : ¬ a ≤ b) : b < a := by rw [i_le] at h; rw [i_lt]; omega
/-- a sum of ints -/
def s_sum (g : Nat → Int32) : Nat → Int32
  | 0 => 0
  | k + 1 => s_sum g k + g k
theorem s_sum_congr {g h : Nat → Int32} {N : Nat} (e : ∀ j, j < N → g j = h j) : s_sum g N = s_sum h N := by
  induction N with
  | zero => rfl
  | succ k ih => rw [s_sum, s_sum, ih (fun j hj => e j (by omega)), e k (by omega)]
theorem s_sum_t {g : Nat → Int32} {k : Nat} {x : Int32} (h : g k = x) : s_sum g (k + 1) = s_sum g k + x := by rw [s_sum, h]
theorem s_sum_f {g : Nat → Int32} {k : Nat} (h : g k = 0) : s_sum g (k + 1) = s_sum g k := by rw [s_sum, h, Int32.add_zero]
-- pins
def s_strike (st we : Int32) : Int32 := if we ≤ st then we + 1 else we
def s_pin (st we what : Int32) : Int32 := if what = 0 then st else if what = 1 then we else if what = 2 then (if we ≤ st then 1 else 0) else (if we ≤ st then st - we + 1 else 0)
-- stamps of a sheet: f their faults, t whether torn off (not 0)
def s_worth (f t : Int32) : Int32 := if t = 0 ∧ f &&& 7 = 0 then (1 + (if f &&& 8 = 0 then 0 else 20)) + (if f &&& 16 = 0 then 0 else 4) else 0
def s_lw (f t x : Int32) : Int32 := if t = 0 ∧ f = x then 1 else 0
def s_pr (f t f1 t1 : Int32) : Int32 := if t = 0 ∧ t1 = 0 ∧ ¬ ((f ^^^ f1) &&& 8 = 0) then 1 else 0
def s_left (t : Nat → Int32) : Int32 := s_sum (fun j => if t j = 0 then 1 else 0) 30
def s_leftWith (f t : Nat → Int32) (x : Int32) : Int32 := s_sum (fun j => s_lw (f j) (t j) x) 30
def s_worths (f t : Nat → Int32) : Int32 := s_sum (fun j => s_worth (f j) (t j)) 30
/-- .. that goes on from a -/
def s_acc (g : Nat → Int32) (a : Int32) : Nat → Int32
  | 0 => a
  | k + 1 => s_acc g a k + g k
def s_prs (f t : Nat → Int32) : Nat → Int32
  | 0 => 0
  | r + 1 => s_acc (fun c => s_pr (f (6 * r + c)) (t (6 * r + c)) (f (6 * r + c + 1)) (t (6 * r + c + 1))) (s_prs f t r) 5
def s_pairs (f t : Nat → Int32) : Int32 := s_prs f t 5
def s_off (f : Nat → Int32) : Int32 := s_sum (fun r => if f (6 * r) &&& 1 = 0 then 0 else 1) 5
/-- the columns of a row that are good, as bits -/
def s_good (f t : Nat → Int32) (r : Nat) : Nat → Int32
  | 0 => 0
  | c + 1 => if t (6 * r + c) = 0 ∧ f (6 * r + c) = 0 then s_good f t r c ||| ((1 : Int32) <<< (nI c &&& 31)) else s_good f t r c
def s_max (x y : Int32) : Int32 := if x < y then y else x
def s_min (x y : Int32) : Int32 := if y < x then y else x
/-- the run of set bits that ends ahead of bit c; the longest so far -/
def s_run (b : Int32) : Nat → Int32
  | 0 => 0
  | c + 1 => if b &&& ((1 : Int32) <<< (nI c &&& 31)) = 0 then 0 else s_run b c + 1
def s_longest (b : Int32) : Nat → Int32
  | 0 => 0
  | c + 1 => s_max (s_longest b c) (s_run b (c + 1))
/-- from the row top down k rows: the columns that are good in all of them -/
def s_cols (f t : Nat → Int32) (top : Nat) : Nat → Int32
  | 0 => s_good f t top 6
  | k + 1 => s_cols f t top k &&& s_good f t (top + k) 6
def s_down (f t : Nat → Int32) (top : Nat) (g0 : Int32) : Nat → Int32
  | 0 => g0
  | k + 1 => s_max (s_down f t top g0 k) ((nI (k + 1)) * s_longest (s_cols f t top (k + 1)) 6)
def s_blk (f t : Nat → Int32) : Nat → Int32
  | 0 => 0
  | k + 1 => s_down f t k (s_blk f t k) (5 - k)
def s_block (f t : Nat → Int32) : Int32 := s_blk f t 5
def s_sheet (f t : Nat → Int32) (what : Int32) : Int32 := if what = 0 then s_left t else if what = 1 then s_leftWith f t 0 else if what = 2 then s_worths f t else if what = 3 then s_pairs f t else if what = 4 then s_off f else s_block f t
/-- digests: d * 31 + x, x = g 0 .. g (N - 1) -/
def s_dig (g : Nat → Int32) (d : Int64) : Nat → Int64
  | 0 => d
  | k + 1 => s_dig g d k * 31 + (g k).toInt64
/-- .. two numbers a step -/
def s_dig2 (g h : Nat → Int32) (d : Int64) : Nat → Int64
  | 0 => d
  | k + 1 => (s_dig2 g h d k * 31 + (g k).toInt64) * 31 + (h k).toInt64
def s_digS (f t : Nat → Int32) (d : Int64) : Int64 := s_dig2 f (fun j => s_worth (f j) (t j)) (s_dig (fun w => s_sheet f t (nI w)) d 6) 30
theorem s_acc_t {g : Nat → Int32} {a : Int32} {k : Nat} {x : Int32} (h : g k = x) : s_acc g a (k + 1) = s_acc g a k + x := by rw [s_acc, h]
theorem s_acc_f {g : Nat → Int32} {a : Int32} {k : Nat} (h : g k = 0) : s_acc g a (k + 1) = s_acc g a k := by rw [s_acc, h, Int32.add_zero]
theorem s_lw_1 {f t x : Int32} (h : ¬ s_lw f t x = 0) : t = 0 ∧ f = x := by
  by_cases q : t = 0 ∧ f = x
  · exact q
  · rw [s_lw, if_neg q] at h; exact absurd rfl h
theorem s_lw_0 {f t x : Int32} (h : s_lw f t x = 0) : ¬ (t = 0 ∧ f = x) := by
  intro q
  rw [s_lw, if_pos q] at h
  exact absurd h (by decide)
theorem s_lw_t {f t x : Int32} (h : ¬ s_lw f t x = 0) : s_lw f t x = 1 := by rw [s_lw, if_pos (s_lw_1 h)]
theorem s_pr_t {f t f1 t1 : Int32} (h : ¬ s_pr f t f1 t1 = 0) : s_pr f t f1 t1 = 1 := by
  by_cases q : t = 0 ∧ t1 = 0 ∧ ¬ ((f ^^^ f1) &&& 8 = 0)
  · rw [s_pr, if_pos q]
  · rw [s_pr, if_neg q] at h; exact absurd rfl h
