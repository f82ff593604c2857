/-! ===== the reference: what it tells ===== -/
set_option maxHeartbeats 4000000 in
set_option maxRecDepth 100000 in
theorem c_X5_block (l : Launch) (V : gT) {n : Nat} {ad : Nat → Nat} {el : Nat → va_E} {thr : Int32} {cnt : Nat} {M St We pl sh : Nat → Int32} {F T : Nat → Nat → Int32} (hn : 92 ≤ n) (hc : cnt ≤ 20) (h : X5At V ad el thr cnt M St We pl sh F T) (hF : ∀ q, q < cnt → ∀ k, k < 30 → F32 (F q k)) (i : Nat) (hi : i < cnt) : TT l V yX5_block wsX5_block { frames := 1, cells := 0, slots := 0, locals := 27 } n ad el [.ref (ad 85), .int (nI (30 * i))] (QIr V n ad el (fun r => r = s_block (F i) (T i))) 0 0 := by
  refine TT.body (cc := cX5_block) (maxL := 7) (ret := (some .int)) (by decide) rfl (Nat.le_of_ble_eq_true rfl) ?_
  intro p e s m below meth c C hnm
  refine g_lv [0, 1] (lv' := [(0, .ref (ad 85)), (1, .int (nI (30 * i)))]) rfl ?_
  obtain ⟨m1, ⟨g16, m2, r9⟩, ⟨g17, m3, r10⟩, ⟨g18, m4, r11⟩, ⟨g19, m5, r12⟩, ⟨g20, m6, r13⟩, ⟨g21, m7, r14⟩⟩ := id h
  refine g_iconst C (v := nI 0) dX5_block_0 (by decide) ?_
  refine g_istore_n C (lv' := [(2, .int (nI 0)), (0, .ref (ad 85)), (1, .int (nI (30 * i)))]) dX5_block_1 (by decide) rfl ?_
  refine g_iconst C (v := nI 0) dX5_block_2 (by decide) ?_
  refine g_istore_n C (lv' := [(3, .int (nI 0)), (2, .int (nI 0)), (0, .ref (ad 85)), (1, .int (nI (30 * i)))]) dX5_block_3 (by decide) rfl ?_
  refine g_lv [0, 1, 2, 3] (lv' := [(3, .int (nI 0)), (2, .int (nI 0)), (0, .ref (ad 85)), (1, .int (nI (30 * i)))]) rfl ?_
  refine g_for 5 (fun (a : Nat) => [(3, .int (nI a)), (2, .int (s_blk (F i) (T i) a)), (0, .ref (ad 85)), (1, .int (nI (30 * i)))]) ?_ (fun a ha iha => ?_)
  · -- loop 4: its end
    refine g_iload_n C 0 rfl dX5_block_4 ?_
    refine g_iconst C (v := nI 5) dX5_block_5 (by decide) ?_
    refine g_icmp_ge C (tgt := 97) dX5_block_6 (by decide) (fun c6 => ?_) (fun c6 => ?_)
    · -- 97
      have c6 : 5 ≤ 5 := (nI_leI (by omega) (by omega)).mp c6
      refine g_iload_n C 1 rfl dX5_block_97 ?_
      exact g_iret C rfl dX5_block_98 () rfl rfl rfl rfl (Nat.le_of_ble_eq_true rfl) (Nat.le_of_ble_eq_true rfl)
    · -- 9
      have c6 : 5 < 5 := Nat.lt_of_not_le (fun z => c6 ((nI_leI (by omega) (by omega)).mpr z))
      exact absurd c6 (by omega)
  · -- loop 4: its body
    refine g_iload_n C 0 rfl dX5_block_4 ?_
    refine g_iconst C (v := nI 5) dX5_block_5 (by decide) ?_
    refine g_icmp_ge C (tgt := 97) dX5_block_6 (by decide) (fun c6 => ?_) (fun c6 => ?_)
    · -- 97
      have c6 : 5 ≤ a := (nI_leI (by omega) (by omega)).mp c6
      exact absurd c6 (by omega)
    · -- 9
      have c6 : a < 5 := Nat.lt_of_not_le (fun z => c6 ((nI_leI (by omega) (by omega)).mpr z))
      refine g_iload_n C 0 rfl dX5_block_9 ?_
      refine g_istore C (lv' := [(4, .int (nI a)), (3, .int (nI a)), (2, .int (s_blk (F i) (T i) a)), (0, .ref (ad 85)), (1, .int (nI (30 * i)))]) dX5_block_10 (by decide) rfl ?_
      refine g_lv [0, 1, 2, 3, 4] (lv' := [(4, .int (nI a)), (3, .int (nI a)), (2, .int (s_blk (F i) (T i) a)), (0, .ref (ad 85)), (1, .int (nI (30 * i)))]) rfl ?_
      refine g_for (5 - a) (fun (k : Nat) => [(4, .int (nI (a + k))), (3, .int (nI a)), (2, .int (s_down (F i) (T i) a (s_blk (F i) (T i) a) k)), (0, .ref (ad 85)), (1, .int (nI (30 * i)))]) ?_ (fun k hk ihk => ?_)
      · -- loop 12: its end
        refine g_iload C 0 rfl dX5_block_12 ?_
        refine g_iconst C (v := nI 5) dX5_block_14 (by decide) ?_
        refine g_icmp_ge C (tgt := 91) dX5_block_15 (by decide) (fun c15 => ?_) (fun c15 => ?_)
        · -- 91
          have c15 : 5 ≤ (a + (5 - a)) := (nI_leI (by omega) (by omega)).mp c15
          refine g_iinc C 1 rfl (v := nI (a + 1)) (lv' := [(3, .int (nI (a + 1))), (4, .int (nI (a + (5 - a)))), (2, .int (s_down (F i) (T i) a (s_blk (F i) (T i) a) (5 - a))), (0, .ref (ad 85)), (1, .int (nI (30 * i)))]) dX5_block_91 (nI_add _ _) (by decide) rfl ?_
          refine g_goto C (tgt := 4) dX5_block_94 (by decide) ?_
          refine g_lv [0, 2, 3, 4] (lv' := [(3, .int (nI (a + 1))), (2, .int (s_down (F i) (T i) a (s_blk (F i) (T i) a) (5 - a))), (0, .ref (ad 85)), (1, .int (nI (30 * i)))]) rfl ?_
          exact iha
        · -- 18
          have c15 : (a + (5 - a)) < 5 := Nat.lt_of_not_le (fun z => c15 ((nI_leI (by omega) (by omega)).mpr z))
          exact absurd c15 (by omega)
      · -- loop 12: its body
        refine g_iload C 0 rfl dX5_block_12 ?_
        refine g_iconst C (v := nI 5) dX5_block_14 (by decide) ?_
        refine g_icmp_ge C (tgt := 91) dX5_block_15 (by decide) (fun c15 => ?_) (fun c15 => ?_)
        · -- 91
          have c15 : 5 ≤ (a + k) := (nI_leI (by omega) (by omega)).mp c15
          exact absurd c15 (by omega)
        · -- 18
          have c15 : (a + k) < 5 := Nat.lt_of_not_le (fun z => c15 ((nI_leI (by omega) (by omega)).mpr z))
          obtain ⟨w, hw, e7, hb7⟩ := s_cols_w (F i) (T i) a (k + 1)
          refine g_iconst C (v := nI 0) dX5_block_18 (by decide) ?_
          refine g_istore C (lv' := [(5, .int (nI 0)), (4, .int (nI (a + k))), (3, .int (nI a)), (2, .int (s_down (F i) (T i) a (s_blk (F i) (T i) a) k)), (0, .ref (ad 85)), (1, .int (nI (30 * i)))]) dX5_block_19 (by decide) rfl ?_
          refine g_lv [0, 1, 2, 3, 4, 5] (lv' := [(5, .int (nI 0)), (4, .int (nI (a + k))), (3, .int (nI a)), (2, .int (s_down (F i) (T i) a (s_blk (F i) (T i) a) k)), (0, .ref (ad 85)), (1, .int (nI (30 * i)))]) rfl ?_
          refine g_for 6 (fun (j : Nat) => [(5, .int (nI j)), (4, .int (nI (a + k))), (3, .int (nI a)), (2, .int (s_bf (k + 1) (msk w) (s_down (F i) (T i) a (s_blk (F i) (T i) a) k) j)), (0, .ref (ad 85)), (1, .int (nI (30 * i)))]) ?_ (fun j hj ihj => ?_)
          · -- loop 21: its end
            refine g_iload C 0 rfl dX5_block_21 ?_
            refine g_bipush C (v := nI 6) dX5_block_23 (by decide) ?_
            refine g_icmp_ge C (tgt := 85) dX5_block_25 (by decide) (fun c25 => ?_) (fun c25 => ?_)
            · -- 85
              have c25 : 6 ≤ 6 := (nI_leI (by omega) (by omega)).mp c25
              refine g_iinc C 1 rfl (v := nI (a + k + 1)) (lv' := [(4, .int (nI (a + k + 1))), (5, .int (nI 6)), (3, .int (nI a)), (2, .int (s_bf (k + 1) (msk w) (s_down (F i) (T i) a (s_blk (F i) (T i) a) k) 6)), (0, .ref (ad 85)), (1, .int (nI (30 * i)))]) dX5_block_85 (nI_add _ _) (by decide) rfl ?_
              refine g_goto C (tgt := 12) dX5_block_88 (by decide) ?_
              refine g_lv [0, 2, 3, 4, 5] (lv' := [(4, .int (nI (a + k + 1))), (3, .int (nI a)), (2, .int (s_bf (k + 1) (msk w) (s_down (F i) (T i) a (s_blk (F i) (T i) a) k) 6)), (0, .ref (ad 85)), (1, .int (nI (30 * i)))]) rfl ?_
              refine g_lveq (lv' := [(4, .int (nI (a + (k + 1)))), (3, .int (nI a)), (2, .int (s_down (F i) (T i) a (s_blk (F i) (T i) a) (k + 1))), (0, .ref (ad 85)), (1, .int (nI (30 * i)))]) (by rw [s_down, e7, ← s_bf_w hw (by omega) (s_down_ge _ _ _ (s_blk_ge _ _ a) k)] <;> rfl) ?_
              exact ihk
            · -- 28
              have c25 : 6 < 6 := Nat.lt_of_not_le (fun z => c25 ((nI_leI (by omega) (by omega)).mpr z))
              exact absurd c25 (by omega)
          · -- loop 21: its body
            refine g_iload C 0 rfl dX5_block_21 ?_
            refine g_bipush C (v := nI 6) dX5_block_23 (by decide) ?_
            refine g_icmp_ge C (tgt := 85) dX5_block_25 (by decide) (fun c25 => ?_) (fun c25 => ?_)
            · -- 85
              have c25 : 6 ≤ j := (nI_leI (by omega) (by omega)).mp c25
              exact absurd c25 (by omega)
            · -- 28
              have c25 : j < 6 := Nat.lt_of_not_le (fun z => c25 ((nI_leI (by omega) (by omega)).mpr z))
              refine g_iload C 0 rfl dX5_block_28 ?_
              refine g_istore C (lv' := [(6, .int (nI j)), (5, .int (nI j)), (4, .int (nI (a + k))), (3, .int (nI a)), (2, .int (s_bf (k + 1) (msk w) (s_down (F i) (T i) a (s_blk (F i) (T i) a) k) j)), (0, .ref (ad 85)), (1, .int (nI (30 * i)))]) dX5_block_30 (by decide) rfl ?_
              refine g_lv [0, 1, 2, 3, 4, 5, 6] (lv' := [(6, .int (nI j)), (5, .int (nI j)), (4, .int (nI (a + k))), (3, .int (nI a)), (2, .int (s_bf (k + 1) (msk w) (s_down (F i) (T i) a (s_blk (F i) (T i) a) k) j)), (0, .ref (ad 85)), (1, .int (nI (30 * i)))]) rfl ?_
              refine g_for (6 - j) (fun (q : Nat) => [(6, .int (nI (j + q))), (5, .int (nI j)), (4, .int (nI (a + k))), (3, .int (nI a)), (2, .int (s_bq (k + 1) (msk w j) (s_bf (k + 1) (msk w) (s_down (F i) (T i) a (s_blk (F i) (T i) a) k) j) q)), (0, .ref (ad 85)), (1, .int (nI (30 * i)))]) ?_ (fun q hq ihq => ?_)
              · -- loop 32: its end
                refine g_iload C 0 rfl dX5_block_32 ?_
                refine g_bipush C (v := nI 6) dX5_block_34 (by decide) ?_
                refine g_icmp_ge C (tgt := 79) dX5_block_36 (by decide) (fun c36 => ?_) (fun c36 => ?_)
                · -- 79
                  have c36 : 6 ≤ (j + (6 - j)) := (nI_leI (by omega) (by omega)).mp c36
                  refine g_iinc C 1 rfl (v := nI (j + 1)) (lv' := [(5, .int (nI (j + 1))), (6, .int (nI (j + (6 - j)))), (4, .int (nI (a + k))), (3, .int (nI a)), (2, .int (s_bq (k + 1) (msk w j) (s_bf (k + 1) (msk w) (s_down (F i) (T i) a (s_blk (F i) (T i) a) k) j) (6 - j))), (0, .ref (ad 85)), (1, .int (nI (30 * i)))]) dX5_block_79 (nI_add _ _) (by decide) rfl ?_
                  refine g_goto C (tgt := 21) dX5_block_82 (by decide) ?_
                  refine g_lv [0, 2, 3, 4, 5, 6] (lv' := [(5, .int (nI (j + 1))), (4, .int (nI (a + k))), (3, .int (nI a)), (2, .int (s_bq (k + 1) (msk w j) (s_bf (k + 1) (msk w) (s_down (F i) (T i) a (s_blk (F i) (T i) a) k) j) (6 - j))), (0, .ref (ad 85)), (1, .int (nI (30 * i)))]) rfl ?_
                  exact ihj
                · -- 39
                  have c36 : (j + (6 - j)) < 6 := Nat.lt_of_not_le (fun z => c36 ((nI_leI (by omega) (by omega)).mpr z))
                  exact absurd c36 (by omega)
              · -- loop 32: its body
                refine g_iload C 0 rfl dX5_block_32 ?_
                refine g_bipush C (v := nI 6) dX5_block_34 (by decide) ?_
                refine g_icmp_ge C (tgt := 79) dX5_block_36 (by decide) (fun c36 => ?_) (fun c36 => ?_)
                · -- 79
                  have c36 : 6 ≤ (j + q) := (nI_leI (by omega) (by omega)).mp c36
                  exact absurd c36 (by omega)
                · -- 39
                  have c36 : (j + q) < 6 := Nat.lt_of_not_le (fun z => c36 ((nI_leI (by omega) (by omega)).mpr z))
                  refine g_aload_n C 5 rfl dX5_block_39 ?_
                  refine g_iload_n C 6 rfl dX5_block_40 ?_
                  refine g_iload_n C 3 rfl dX5_block_41 ?_
                  refine g_iload C 2 rfl dX5_block_42 ?_
                  refine g_iload C 1 rfl dX5_block_44 ?_
                  refine g_iload C 0 rfl dX5_block_46 ?_
                  refine g_calli C (r_V C (st := []) (c_X5_isClean l V (by omega) (by omega) ⟨m1, ⟨_, m2, r9⟩, ⟨_, m3, r10⟩, ⟨_, m4, r11⟩, ⟨_, m5, r12⟩, ⟨_, m6, r13⟩, ⟨_, m7, r14⟩⟩ hF i hi a (a + k) j (j + q) (by omega) (by omega) (by omega) (by omega)) (cwV 5 C.ts gX5_block_X5_isClean rfl rfl rfl (by decide +kernel) ⟨(Nat.le_of_ble_eq_true rfl), (Nat.le_of_ble_eq_true rfl)⟩) (by omega) m1 rfl rfl rfl (Nat.le_of_ble_eq_true rfl) dX5_block_48 ⟨(Nat.le_of_ble_eq_true rfl), (Nat.le_of_ble_eq_true rfl)⟩) (fun v u hu => ?_)
                  refine g_if_eq C (tgt := 73) dX5_block_51 (by decide) (fun c51 => ?_) (fun c51 => ?_)
                  · -- 73
                    have hm : ¬ msk w j q = true := fun z => by
                      rcases hu with ⟨e, _⟩ | ⟨_, e⟩
                      · rw [e] at c51; exact absurd c51 (by decide)
                      · exact e ((msk_cl hb7 (by omega)).mpr z)
                    refine g_iinc C 0 rfl (v := nI (j + q + 1)) (lv' := [(6, .int (nI (j + q + 1))), (5, .int (nI j)), (4, .int (nI (a + k))), (3, .int (nI a)), (2, .int (s_bq (k + 1) (msk w j) (s_bf (k + 1) (msk w) (s_down (F i) (T i) a (s_blk (F i) (T i) a) k) j) q)), (0, .ref (ad 85)), (1, .int (nI (30 * i)))]) dX5_block_73 (nI_add _ _) (by decide) rfl ?_
                    refine g_goto C (tgt := 32) dX5_block_76 (by decide) ?_
                    refine g_lv [0, 1, 2, 3, 4, 5, 6] (lv' := [(6, .int (nI (j + q + 1))), (5, .int (nI j)), (4, .int (nI (a + k))), (3, .int (nI a)), (2, .int (s_bq (k + 1) (msk w j) (s_bf (k + 1) (msk w) (s_down (F i) (T i) a (s_blk (F i) (T i) a) k) j) q)), (0, .ref (ad 85)), (1, .int (nI (30 * i)))]) rfl ?_
                    have e9 : s_bq (k + 1) (msk w j) (s_bf (k + 1) (msk w) (s_down (F i) (T i) a (s_blk (F i) (T i) a) k) j) (q + 1) = s_bq (k + 1) (msk w j) (s_bf (k + 1) (msk w) (s_down (F i) (T i) a (s_blk (F i) (T i) a) k) j) q := if_neg hm
                    refine g_lveq (lv' := [(6, .int (nI (j + (q + 1)))), (5, .int (nI j)), (4, .int (nI (a + k))), (3, .int (nI a)), (2, .int (s_bq (k + 1) (msk w j) (s_bf (k + 1) (msk w) (s_down (F i) (T i) a (s_blk (F i) (T i) a) k) j) (q + 1))), (0, .ref (ad 85)), (1, .int (nI (30 * i)))]) (by rw [e9] <;> rfl) ?_
                    exact ihq
                  · -- 54
                    have hm : msk w j q = true := by
                      rcases hu with ⟨_, e⟩ | ⟨e, _⟩
                      · exact (msk_cl hb7 (by omega)).mp e
                      · exact absurd e c51
                    refine g_iload_n C 4 rfl dX5_block_54 ?_
                    refine g_iload C 2 rfl dX5_block_55 ?_
                    refine g_iload_n C 3 rfl dX5_block_57 ?_
                    refine g_isub C (v := nI k) dX5_block_58 (by rw [pk_sub (by omega)]; exact congrArg nI (by omega)) ?_
                    refine g_iconst C (v := nI 1) dX5_block_59 (by decide) ?_
                    refine g_iadd C (v := nI (k + 1)) dX5_block_60 (nI_add _ _) ?_
                    refine g_iload C 0 rfl dX5_block_61 ?_
                    refine g_iload C 1 rfl dX5_block_63 ?_
                    refine g_isub C (v := nI q) dX5_block_65 (by rw [pk_sub (by omega)]; exact congrArg nI (by omega)) ?_
                    refine g_iconst C (v := nI 1) dX5_block_66 (by decide) ?_
                    refine g_iadd C (v := nI (q + 1)) dX5_block_67 (nI_add _ _) ?_
                    refine g_imul C (v := nI ((k + 1) * (q + 1))) dX5_block_68 (pk_mul _ _) ?_
                    refine g_mmax C (v := s_max (s_bq (k + 1) (msk w j) (s_bf (k + 1) (msk w) (s_down (F i) (T i) a (s_blk (F i) (T i) a) k) j) q) (nI ((k + 1) * (q + 1)))) rfl (List.mem_of_getElem? (i := 1) rfl) (List.mem_of_getElem? (i := 2) rfl) (List.mem_of_getElem? (i := 3) rfl) (List.mem_of_getElem? (i := 4) rfl) (Nat.le_of_ble_eq_true rfl) (Nat.le_of_ble_eq_true rfl) (Nat.le_of_ble_eq_true rfl) (Nat.le_of_ble_eq_true rfl) dX5_block_69 ?_
                    refine g_istore_n C (lv' := [(2, .int (s_max (s_bq (k + 1) (msk w j) (s_bf (k + 1) (msk w) (s_down (F i) (T i) a (s_blk (F i) (T i) a) k) j) q) (nI ((k + 1) * (q + 1))))), (6, .int (nI (j + q))), (5, .int (nI j)), (4, .int (nI (a + k))), (3, .int (nI a)), (0, .ref (ad 85)), (1, .int (nI (30 * i)))]) dX5_block_72 (by decide) rfl ?_
                    refine g_iinc C 1 rfl (v := nI (j + q + 1)) (lv' := [(6, .int (nI (j + q + 1))), (2, .int (s_max (s_bq (k + 1) (msk w j) (s_bf (k + 1) (msk w) (s_down (F i) (T i) a (s_blk (F i) (T i) a) k) j) q) (nI ((k + 1) * (q + 1))))), (5, .int (nI j)), (4, .int (nI (a + k))), (3, .int (nI a)), (0, .ref (ad 85)), (1, .int (nI (30 * i)))]) dX5_block_73 (nI_add _ _) (by decide) rfl ?_
                    refine g_goto C (tgt := 32) dX5_block_76 (by decide) ?_
                    refine g_lv [0, 2, 3, 4, 1, 5, 6] (lv' := [(6, .int (nI (j + q + 1))), (5, .int (nI j)), (4, .int (nI (a + k))), (3, .int (nI a)), (2, .int (s_max (s_bq (k + 1) (msk w j) (s_bf (k + 1) (msk w) (s_down (F i) (T i) a (s_blk (F i) (T i) a) k) j) q) (nI ((k + 1) * (q + 1))))), (0, .ref (ad 85)), (1, .int (nI (30 * i)))]) rfl ?_
                    have e9 : s_bq (k + 1) (msk w j) (s_bf (k + 1) (msk w) (s_down (F i) (T i) a (s_blk (F i) (T i) a) k) j) (q + 1) = s_max (s_bq (k + 1) (msk w j) (s_bf (k + 1) (msk w) (s_down (F i) (T i) a (s_blk (F i) (T i) a) k) j) q) (nI ((k + 1) * (q + 1))) := if_pos hm
                    refine g_lveq (lv' := [(6, .int (nI (j + (q + 1)))), (5, .int (nI j)), (4, .int (nI (a + k))), (3, .int (nI a)), (2, .int (s_bq (k + 1) (msk w j) (s_bf (k + 1) (msk w) (s_down (F i) (T i) a (s_blk (F i) (T i) a) k) j) (q + 1))), (0, .ref (ad 85)), (1, .int (nI (30 * i)))]) (by rw [e9] <;> rfl) ?_
                    exact ihq

set_option maxHeartbeats 4000000 in
set_option maxRecDepth 100000 in
theorem c_X5_sheetTold (l : Launch) (V : gT) {n : Nat} {ad : Nat → Nat} {el : Nat → va_E} {thr : Int32} {cnt : Nat} {M St We pl sh : Nat → Int32} {F T : Nat → Nat → Int32} (hn : 92 ≤ n) (hc : cnt ≤ 20) (h : X5At V ad el thr cnt M St We pl sh F T) (hF : ∀ q, q < cnt → ∀ k, k < 30 → F32 (F q k)) (i : Nat) (hi : i < cnt) (w : Nat) (hw : w ≤ 5) : TT l V yX5_sheetTold wsX5_sheetTold { frames := 2, cells := 0, slots := 0, locals := 53 } n ad el [.ref (ad 85), .int (nI i), .int (nI w)] (QIr V n ad el (fun r => r = s_sheet (F i) (T i) (nI w))) 0 0 := by
  refine TT.body (cc := cX5_sheetTold) (maxL := 7) (ret := (some .int)) (by decide) rfl (Nat.le_of_ble_eq_true rfl) ?_
  intro p e s m below meth c C hnm
  refine g_lv [0, 1, 2] (lv' := [(0, .ref (ad 85)), (1, .int (nI i)), (2, .int (nI w))]) rfl ?_
  obtain ⟨m1, ⟨g16, m2, r9⟩, ⟨g17, m3, r10⟩, ⟨g18, m4, r11⟩, ⟨g19, m5, r12⟩, ⟨g20, m6, r13⟩, ⟨g21, m7, r14⟩⟩ := id h
  refine g_bipush C (v := nI 30) dX5_sheetTold_0 (by decide) ?_
  refine g_iload_n C 1 rfl dX5_sheetTold_2 ?_
  refine g_imul C (v := nI (30 * i)) dX5_sheetTold_3 (pk_mul _ _) ?_
  refine g_istore_n C (lv' := [(3, .int (nI (30 * i))), (0, .ref (ad 85)), (1, .int (nI i)), (2, .int (nI w))]) dX5_sheetTold_4 (by decide) rfl ?_
  refine g_iconst C (v := nI 0) dX5_sheetTold_5 (by decide) ?_
  refine g_istore C (lv' := [(4, .int (nI 0)), (3, .int (nI (30 * i))), (0, .ref (ad 85)), (1, .int (nI i)), (2, .int (nI w))]) dX5_sheetTold_6 (by decide) rfl ?_
  refine g_iload_n C 4 rfl dX5_sheetTold_8 ?_
  refine g_iconst C (v := nI 3) dX5_sheetTold_9 (by decide) ?_
  refine g_icmp_ne C (tgt := 19) dX5_sheetTold_10 (by decide) (fun c10 => ?_) (fun c10 => ?_)
  · -- 19
    refine g_iload_n C 4 rfl dX5_sheetTold_19 ?_
    refine g_iconst C (v := nI 5) dX5_sheetTold_20 (by decide) ?_
    refine g_icmp_ne C (tgt := 30) dX5_sheetTold_21 (by decide) (fun c21 => ?_) (fun c21 => ?_)
    · -- 30
      refine g_iconst C (v := nI 0) dX5_sheetTold_30 (by decide) ?_
      refine g_istore C (lv' := [(5, .int (nI 0)), (4, .int (nI 0)), (3, .int (nI (30 * i))), (0, .ref (ad 85)), (1, .int (nI i)), (2, .int (nI w))]) dX5_sheetTold_31 (by decide) rfl ?_
      refine g_lv [0, 1, 3, 4, 5, 2] (lv' := [(5, .int (nI 0)), (4, .int (nI 0)), (0, .ref (ad 85)), (1, .int (nI i)), (2, .int (nI w)), (3, .int (nI (30 * i)))]) rfl ?_
      refine g_for 30 (fun (k : Nat) => [(5, .int (nI k)), (4, .int (s_sum (s_gw (F i) (T i) (nI w)) k)), (0, .ref (ad 85)), (1, .int (nI i)), (2, .int (nI w)), (3, .int (nI (30 * i)))]) ?_ (fun k hk ihk => ?_)
      · -- loop 33: its end
        refine g_iload C 0 rfl dX5_sheetTold_33 ?_
        refine g_bipush C (v := nI 30) dX5_sheetTold_35 (by decide) ?_
        refine g_icmp_ge C (tgt := 135) dX5_sheetTold_37 (by decide) (fun c37 => ?_) (fun c37 => ?_)
        · -- 135
          have c37 : 30 ≤ 30 := (nI_leI (by omega) (by omega)).mp c37
          refine g_iload C 1 rfl dX5_sheetTold_135 ?_
          exact g_iret C rfl dX5_sheetTold_137 () rfl rfl rfl (s_gw_sum _ _ hw c10 c21) (Nat.le_of_ble_eq_true rfl) (Nat.le_of_ble_eq_true rfl)
        · -- 40
          have c37 : 30 < 30 := Nat.lt_of_not_le (fun z => c37 ((nI_leI (by omega) (by omega)).mpr z))
          exact absurd c37 (by omega)
      · -- loop 33: its body
        refine g_iload C 0 rfl dX5_sheetTold_33 ?_
        refine g_bipush C (v := nI 30) dX5_sheetTold_35 (by decide) ?_
        refine g_icmp_ge C (tgt := 135) dX5_sheetTold_37 (by decide) (fun c37 => ?_) (fun c37 => ?_)
        · -- 135
          have c37 : 30 ≤ k := (nI_leI (by omega) (by omega)).mp c37
          exact absurd c37 (by omega)
        · -- 40
          have c37 : k < 30 := Nat.lt_of_not_le (fun z => c37 ((nI_leI (by omega) (by omega)).mpr z))
          refine g_aload_n C 2 rfl dX5_sheetTold_40 ?_
          refine g_getf C 85 (by omega) m1 rfl 2 (by decide) (fun w h => (List.mem_cons_of_mem _ (List.mem_append_right _ h))) (List.mem_of_getElem? (i := 1) rfl) rfl rfl dX5_sheetTold_41 ?_
          refine g_iload_n C 5 rfl dX5_sheetTold_44 ?_
          refine g_iload C 0 rfl dX5_sheetTold_45 ?_
          refine g_iadd C (v := nI ((30 * i) + k)) dX5_sheetTold_47 (nI_add _ _) ?_
          refine g_iald C 86 (by omega) m2 (30 * i + k) (congrArg nI (by omega)) (by omega) (by decide) dX5_sheetTold_48 ?_
          refine g_top (r9 i (by omega) k (by omega)) ?_
          refine g_istore C (lv' := [(6, .int (enc (F i k) (T i k))), (5, .int (nI k)), (4, .int (s_sum (s_gw (F i) (T i) (nI w)) k)), (0, .ref (ad 85)), (1, .int (nI i)), (2, .int (nI w)), (3, .int (nI (30 * i)))]) dX5_sheetTold_49 (by decide) rfl ?_
          refine g_iload_n C 5 rfl dX5_sheetTold_51 ?_
          refine g_if_ne C (tgt := 72) dX5_sheetTold_52 (by decide) (fun c52 => ?_) (fun c52 => ?_)
          · -- 72
            refine g_iload_n C 5 rfl dX5_sheetTold_72 ?_
            refine g_iconst C (v := nI 1) dX5_sheetTold_73 (by decide) ?_
            refine g_icmp_ne C (tgt := 92) dX5_sheetTold_74 (by decide) (fun c74 => ?_) (fun c74 => ?_)
            · -- 92
              have c74 : ¬ nI w = 1 := c74
              refine g_iload_n C 5 rfl dX5_sheetTold_92 ?_
              refine g_iconst C (v := nI 2) dX5_sheetTold_93 (by decide) ?_
              refine g_icmp_ne C (tgt := 107) dX5_sheetTold_94 (by decide) (fun c94 => ?_) (fun c94 => ?_)
              · -- 107
                have c94 : ¬ nI w = 2 := c94
                refine g_iload_n C 5 rfl dX5_sheetTold_107 ?_
                refine g_iconst C (v := nI 4) dX5_sheetTold_108 (by decide) ?_
                refine g_icmp_ne C (tgt := 129) dX5_sheetTold_109 (by decide) (fun c109 => ?_) (fun c109 => ?_)
                · -- 129
                  have c109 : ¬ nI w = 4 := c109
                  refine g_iinc C 1 rfl (v := nI (k + 1)) (lv' := [(5, .int (nI (k + 1))), (6, .int (enc (F i k) (T i k))), (4, .int (s_sum (s_gw (F i) (T i) (nI w)) k)), (0, .ref (ad 85)), (1, .int (nI i)), (2, .int (nI w)), (3, .int (nI (30 * i)))]) dX5_sheetTold_129 (nI_add _ _) (by decide) rfl ?_
                  refine g_goto C (tgt := 33) dX5_sheetTold_132 (by decide) ?_
                  refine g_lv [0, 2, 3, 4, 5, 6] (lv' := [(5, .int (nI (k + 1))), (4, .int (s_sum (s_gw (F i) (T i) (nI w)) k)), (0, .ref (ad 85)), (1, .int (nI i)), (2, .int (nI w)), (3, .int (nI (30 * i)))]) rfl ?_
                  have e9 : s_sum (s_gw (F i) (T i) (nI w)) (k + 1) = s_sum (s_gw (F i) (T i) (nI w)) k := s_sum_f (by rw [s_gw, if_neg c52, if_neg c74, if_neg c94, if_neg (fun z => c109 z.1)])
                  refine g_lveq (lv' := [(5, .int (nI (k + 1))), (4, .int (s_sum (s_gw (F i) (T i) (nI w)) (k + 1))), (0, .ref (ad 85)), (1, .int (nI i)), (2, .int (nI w)), (3, .int (nI (30 * i)))]) (by rw [e9] <;> rfl) ?_
                  exact ihk
                · -- 112
                  have c109 : nI w = 4 := c109
                  refine g_iload C 1 rfl dX5_sheetTold_112 ?_
                  refine g_bipush C (v := nI 6) dX5_sheetTold_114 (by decide) ?_
                  refine g_irem C (v := nI (k % 6)) dX5_sheetTold_116 (by decide) (pk_rem (by omega) (by omega) (by omega)) ?_
                  refine g_if_ne C (tgt := 129) dX5_sheetTold_117 (by decide) (fun c117 => ?_) (fun c117 => ?_)
                  · -- 129
                    have c117 : ¬ k % 6 = 0 := fun z => c117 (congrArg nI z)
                    refine g_iinc C 1 rfl (v := nI (k + 1)) (lv' := [(5, .int (nI (k + 1))), (6, .int (enc (F i k) (T i k))), (4, .int (s_sum (s_gw (F i) (T i) (nI w)) k)), (0, .ref (ad 85)), (1, .int (nI i)), (2, .int (nI w)), (3, .int (nI (30 * i)))]) dX5_sheetTold_129 (nI_add _ _) (by decide) rfl ?_
                    refine g_goto C (tgt := 33) dX5_sheetTold_132 (by decide) ?_
                    refine g_lv [0, 2, 3, 4, 5, 6] (lv' := [(5, .int (nI (k + 1))), (4, .int (s_sum (s_gw (F i) (T i) (nI w)) k)), (0, .ref (ad 85)), (1, .int (nI i)), (2, .int (nI w)), (3, .int (nI (30 * i)))]) rfl ?_
                    have e9 : s_sum (s_gw (F i) (T i) (nI w)) (k + 1) = s_sum (s_gw (F i) (T i) (nI w)) k := s_sum_f (by rw [s_gw, if_neg c52, if_neg c74, if_neg c94, if_neg (fun z => c117 z.2)])
                    refine g_lveq (lv' := [(5, .int (nI (k + 1))), (4, .int (s_sum (s_gw (F i) (T i) (nI w)) (k + 1))), (0, .ref (ad 85)), (1, .int (nI i)), (2, .int (nI w)), (3, .int (nI (30 * i)))]) (by rw [e9] <;> rfl) ?_
                    exact ihk
                  · -- 120
                    have c117 : k % 6 = 0 := (nI_eq (by omega) (by omega)).mp c117
                    refine g_iload C 2 rfl dX5_sheetTold_120 ?_
                    refine g_iload C 0 rfl dX5_sheetTold_122 ?_
                    refine g_iconst C (v := nI 1) dX5_sheetTold_124 (by decide) ?_
                    refine g_iand C (v := (enc (F i k) (T i k)) &&& 1) dX5_sheetTold_125 rfl ?_
                    refine g_iadd C (v := (s_sum (s_gw (F i) (T i) (nI w)) k) + ((enc (F i k) (T i k)) &&& 1)) dX5_sheetTold_126 rfl ?_
                    refine g_istore C (lv' := [(4, .int ((s_sum (s_gw (F i) (T i) (nI w)) k) + ((enc (F i k) (T i k)) &&& 1))), (6, .int (enc (F i k) (T i k))), (5, .int (nI k)), (0, .ref (ad 85)), (1, .int (nI i)), (2, .int (nI w)), (3, .int (nI (30 * i)))]) dX5_sheetTold_127 (by decide) rfl ?_
                    refine g_iinc C 2 rfl (v := nI (k + 1)) (lv' := [(5, .int (nI (k + 1))), (4, .int ((s_sum (s_gw (F i) (T i) (nI w)) k) + ((enc (F i k) (T i k)) &&& 1))), (6, .int (enc (F i k) (T i k))), (0, .ref (ad 85)), (1, .int (nI i)), (2, .int (nI w)), (3, .int (nI (30 * i)))]) dX5_sheetTold_129 (nI_add _ _) (by decide) rfl ?_
                    refine g_goto C (tgt := 33) dX5_sheetTold_132 (by decide) ?_
                    refine g_lv [0, 1, 3, 4, 5, 6] (lv' := [(5, .int (nI (k + 1))), (4, .int ((s_sum (s_gw (F i) (T i) (nI w)) k) + ((enc (F i k) (T i k)) &&& 1))), (0, .ref (ad 85)), (1, .int (nI i)), (2, .int (nI w)), (3, .int (nI (30 * i)))]) rfl ?_
                    have e8 := enc_and1 (t := T i k) (hF i hi k (by omega))
                    have e9 : s_sum (s_gw (F i) (T i) (nI w)) (k + 1) = s_sum (s_gw (F i) (T i) (nI w)) k + (enc (F i k) (T i k) &&& 1) := s_sum_t (by rw [s_gw, if_neg c52, if_neg c74, if_neg c94, if_pos ⟨c109, c117⟩, e8])
                    refine g_lveq (lv' := [(5, .int (nI (k + 1))), (4, .int (s_sum (s_gw (F i) (T i) (nI w)) (k + 1))), (0, .ref (ad 85)), (1, .int (nI i)), (2, .int (nI w)), (3, .int (nI (30 * i)))]) (by rw [e9] <;> rfl) ?_
                    exact ihk
              · -- 97
                have c94 : nI w = 2 := c94
                refine g_iload C 2 rfl dX5_sheetTold_97 ?_
                refine g_iload C 0 rfl dX5_sheetTold_99 ?_
                refine g_calli C (r_S C (st := [.int (s_sum (s_gw (F i) (T i) (nI w)) k)]) (c_X5_worth l V (enc (F i k) (T i k))) (va_cwS 1 C.ts gX5_sheetTold_X5_worth rfl rfl rfl (by decide +kernel) ⟨(Nat.le_of_ble_eq_true rfl), (Nat.le_of_ble_eq_true rfl)⟩) rfl rfl (Nat.le_of_ble_eq_true rfl) dX5_sheetTold_101 ⟨(Nat.le_of_ble_eq_true rfl), (Nat.le_of_ble_eq_true rfl)⟩) (fun r u hu => ?_)
                subst hu
                refine g_iadd C (v := (s_sum (s_gw (F i) (T i) (nI w)) k) + (s_mw (enc (F i k) (T i k)))) dX5_sheetTold_104 rfl ?_
                refine g_istore C (lv' := [(4, .int ((s_sum (s_gw (F i) (T i) (nI w)) k) + (s_mw (enc (F i k) (T i k))))), (6, .int (enc (F i k) (T i k))), (5, .int (nI k)), (0, .ref (ad 85)), (1, .int (nI i)), (2, .int (nI w)), (3, .int (nI (30 * i)))]) dX5_sheetTold_105 (by decide) rfl ?_
                refine g_iload_n C 5 rfl dX5_sheetTold_107 ?_
                refine g_iconst C (v := nI 4) dX5_sheetTold_108 (by decide) ?_
                refine g_icmp_ne C (tgt := 129) dX5_sheetTold_109 (by decide) (fun c109 => ?_) (fun c109 => ?_)
                · -- 129
                  have c109 : ¬ nI w = 4 := c109
                  refine g_iinc C 2 rfl (v := nI (k + 1)) (lv' := [(5, .int (nI (k + 1))), (4, .int ((s_sum (s_gw (F i) (T i) (nI w)) k) + (s_mw (enc (F i k) (T i k))))), (6, .int (enc (F i k) (T i k))), (0, .ref (ad 85)), (1, .int (nI i)), (2, .int (nI w)), (3, .int (nI (30 * i)))]) dX5_sheetTold_129 (nI_add _ _) (by decide) rfl ?_
                  refine g_goto C (tgt := 33) dX5_sheetTold_132 (by decide) ?_
                  refine g_lv [0, 1, 3, 4, 5, 6] (lv' := [(5, .int (nI (k + 1))), (4, .int ((s_sum (s_gw (F i) (T i) (nI w)) k) + (s_mw (enc (F i k) (T i k))))), (0, .ref (ad 85)), (1, .int (nI i)), (2, .int (nI w)), (3, .int (nI (30 * i)))]) rfl ?_
                  have e8 := mw_enc (t := T i k) (hF i hi k (by omega))
                  have e9 : s_sum (s_gw (F i) (T i) (nI w)) (k + 1) = s_sum (s_gw (F i) (T i) (nI w)) k + (s_worth (F i k) (T i k)) := s_sum_t (by rw [s_gw, if_neg c52, if_neg c74, if_pos c94])
                  refine g_lveq (lv' := [(5, .int (nI (k + 1))), (4, .int (s_sum (s_gw (F i) (T i) (nI w)) (k + 1))), (0, .ref (ad 85)), (1, .int (nI i)), (2, .int (nI w)), (3, .int (nI (30 * i)))]) (by rw [e9, ← e8] <;> rfl) ?_
                  exact ihk
                · -- 112
                  exact absurd (c94.symm.trans c109) (by decide)
            · -- 77
              have c74 : nI w = 1 := c74
              refine g_iload C 2 rfl dX5_sheetTold_77 ?_
              refine g_iload C 0 rfl dX5_sheetTold_79 ?_
              refine g_via (fun v : Int32 => v = s_lw (F i k) (T i k) 0) 89 (fun _ => [(6, .int (enc (F i k) (T i k))), (5, .int (nI k)), (4, .int (s_sum (s_gw (F i) (T i) (nI w)) k)), (0, .ref (ad 85)), (1, .int (nI i)), (2, .int (nI w)), (3, .int (nI (30 * i)))]) (fun v => .int v :: [.int (s_sum (s_gw (F i) (T i) (nI w)) k)]) (fun v hv => ?_) (fun J => ?_)
              · -- join
                subst hv
                refine g_iadd C (v := (s_sum (s_gw (F i) (T i) (nI w)) k) + (s_lw (F i k) (T i k) 0)) dX5_sheetTold_89 rfl ?_
                refine g_istore C (lv' := [(4, .int ((s_sum (s_gw (F i) (T i) (nI w)) k) + (s_lw (F i k) (T i k) 0))), (6, .int (enc (F i k) (T i k))), (5, .int (nI k)), (0, .ref (ad 85)), (1, .int (nI i)), (2, .int (nI w)), (3, .int (nI (30 * i)))]) dX5_sheetTold_90 (by decide) rfl ?_
                refine g_iload_n C 5 rfl dX5_sheetTold_92 ?_
                refine g_iconst C (v := nI 2) dX5_sheetTold_93 (by decide) ?_
                refine g_icmp_ne C (tgt := 107) dX5_sheetTold_94 (by decide) (fun c94 => ?_) (fun c94 => ?_)
                · -- 107
                  have c94 : ¬ nI w = 2 := c94
                  refine g_iload_n C 5 rfl dX5_sheetTold_107 ?_
                  refine g_iconst C (v := nI 4) dX5_sheetTold_108 (by decide) ?_
                  refine g_icmp_ne C (tgt := 129) dX5_sheetTold_109 (by decide) (fun c109 => ?_) (fun c109 => ?_)
                  · -- 129
                    have c109 : ¬ nI w = 4 := c109
                    refine g_iinc C 2 rfl (v := nI (k + 1)) (lv' := [(5, .int (nI (k + 1))), (4, .int ((s_sum (s_gw (F i) (T i) (nI w)) k) + (s_lw (F i k) (T i k) 0))), (6, .int (enc (F i k) (T i k))), (0, .ref (ad 85)), (1, .int (nI i)), (2, .int (nI w)), (3, .int (nI (30 * i)))]) dX5_sheetTold_129 (nI_add _ _) (by decide) rfl ?_
                    refine g_goto C (tgt := 33) dX5_sheetTold_132 (by decide) ?_
                    refine g_lv [0, 1, 3, 4, 5, 6] (lv' := [(5, .int (nI (k + 1))), (4, .int ((s_sum (s_gw (F i) (T i) (nI w)) k) + (s_lw (F i k) (T i k) 0))), (0, .ref (ad 85)), (1, .int (nI i)), (2, .int (nI w)), (3, .int (nI (30 * i)))]) rfl ?_
                    have e9 : s_sum (s_gw (F i) (T i) (nI w)) (k + 1) = s_sum (s_gw (F i) (T i) (nI w)) k + (s_lw (F i k) (T i k) 0) := s_sum_t (by rw [s_gw, if_neg c52, if_pos c74])
                    refine g_lveq (lv' := [(5, .int (nI (k + 1))), (4, .int (s_sum (s_gw (F i) (T i) (nI w)) (k + 1))), (0, .ref (ad 85)), (1, .int (nI i)), (2, .int (nI w)), (3, .int (nI (30 * i)))]) (by rw [e9] <;> rfl) ?_
                    exact ihk
                  · -- 112
                    exact absurd (c74.symm.trans c109) (by decide)
                · -- 97
                  exact absurd (c74.symm.trans c94) (by decide)
              · -- ways
                refine g_if_ne C (tgt := 88) dX5_sheetTold_81 (by decide) (fun c81 => ?_) (fun c81 => ?_)
                · -- 88
                  refine g_iconst C (v := nI 0) dX5_sheetTold_88 (by decide) ?_
                  exact J _ ((if_neg (fun z => c81 ((enc_0 (hF i hi k (by omega))).mpr z))).symm)
                · -- 84
                  refine g_iconst C (v := nI 1) dX5_sheetTold_84 (by decide) ?_
                  refine g_goto C (tgt := 89) dX5_sheetTold_85 (by decide) ?_
                  exact J _ ((if_pos ((enc_0 (hF i hi k (by omega))).mp c81)).symm)
          · -- 55
            refine g_iload C 2 rfl dX5_sheetTold_55 ?_
            refine g_iload C 0 rfl dX5_sheetTold_57 ?_
            refine g_bipush C (v := nI 32) dX5_sheetTold_59 (by decide) ?_
            refine g_via (fun v : Int32 => v = if T i k = 0 then 1 else 0) 69 (fun _ => [(6, .int (enc (F i k) (T i k))), (5, .int (nI k)), (4, .int (s_sum (s_gw (F i) (T i) (nI w)) k)), (0, .ref (ad 85)), (1, .int (nI i)), (2, .int (nI w)), (3, .int (nI (30 * i)))]) (fun v => .int v :: [.int (s_sum (s_gw (F i) (T i) (nI w)) k)]) (fun v hv => ?_) (fun J => ?_)
            · -- join
              subst hv
              refine g_iadd C (v := (s_sum (s_gw (F i) (T i) (nI w)) k) + (if T i k = 0 then 1 else 0)) dX5_sheetTold_69 rfl ?_
              refine g_istore C (lv' := [(4, .int ((s_sum (s_gw (F i) (T i) (nI w)) k) + (if T i k = 0 then 1 else 0))), (6, .int (enc (F i k) (T i k))), (5, .int (nI k)), (0, .ref (ad 85)), (1, .int (nI i)), (2, .int (nI w)), (3, .int (nI (30 * i)))]) dX5_sheetTold_70 (by decide) rfl ?_
              refine g_iload_n C 5 rfl dX5_sheetTold_72 ?_
              refine g_iconst C (v := nI 1) dX5_sheetTold_73 (by decide) ?_
              refine g_icmp_ne C (tgt := 92) dX5_sheetTold_74 (by decide) (fun c74 => ?_) (fun c74 => ?_)
              · -- 92
                have c74 : ¬ nI w = 1 := c74
                refine g_iload_n C 5 rfl dX5_sheetTold_92 ?_
                refine g_iconst C (v := nI 2) dX5_sheetTold_93 (by decide) ?_
                refine g_icmp_ne C (tgt := 107) dX5_sheetTold_94 (by decide) (fun c94 => ?_) (fun c94 => ?_)
                · -- 107
                  have c94 : ¬ nI w = 2 := c94
                  refine g_iload_n C 5 rfl dX5_sheetTold_107 ?_
                  refine g_iconst C (v := nI 4) dX5_sheetTold_108 (by decide) ?_
                  refine g_icmp_ne C (tgt := 129) dX5_sheetTold_109 (by decide) (fun c109 => ?_) (fun c109 => ?_)
                  · -- 129
                    have c109 : ¬ nI w = 4 := c109
                    refine g_iinc C 2 rfl (v := nI (k + 1)) (lv' := [(5, .int (nI (k + 1))), (4, .int ((s_sum (s_gw (F i) (T i) (nI w)) k) + (if T i k = 0 then 1 else 0))), (6, .int (enc (F i k) (T i k))), (0, .ref (ad 85)), (1, .int (nI i)), (2, .int (nI w)), (3, .int (nI (30 * i)))]) dX5_sheetTold_129 (nI_add _ _) (by decide) rfl ?_
                    refine g_goto C (tgt := 33) dX5_sheetTold_132 (by decide) ?_
                    refine g_lv [0, 1, 3, 4, 5, 6] (lv' := [(5, .int (nI (k + 1))), (4, .int ((s_sum (s_gw (F i) (T i) (nI w)) k) + (if T i k = 0 then 1 else 0))), (0, .ref (ad 85)), (1, .int (nI i)), (2, .int (nI w)), (3, .int (nI (30 * i)))]) rfl ?_
                    have e9 : s_sum (s_gw (F i) (T i) (nI w)) (k + 1) = s_sum (s_gw (F i) (T i) (nI w)) k + (if T i k = 0 then 1 else 0) := s_sum_t (by rw [s_gw, if_pos c52])
                    refine g_lveq (lv' := [(5, .int (nI (k + 1))), (4, .int (s_sum (s_gw (F i) (T i) (nI w)) (k + 1))), (0, .ref (ad 85)), (1, .int (nI i)), (2, .int (nI w)), (3, .int (nI (30 * i)))]) (by rw [e9] <;> rfl) ?_
                    exact ihk
                  · -- 112
                    exact absurd (c52.symm.trans c109) (by decide)
                · -- 97
                  exact absurd (c52.symm.trans c94) (by decide)
              · -- 77
                exact absurd (c52.symm.trans c74) (by decide)
            · -- ways
              refine g_icmp_ge C (tgt := 68) dX5_sheetTold_61 (by decide) (fun c61 => ?_) (fun c61 => ?_)
              · -- 68
                refine g_iconst C (v := nI 0) dX5_sheetTold_68 (by decide) ?_
                exact J _ ((if_neg ((enc_ge (hF i hi k (by omega))).mp c61)).symm)
              · -- 64
                refine g_iconst C (v := nI 1) dX5_sheetTold_64 (by decide) ?_
                refine g_goto C (tgt := 69) dX5_sheetTold_65 (by decide) ?_
                exact J _ ((if_pos (Classical.byContradiction (fun z => c61 ((enc_ge (hF i hi k (by omega))).mpr z)))).symm)
    · -- 24
      refine g_aload_n C 2 rfl dX5_sheetTold_24 ?_
      refine g_iload_n C 1 rfl dX5_sheetTold_25 ?_
      refine g_calli C (r_V C (st := []) (c_X5_block l V (by omega) (by omega) ⟨m1, ⟨_, m2, r9⟩, ⟨_, m3, r10⟩, ⟨_, m4, r11⟩, ⟨_, m5, r12⟩, ⟨_, m6, r13⟩, ⟨_, m7, r14⟩⟩ hF i hi) (cwV 1 C.ts gX5_sheetTold_X5_block rfl rfl rfl (by decide +kernel) ⟨(Nat.le_of_ble_eq_true rfl), (Nat.le_of_ble_eq_true rfl)⟩) (by omega) m1 rfl rfl rfl (Nat.le_of_ble_eq_true rfl) dX5_sheetTold_26 ⟨(Nat.le_of_ble_eq_true rfl), (Nat.le_of_ble_eq_true rfl)⟩) (fun r u hu => ?_)
      subst hu
      exact g_iret C rfl dX5_sheetTold_29 () rfl rfl rfl (by rw [c21, s_sheet, if_neg (by decide), if_neg (by decide), if_neg (by decide), if_neg (by decide), if_neg (by decide)]) (Nat.le_of_ble_eq_true rfl) (Nat.le_of_ble_eq_true rfl)
  · -- 13
    refine g_aload_n C 2 rfl dX5_sheetTold_13 ?_
    refine g_iload_n C 1 rfl dX5_sheetTold_14 ?_
    refine g_calli C (r_V C (st := []) (c_X5_pairs l V (by omega) (by omega) ⟨m1, ⟨_, m2, r9⟩, ⟨_, m3, r10⟩, ⟨_, m4, r11⟩, ⟨_, m5, r12⟩, ⟨_, m6, r13⟩, ⟨_, m7, r14⟩⟩ hF i hi) (cwV 1 C.ts gX5_sheetTold_X5_pairs rfl rfl rfl (by decide +kernel) ⟨(Nat.le_of_ble_eq_true rfl), (Nat.le_of_ble_eq_true rfl)⟩) (by omega) m1 rfl rfl rfl (Nat.le_of_ble_eq_true rfl) dX5_sheetTold_15 ⟨(Nat.le_of_ble_eq_true rfl), (Nat.le_of_ble_eq_true rfl)⟩) (fun r u hu => ?_)
    subst hu
    exact g_iret C rfl dX5_sheetTold_18 () rfl rfl rfl (by rw [c10, s_sheet, if_neg (by decide), if_neg (by decide), if_neg (by decide), if_pos (by decide)]) (Nat.le_of_ble_eq_true rfl) (Nat.le_of_ble_eq_true rfl)
