/-! ===== the law's cases ===== -/
set_option maxHeartbeats 4000000 in
set_option maxRecDepth 100000 in
theorem law_case_0 {p : Program} {l : Launch} {e : Env} {s : State} {m : MethodId} {b L : Nat} {xs : Nat → Int32} {below : List Frame} {meth : Method} {c : Code} {V : gT} {Q : State → Prop} {ad : Nat → Nat} {el : Nat → va_E} {cells slots : Nat} (hlt : l.stackTraces = false) (C : CX V (AL s) RL cL_law 9 (some .boolean) wsL_law p s m #[Value.ref b] meth c) (hX : va_X b L xs s s.heap) (hbl : b < s.heap.size) (hL : L ≤ 2048) (j : Nat) (hj : 4 * j + 4 ≤ L) (hcc : cells + 6 ≤ 601024) (hss : slots + 40 ≤ 7293034) (hJ : Inv V ad el) (K : ∀ el2, Inv V ad el2 → GW p l e room_1 s m #[Value.ref b] below meth c V (AL s) 9 Q 93 ad el2 (cells + 6) (slots + 40) 1039 [(4, .int (nI (4 * j))), (3, .ref (ad 92)), (2, .ref (ad 85)), (1, .ref (ad 0)), (0, .ref b)] []) : GW p l e room_1 s m #[Value.ref b] below meth c V (AL s) 9 Q 93 ad el cells slots 116 [(4, .int (nI (4 * j))), (3, .ref (ad 92)), (2, .ref (ad 85)), (1, .ref (ad 0)), (0, .ref b)] [] := by
  obtain ⟨cnt, M, St, We, pl, F, T, hc, h4, ⟨thr, sh, h5⟩, hstep, hF, hT, hP, g0, ho⟩ := hJ
  refine g_aload_n C 3 rfl dL_law_116 ?_
  refine g_aload_n C 4 rfl dL_law_117 ?_
  refine g_iload C 0 rfl dL_law_118 ?_
  refine g_iconst C (v := nI 1) dL_law_120 (by decide) ?_
  refine g_iadd C (v := nI ((4 * j) + 1)) dL_law_121 (nI_add _ _) ?_
  refine g_sld C hX hbl hL ((4 * j) + 1) rfl (by omega) dL_law_122 ?_
  refine g_aload_n C 4 rfl dL_law_123 ?_
  refine g_iload C 0 rfl dL_law_124 ?_
  refine g_iconst C (v := nI 2) dL_law_126 (by decide) ?_
  refine g_iadd C (v := nI ((4 * j) + 2)) dL_law_127 (nI_add _ _) ?_
  refine g_sld C hX hbl hL ((4 * j) + 2) rfl (by omega) dL_law_128 ?_
  refine g_aload_n C 1 rfl dL_law_129 ?_
  refine g_xcalli C (r_xSH C (st := []) (c_L_setFeed l V hlt (by omega) hc h4 g0 ho (xs (4 * j + 1)) (xs (4 * j + 2))) (vx_cwSW 4 C.ts gL_law_L_setFeed rfl rfl rfl (by decide +kernel) ⟨(Nat.le_of_ble_eq_true rfl), (Nat.le_of_ble_eq_true rfl)⟩) rfl rfl (Nat.le_of_ble_eq_true rfl) dL_law_130 ⟨by show _ ≤ 601024; omega, by show _ ≤ 7293034; omega⟩) (fun E hE => hE.elim) (fun k u hu => ?_)
  rcases hu with ⟨rfl, r8, u8, hp, ho8, hO⟩ | ⟨rfl, hno, hsame⟩
  · -- way 0
    obtain ⟨hok, hr, hx4, hfr⟩ := hp
    have hx4u := hx4.keep (fun j hj => ho8 j (by omega))
    have hx5u := h5.keep (fun j h1 h2 => (ho8 j (by omega)).trans (hfr j (by omega)))
    obtain ⟨g1, ho1, ho2⟩ := hO
    refine g_istore C (lv' := [(5, .int 0), (4, .int (nI (4 * j))), (3, .ref (ad 92)), (2, .ref (ad 85)), (1, .ref (ad 0)), (0, .ref b)]) dL_law_133 (by decide) rfl ?_
    refine g_aload_n C 3 rfl dL_law_135 ?_
    refine g_aload_n C 5 rfl dL_law_136 ?_
    refine g_iload C 1 rfl dL_law_137 ?_
    refine g_iconst C (v := nI 1) dL_law_139 (by decide) ?_
    refine g_iadd C (v := nI ((4 * j) + 1)) dL_law_140 (nI_add _ _) ?_
    refine g_sld C hX hbl hL ((4 * j) + 1) rfl (by omega) dL_law_141 ?_
    refine g_aload_n C 5 rfl dL_law_142 ?_
    refine g_iload C 1 rfl dL_law_143 ?_
    refine g_iconst C (v := nI 2) dL_law_145 (by decide) ?_
    refine g_iadd C (v := nI ((4 * j) + 2)) dL_law_146 (nI_add _ _) ?_
    refine g_sld C hX hbl hL ((4 * j) + 2) rfl (by omega) dL_law_147 ?_
    refine g_calli C (r_V C (st := []) (c_X5_setFeed l V (by omega) hc hx5u  (xs (4 * j + 1)) (xs (4 * j + 2))) (cwV 2 C.ts gL_law_X5_setFeed rfl rfl rfl (by decide +kernel) ⟨(Nat.le_of_ble_eq_true rfl), (Nat.le_of_ble_eq_true rfl)⟩) (by omega) hx5u.1 rfl rfl rfl (Nat.le_of_ble_eq_true rfl) dL_law_148 ⟨by show _ ≤ 601024; omega, by show _ ≤ 7293034; omega⟩) (fun v u2 hv => ?_)
    obtain ⟨hd, hfr2⟩ := hv
    have hx4v := hx4u.keep (fun j hj => hfr2 j (by omega))
    have hov := (hfr2 92 (by omega)).trans ho1
    rcases hd with ⟨hok5, hv5, hx5v⟩ | ⟨hno5, hx5v⟩
    · -- answer 0
      have hval : r8 = v := hr.trans hv5.symm
      refine g_istore C (lv' := [(6, .int v), (5, .int 0), (4, .int (nI (4 * j))), (3, .ref (ad 92)), (2, .ref (ad 85)), (1, .ref (ad 0)), (0, .ref b)]) dL_law_151 (by decide) rfl ?_
      refine g_aload_n C 4 rfl dL_law_153 ?_
      refine g_calli C (r_V C (st := []) (c_X5_thrown l V (by omega) hc hx5v) (cwV 0 C.ts gL_law_X5_thrown rfl rfl rfl (by decide +kernel) ⟨(Nat.le_of_ble_eq_true rfl), (Nat.le_of_ble_eq_true rfl)⟩) (by omega) hx5v.1 rfl rfl rfl (Nat.le_of_ble_eq_true rfl) dL_law_154 ⟨by show _ ≤ 601024; omega, by show _ ≤ 7293034; omega⟩) (fun t u3 ht => ?_)
      subst ht
      refine g_iload C 1 rfl dL_law_157 ?_
      refine g_icmp_eq C (tgt := 164) dL_law_159 (by decide) (fun c159 => ?_) (fun c159 => ?_)
      · -- 164
        refine g_iload C 1 rfl dL_law_164 ?_
        refine g_if_ne C (tgt := 181) dL_law_166 (by decide) (fun c166 => ?_) (fun c166 => ?_)
        · -- 181
          exact absurd rfl c166
        · -- 169
          refine g_aload_n C 3 rfl dL_law_169 ?_
          refine g_iconst C (v := nI 0) dL_law_170 (by decide) ?_
          refine g_lald C 92 (by omega) hov 0 rfl (by omega) (by decide) dL_law_171 ?_
          refine g_topl (ho2 : g1 0 = r8.toInt64) ?_
          refine g_iload C 0 rfl dL_law_172 ?_
          refine g_i2l C (v := v.toInt64) dL_law_174 rfl ?_
          refine g_lcmp C dL_law_175 ?_
          refine g_top ((by rw [hval]; exact lg_cmp_same _) : lg_cmp r8.toInt64 v.toInt64 = 0) ?_
          refine g_if_eq C (tgt := 181) dL_law_176 (by decide) (fun c176 => ?_) (fun c176 => ?_)
          · -- 181
            refine g_goto C (tgt := 1039) dL_law_181 (by decide) ?_
            refine g_lv [2, 3, 4, 5, 6] (lv' := [(4, .int (nI (4 * j))), (3, .ref (ad 92)), (2, .ref (ad 85)), (1, .ref (ad 0)), (0, .ref b)]) rfl ?_
            refine g_widen (k := cells + 6) (j := slots + 40) (by omega) (by omega) ?_
            exact K _ ⟨cnt, _, St, We, pl, F, T, hc, hx4v, ⟨_, _, hx5v⟩, (by rw [pk_un (by decide), pk_un (by decide)]; exact hstep), hF, hT, hP, ⟨_, hov⟩⟩
          · -- 179
            exact absurd rfl c176
      · -- 162
        exact absurd rfl c159
    · -- answer 1
      exact absurd hok hno5
  · -- way 1
    have hx4u := h4.keep (fun j _ => hsame j)
    have hx5u := h5.keep (fun j _ _ => hsame j)
    have ho1 := (hsame 92).trans ho
    refine g_istore C (lv' := [(5, .int 1), (4, .int (nI (4 * j))), (3, .ref (ad 92)), (2, .ref (ad 85)), (1, .ref (ad 0)), (0, .ref b)]) dL_law_133 (by decide) rfl ?_
    refine g_aload_n C 3 rfl dL_law_135 ?_
    refine g_aload_n C 5 rfl dL_law_136 ?_
    refine g_iload C 1 rfl dL_law_137 ?_
    refine g_iconst C (v := nI 1) dL_law_139 (by decide) ?_
    refine g_iadd C (v := nI ((4 * j) + 1)) dL_law_140 (nI_add _ _) ?_
    refine g_sld C hX hbl hL ((4 * j) + 1) rfl (by omega) dL_law_141 ?_
    refine g_aload_n C 5 rfl dL_law_142 ?_
    refine g_iload C 1 rfl dL_law_143 ?_
    refine g_iconst C (v := nI 2) dL_law_145 (by decide) ?_
    refine g_iadd C (v := nI ((4 * j) + 2)) dL_law_146 (nI_add _ _) ?_
    refine g_sld C hX hbl hL ((4 * j) + 2) rfl (by omega) dL_law_147 ?_
    refine g_calli C (r_V C (st := []) (c_X5_setFeed l V (by omega) hc hx5u  (xs (4 * j + 1)) (xs (4 * j + 2))) (cwV 2 C.ts gL_law_X5_setFeed rfl rfl rfl (by decide +kernel) ⟨(Nat.le_of_ble_eq_true rfl), (Nat.le_of_ble_eq_true rfl)⟩) (by omega) hx5u.1 rfl rfl rfl (Nat.le_of_ble_eq_true rfl) dL_law_148 ⟨by show _ ≤ 601024; omega, by show _ ≤ 7293034; omega⟩) (fun v u2 hv => ?_)
    obtain ⟨hd, hfr2⟩ := hv
    have hx4v := hx4u.keep (fun j hj => hfr2 j (by omega))
    have hov := (hfr2 92 (by omega)).trans ho1
    rcases hd with ⟨hok5, hv5, hx5v⟩ | ⟨hno5, hx5v⟩
    · -- answer 0
      exact absurd hok5 hno
    · -- answer 1
      refine g_istore C (lv' := [(6, .int v), (5, .int 1), (4, .int (nI (4 * j))), (3, .ref (ad 92)), (2, .ref (ad 85)), (1, .ref (ad 0)), (0, .ref b)]) dL_law_151 (by decide) rfl ?_
      refine g_aload_n C 4 rfl dL_law_153 ?_
      refine g_calli C (r_V C (st := []) (c_X5_thrown l V (by omega) hc hx5v) (cwV 0 C.ts gL_law_X5_thrown rfl rfl rfl (by decide +kernel) ⟨(Nat.le_of_ble_eq_true rfl), (Nat.le_of_ble_eq_true rfl)⟩) (by omega) hx5v.1 rfl rfl rfl (Nat.le_of_ble_eq_true rfl) dL_law_154 ⟨by show _ ≤ 601024; omega, by show _ ≤ 7293034; omega⟩) (fun t u3 ht => ?_)
      subst ht
      refine g_iload C 1 rfl dL_law_157 ?_
      refine g_icmp_eq C (tgt := 164) dL_law_159 (by decide) (fun c159 => ?_) (fun c159 => ?_)
      · -- 164
        refine g_iload C 1 rfl dL_law_164 ?_
        refine g_if_ne C (tgt := 181) dL_law_166 (by decide) (fun c166 => ?_) (fun c166 => ?_)
        · -- 181
          refine g_goto C (tgt := 1039) dL_law_181 (by decide) ?_
          refine g_lv [2, 3, 4, 5, 6] (lv' := [(4, .int (nI (4 * j))), (3, .ref (ad 92)), (2, .ref (ad 85)), (1, .ref (ad 0)), (0, .ref b)]) rfl ?_
          refine g_widen (k := cells + 6) (j := slots + 40) (by omega) (by omega) ?_
          exact K _ ⟨cnt, M, St, We, pl, F, T, hc, hx4v, ⟨_, _, hx5v⟩, hstep, hF, hT, hP, ⟨_, hov⟩⟩
        · -- 169
          exact absurd c166 (by decide)
      · -- 162
        exact absurd rfl c159

set_option maxHeartbeats 4000000 in
set_option maxRecDepth 100000 in
theorem law_case_2 {p : Program} {l : Launch} {e : Env} {s : State} {m : MethodId} {b L : Nat} {xs : Nat → Int32} {below : List Frame} {meth : Method} {c : Code} {V : gT} {Q : State → Prop} {ad : Nat → Nat} {el : Nat → va_E} {cells slots : Nat} (hlt : l.stackTraces = false) (C : CX V (AL s) RL cL_law 9 (some .boolean) wsL_law p s m #[Value.ref b] meth c) (hX : va_X b L xs s s.heap) (hbl : b < s.heap.size) (hL : L ≤ 2048) (j : Nat) (hj : 4 * j + 4 ≤ L) (hcc : cells + 6 ≤ 601024) (hss : slots + 40 ≤ 7293034) (hJ : Inv V ad el) (K : ∀ el2, Inv V ad el2 → GW p l e room_1 s m #[Value.ref b] below meth c V (AL s) 9 Q 93 ad el2 (cells + 6) (slots + 40) 1039 [(4, .int (nI (4 * j))), (3, .ref (ad 92)), (2, .ref (ad 85)), (1, .ref (ad 0)), (0, .ref b)] []) : GW p l e room_1 s m #[Value.ref b] below meth c V (AL s) 9 Q 93 ad el cells slots 197 [(4, .int (nI (4 * j))), (3, .ref (ad 92)), (2, .ref (ad 85)), (1, .ref (ad 0)), (0, .ref b)] [] := by
  obtain ⟨cnt, M, St, We, pl, F, T, hc, h4, ⟨thr, sh, h5⟩, hstep, hF, hT, hP, g0, ho⟩ := hJ
  refine g_aload_n C 3 rfl dL_law_197 ?_
  refine g_aload_n C 4 rfl dL_law_198 ?_
  refine g_iload C 0 rfl dL_law_199 ?_
  refine g_iconst C (v := nI 1) dL_law_201 (by decide) ?_
  refine g_iadd C (v := nI ((4 * j) + 1)) dL_law_202 (nI_add _ _) ?_
  refine g_sld C hX hbl hL ((4 * j) + 1) rfl (by omega) dL_law_203 ?_
  refine g_aload_n C 4 rfl dL_law_204 ?_
  refine g_iload C 0 rfl dL_law_205 ?_
  refine g_iconst C (v := nI 2) dL_law_207 (by decide) ?_
  refine g_iadd C (v := nI ((4 * j) + 2)) dL_law_208 (nI_add _ _) ?_
  refine g_sld C hX hbl hL ((4 * j) + 2) rfl (by omega) dL_law_209 ?_
  refine g_aload_n C 1 rfl dL_law_210 ?_
  refine g_xcalli C (r_xSH C (st := []) (c_L_roll l V hlt (by omega) hc h4 g0 ho (xs (4 * j + 1)) (xs (4 * j + 2))) (vx_cwSW 4 C.ts gL_law_L_roll rfl rfl rfl (by decide +kernel) ⟨(Nat.le_of_ble_eq_true rfl), (Nat.le_of_ble_eq_true rfl)⟩) rfl rfl (Nat.le_of_ble_eq_true rfl) dL_law_211 ⟨by show _ ≤ 601024; omega, by show _ ≤ 7293034; omega⟩) (fun E hE => hE.elim) (fun k u hu => ?_)
  rcases hu with ⟨rfl, r8, u8, hp, ho8, hO⟩ | ⟨rfl, hno, hsame⟩
  · -- way 0
    obtain ⟨hok, hr, hx4, hfr⟩ := hp
    have hx4u := hx4.keep (fun j hj => ho8 j (by omega))
    have hx5u := h5.keep (fun j h1 h2 => (ho8 j (by omega)).trans (hfr j (by omega)))
    obtain ⟨g1, ho1, ho2⟩ := hO
    refine g_istore C (lv' := [(5, .int 0), (4, .int (nI (4 * j))), (3, .ref (ad 92)), (2, .ref (ad 85)), (1, .ref (ad 0)), (0, .ref b)]) dL_law_214 (by decide) rfl ?_
    refine g_aload_n C 3 rfl dL_law_216 ?_
    refine g_aload_n C 5 rfl dL_law_217 ?_
    refine g_iload C 1 rfl dL_law_218 ?_
    refine g_iconst C (v := nI 1) dL_law_220 (by decide) ?_
    refine g_iadd C (v := nI ((4 * j) + 1)) dL_law_221 (nI_add _ _) ?_
    refine g_sld C hX hbl hL ((4 * j) + 1) rfl (by omega) dL_law_222 ?_
    refine g_aload_n C 5 rfl dL_law_223 ?_
    refine g_iload C 1 rfl dL_law_224 ?_
    refine g_iconst C (v := nI 2) dL_law_226 (by decide) ?_
    refine g_iadd C (v := nI ((4 * j) + 2)) dL_law_227 (nI_add _ _) ?_
    refine g_sld C hX hbl hL ((4 * j) + 2) rfl (by omega) dL_law_228 ?_
    refine g_calli C (r_V C (st := []) (c_X5_roll l V (by omega) hc hx5u  (xs (4 * j + 1)) (xs (4 * j + 2))) (cwV 2 C.ts gL_law_X5_roll rfl rfl rfl (by decide +kernel) ⟨(Nat.le_of_ble_eq_true rfl), (Nat.le_of_ble_eq_true rfl)⟩) (by omega) hx5u.1 rfl rfl rfl (Nat.le_of_ble_eq_true rfl) dL_law_229 ⟨by show _ ≤ 601024; omega, by show _ ≤ 7293034; omega⟩) (fun v u2 hv => ?_)
    obtain ⟨hd, hfr2⟩ := hv
    have hx4v := hx4u.keep (fun j hj => hfr2 j (by omega))
    have hov := (hfr2 92 (by omega)).trans ho1
    rcases hd with ⟨hok5, hv5, hx5v⟩ | ⟨hno5, hx5v⟩
    · -- answer 0
      have hval : r8 = v := hr.trans hv5.symm
      rw [roll_eq] at hx5v
      refine g_istore C (lv' := [(6, .int v), (5, .int 0), (4, .int (nI (4 * j))), (3, .ref (ad 92)), (2, .ref (ad 85)), (1, .ref (ad 0)), (0, .ref b)]) dL_law_232 (by decide) rfl ?_
      refine g_aload_n C 4 rfl dL_law_234 ?_
      refine g_calli C (r_V C (st := []) (c_X5_thrown l V (by omega) hc hx5v) (cwV 0 C.ts gL_law_X5_thrown rfl rfl rfl (by decide +kernel) ⟨(Nat.le_of_ble_eq_true rfl), (Nat.le_of_ble_eq_true rfl)⟩) (by omega) hx5v.1 rfl rfl rfl (Nat.le_of_ble_eq_true rfl) dL_law_235 ⟨by show _ ≤ 601024; omega, by show _ ≤ 7293034; omega⟩) (fun t u3 ht => ?_)
      subst ht
      refine g_iload C 1 rfl dL_law_238 ?_
      refine g_icmp_eq C (tgt := 245) dL_law_240 (by decide) (fun c240 => ?_) (fun c240 => ?_)
      · -- 245
        refine g_iload C 1 rfl dL_law_245 ?_
        refine g_if_ne C (tgt := 262) dL_law_247 (by decide) (fun c247 => ?_) (fun c247 => ?_)
        · -- 262
          exact absurd rfl c247
        · -- 250
          refine g_aload_n C 3 rfl dL_law_250 ?_
          refine g_iconst C (v := nI 0) dL_law_251 (by decide) ?_
          refine g_lald C 92 (by omega) hov 0 rfl (by omega) (by decide) dL_law_252 ?_
          refine g_topl (ho2 : g1 0 = r8.toInt64) ?_
          refine g_iload C 0 rfl dL_law_253 ?_
          refine g_i2l C (v := v.toInt64) dL_law_255 rfl ?_
          refine g_lcmp C dL_law_256 ?_
          refine g_top ((by rw [hval]; exact lg_cmp_same _) : lg_cmp r8.toInt64 v.toInt64 = 0) ?_
          refine g_if_eq C (tgt := 262) dL_law_257 (by decide) (fun c257 => ?_) (fun c257 => ?_)
          · -- 262
            refine g_goto C (tgt := 1039) dL_law_262 (by decide) ?_
            refine g_lv [2, 3, 4, 5, 6] (lv' := [(4, .int (nI (4 * j))), (3, .ref (ad 92)), (2, .ref (ad 85)), (1, .ref (ad 0)), (0, .ref b)]) rfl ?_
            refine g_widen (k := cells + 6) (j := slots + 40) (by omega) (by omega) ?_
            exact K _ ⟨cnt, _, St, We, pl, F, T, hc, hx4v, ⟨_, _, hx5v⟩, (by rw [pk_us]; exact pos_of_1 hok.2.1), hF, hT, hP, ⟨_, hov⟩⟩
          · -- 260
            exact absurd rfl c257
      · -- 243
        exact absurd rfl c240
    · -- answer 1
      exact absurd hok hno5
  · -- way 1
    have hx4u := h4.keep (fun j _ => hsame j)
    have hx5u := h5.keep (fun j _ _ => hsame j)
    have ho1 := (hsame 92).trans ho
    refine g_istore C (lv' := [(5, .int 1), (4, .int (nI (4 * j))), (3, .ref (ad 92)), (2, .ref (ad 85)), (1, .ref (ad 0)), (0, .ref b)]) dL_law_214 (by decide) rfl ?_
    refine g_aload_n C 3 rfl dL_law_216 ?_
    refine g_aload_n C 5 rfl dL_law_217 ?_
    refine g_iload C 1 rfl dL_law_218 ?_
    refine g_iconst C (v := nI 1) dL_law_220 (by decide) ?_
    refine g_iadd C (v := nI ((4 * j) + 1)) dL_law_221 (nI_add _ _) ?_
    refine g_sld C hX hbl hL ((4 * j) + 1) rfl (by omega) dL_law_222 ?_
    refine g_aload_n C 5 rfl dL_law_223 ?_
    refine g_iload C 1 rfl dL_law_224 ?_
    refine g_iconst C (v := nI 2) dL_law_226 (by decide) ?_
    refine g_iadd C (v := nI ((4 * j) + 2)) dL_law_227 (nI_add _ _) ?_
    refine g_sld C hX hbl hL ((4 * j) + 2) rfl (by omega) dL_law_228 ?_
    refine g_calli C (r_V C (st := []) (c_X5_roll l V (by omega) hc hx5u  (xs (4 * j + 1)) (xs (4 * j + 2))) (cwV 2 C.ts gL_law_X5_roll rfl rfl rfl (by decide +kernel) ⟨(Nat.le_of_ble_eq_true rfl), (Nat.le_of_ble_eq_true rfl)⟩) (by omega) hx5u.1 rfl rfl rfl (Nat.le_of_ble_eq_true rfl) dL_law_229 ⟨by show _ ≤ 601024; omega, by show _ ≤ 7293034; omega⟩) (fun v u2 hv => ?_)
    obtain ⟨hd, hfr2⟩ := hv
    have hx4v := hx4u.keep (fun j hj => hfr2 j (by omega))
    have hov := (hfr2 92 (by omega)).trans ho1
    rcases hd with ⟨hok5, hv5, hx5v⟩ | ⟨hno5, hx5v⟩
    · -- answer 0
      exact absurd hok5 hno
    · -- answer 1
      refine g_istore C (lv' := [(6, .int v), (5, .int 1), (4, .int (nI (4 * j))), (3, .ref (ad 92)), (2, .ref (ad 85)), (1, .ref (ad 0)), (0, .ref b)]) dL_law_232 (by decide) rfl ?_
      refine g_aload_n C 4 rfl dL_law_234 ?_
      refine g_calli C (r_V C (st := []) (c_X5_thrown l V (by omega) hc hx5v) (cwV 0 C.ts gL_law_X5_thrown rfl rfl rfl (by decide +kernel) ⟨(Nat.le_of_ble_eq_true rfl), (Nat.le_of_ble_eq_true rfl)⟩) (by omega) hx5v.1 rfl rfl rfl (Nat.le_of_ble_eq_true rfl) dL_law_235 ⟨by show _ ≤ 601024; omega, by show _ ≤ 7293034; omega⟩) (fun t u3 ht => ?_)
      subst ht
      refine g_iload C 1 rfl dL_law_238 ?_
      refine g_icmp_eq C (tgt := 245) dL_law_240 (by decide) (fun c240 => ?_) (fun c240 => ?_)
      · -- 245
        refine g_iload C 1 rfl dL_law_245 ?_
        refine g_if_ne C (tgt := 262) dL_law_247 (by decide) (fun c247 => ?_) (fun c247 => ?_)
        · -- 262
          refine g_goto C (tgt := 1039) dL_law_262 (by decide) ?_
          refine g_lv [2, 3, 4, 5, 6] (lv' := [(4, .int (nI (4 * j))), (3, .ref (ad 92)), (2, .ref (ad 85)), (1, .ref (ad 0)), (0, .ref b)]) rfl ?_
          refine g_widen (k := cells + 6) (j := slots + 40) (by omega) (by omega) ?_
          exact K _ ⟨cnt, M, St, We, pl, F, T, hc, hx4v, ⟨_, _, hx5v⟩, hstep, hF, hT, hP, ⟨_, hov⟩⟩
        · -- 250
          exact absurd c247 (by decide)
      · -- 243
        exact absurd rfl c240
