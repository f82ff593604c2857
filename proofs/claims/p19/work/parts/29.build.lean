/-! ===== the law: a machine that cells choose ===== -/
section GF3
variable {p : Program} {l : Launch} {e : Env} {R : Room} {s : State} {m : MethodId} {args : Array Value} {below : List Frame} {meth : Method} {c : Code} {V : gT} {A : Nat → Prop} {nL : Nat} {Q : State → Prop} {n : Nat} {ad : Nat → Nat} {el : Nat → va_E} {cells slots pc : Nat} {lv : List (Nat × Value)} {st : List Value}
/-- a loop in which the world changes -/
theorem g_forI (N : Nat) (cf sf : Nat → Nat) (lvf : Nat → (Nat → Nat) → List (Nat × Value)) (I : Nat → Nat → (Nat → Nat) → (Nat → va_E) → Prop) (h0 : I 0 n ad el) (hx : ∀ n1 ad1 el1, I N n1 ad1 el1 → GW p l e R s m args below meth c V A nL Q n1 ad1 el1 (cf N) (sf N) pc (lvf N ad1) st) (hs : ∀ i n1 ad1 el1, i < N → I i n1 ad1 el1 → (∀ n2 ad2 el2, I (i + 1) n2 ad2 el2 → GW p l e R s m args below meth c V A nL Q n2 ad2 el2 (cf (i + 1)) (sf (i + 1)) pc (lvf (i + 1) ad2) st) → GW p l e R s m args below meth c V A nL Q n1 ad1 el1 (cf i) (sf i) pc (lvf i ad1) st) : GW p l e R s m args below meth c V A nL Q n ad el (cf 0) (sf 0) pc (lvf 0 ad) st :=
  g_down (fun i => ∀ n1 ad1 el1, I i n1 ad1 el1 → GW p l e R s m args below meth c V A nL Q n1 ad1 el1 (cf i) (sf i) pc (lvf i ad1) st) N hx (fun i hi ih n1 ad1 el1 h1 => hs i n1 ad1 el1 hi h1 ih) 0 (Nat.zero_le _) n ad el h0
/-- a cut behind which the cells have changed -/
theorem g_viaE (φ : (Nat → va_E) → Prop) (pcJ : Nat) (lvJ : List (Nat × Value)) (stJ : List Value) (hJ : ∀ el1, φ el1 → GW p l e R s m args below meth c V A nL Q n ad el1 cells slots pcJ lvJ stJ) (h : (∀ el1, φ el1 → GW p l e R s m args below meth c V A nL Q n ad el1 cells slots pcJ lvJ stJ) → GW p l e R s m args below meth c V A nL Q n ad el cells slots pc lv st) : GW p l e R s m args below meth c V A nL Q n ad el cells slots pc lv st := h hJ
end GF3

set_option maxHeartbeats 4000000 in
set_option maxRecDepth 100000 in
theorem c_L_build (l : Launch) (V : gT) {ad : Nat → Nat} {el : Nat → va_E} (h : X4At V ad el 0 s_M0 (fun _ => 200) (fun _ => 0) (fun _ => 0) (fun _ _ => 0) (fun _ _ => 0)) : TT l V yL_build wsL_build { frames := 9, cells := 500, slots := 3300, locals := 172 } 85 ad el [.ref (ad 0), .ref (g_b V)] (QRn V 85 (fun u => (∀ j, j < 85 → u.2.1 j = ad j) ∧ ∃ (cnt : Nat) (M St We pl : Nat → Int32) (F T : Nat → Nat → Int32), Inv V u.1 u.2.1 u.2.2 97 cnt M St We pl F T)) 500 3300 := by
  refine TT.body (cc := cL_build) (maxL := 4) (ret := (some (.object "StampSheetsLaw$Sim"))) (by decide) rfl (Nat.le_of_ble_eq_true rfl) ?_
  intro p e s m below meth c C hnm
  refine g_lv [0, 1] (lv' := [(0, .ref (ad 0)), (1, .ref (g_b V))]) rfl ?_
  refine g_new C (fun w h => (List.mem_cons_of_mem _ (List.mem_append_left _ (List.mem_append_left _ (List.mem_append_left _ (List.mem_append_left _ (List.mem_append_left _ (List.mem_append_left _ (List.mem_append_left _ (List.mem_append_right _ h)))))))))) tyX5 tyX5_ok (List.mem_of_getElem? (i := 1) rfl) (List.mem_of_getElem? (i := 2) rfl) (List.mem_of_getElem? (i := 3) rfl) (ci := 5) rfl (fs := [.int 0, .int 0, .int 0, .int 0, .int 0, .int 0, .null, .null, .null, .null, .null, .null]) (by decide) (by show _ ≤ 500; omega) (by show _ ≤ 3300; omega) dL_build_0 (fun ad1 el2 ha3 he4 hb5 => ?_)
  refine g_lveq (lv' := [(0, .ref (ad1 0)), (1, .ref (g_b V))]) (by rw [ha3 0 (by omega)]) ?_
  refine g_dup C dL_build_3 rfl ?_
  refine g_callv C (r_IN C (st := [.ref (ad1 85)]) (c_X5_init l V he4) ⟨va_cnB 0 C.ts gL_build_X5_init_n95 rfl rfl rfl (C.kx.2.2.2.1 _ (List.mem_of_getElem? (i := 26) rfl)) (C.ts _ (List.mem_of_getElem? (i := 3) rfl)) (by decide +kernel) ⟨(Nat.le_of_ble_eq_true rfl), (Nat.le_of_ble_eq_true rfl)⟩, rfl, C.ts _ (List.mem_of_getElem? (i := 4) rfl)⟩ rfl rfl (Nat.le_of_ble_eq_true rfl) dL_build_4 ⟨(by show _ ≤ 500; omega), (by show _ ≤ 3300; omega)⟩) (fun u hu => ?_)
  obtain ⟨n1, ad1, el1⟩ := u
  obtain ⟨q0, q1, q2, q3⟩ := hu
  dsimp only at q0 q1 q2 q3 ⊢
  subst q0
  refine g_lveq (lv' := [(0, .ref (ad1 0)), (1, .ref (g_b V))]) (by rw [q1 0 (by omega)]) ?_
  refine g_steq (st' := [.ref (ad1 85)]) (by rw [q1 85 (by omega)]) ?_
  have hx1 := (((h.keep (fun j hj => hb5 j hj)).adr (fun j hj => ha3 j hj)).keep (el' := el1) (fun j hj => q3 j hj)).adr (ad' := ad1) (fun j hj => q1 j (by omega))
  have had1 : ∀ j, j < 85 → ad1 j = ad j := fun j hj => (q1 j (by omega)).trans (ha3 j hj)
  refine g_astore_n C (lv' := [(2, .ref (ad1 85)), (0, .ref (ad1 0)), (1, .ref (g_b V))]) dL_build_7 (by decide) rfl ?_
  refine g_iconst C (v := nI 0) dL_build_8 (by decide) ?_
  refine g_istore_n C (lv' := [(3, .int (nI 0)), (2, .ref (ad1 85)), (0, .ref (ad1 0)), (1, .ref (g_b V))]) dL_build_9 (by decide) rfl ?_
  refine g_lv [0, 1, 2, 3] (lv' := [(3, .int (nI 0)), (2, .ref (ad1 85)), (0, .ref (ad1 0)), (1, .ref (g_b V))]) rfl ?_
  refine g_widen (k := 20 + 20 * 0) (j := 100 + 130 * 0) (by omega) (by omega) ?_
  refine g_forI 24 (fun i => 20 + 20 * i) (fun i => 100 + 130 * i) (fun i a => [(3, .int (nI i)), (2, .ref (a 85)), (0, .ref (a 0)), (1, .ref (g_b V))]) (fun i n1 a e => (∀ j, j < 85 → a j = ad j) ∧ ∃ (cnt : Nat) (M St We pl : Nat → Int32) (F T : Nat → Nat → Int32), Inv V n1 a e 97 cnt M St We pl F T) ⟨had1, 0, _, _, _, _, _, _, by omega, by omega, rfl, hx1, q2, ⟨by decide, fun q hq => absurd hq (by omega), fun q _ j _ => rfl, fun q _ => ⟨200, 0, rfl, rfl, by omega, by omega, by omega⟩, fun q hq => absurd hq (by omega)⟩⟩ (fun n1 ad3 el3 h1 => ?_) (fun i n1 ad3 el3 hi h1 ih => ?_)
  · -- end
    refine g_iload_n C 0 rfl dL_build_10 ?_
    refine g_bipush C (v := nI 24) dL_build_11 (by decide) ?_
    refine g_icmp_ge C (tgt := 65) dL_build_13 (by decide) (fun c13 => ?_) (fun c13 => ?_)
    rotate_left
    · exact absurd c13 (by decide)
    refine g_aload_n C 1 rfl dL_build_65 ?_
    exact g_areto C rfl dL_build_66 h1 (by omega) (by omega)
  · -- body
    obtain ⟨had3, cnt, M, St, We, pl, F, T, hI⟩ := h1
    refine g_iload_n C 0 rfl dL_build_10 ?_
    refine g_bipush C (v := nI 24) dL_build_11 (by decide) ?_
    refine g_icmp_ge C (tgt := 65) dL_build_13 (by decide) (fun c13 => ?_) (fun c13 => ?_)
    · -- 65
      have c13 : 24 ≤ i := (nI_leI (by omega) (by omega)).mp c13
      exact absurd c13 (by omega)
    · -- 16
      have c13 : i < 24 := Nat.lt_of_not_le (fun z => c13 ((nI_leI (by omega) (by omega)).mpr z))
      refine g_aload_n C 2 rfl dL_build_16 ?_
      refine g_aload_n C 1 rfl dL_build_17 ?_
      refine g_aload_n C 3 rfl dL_build_18 ?_
      refine g_iload_n C 0 rfl dL_build_19 ?_
      refine g_bipush C (v := nI 12) dL_build_20 (by decide) ?_
      refine g_irem C (v := nI (i % 12)) dL_build_22 (by decide) (pk_rem (by omega) (by omega) (by omega)) ?_
      refine g_calli C (r_S C (st := [.ref (ad3 85), .ref (ad3 0)]) (c_L_cell l V (i % 12) (by omega)) (va_cwS 2 C.ts gL_build_L_cell rfl rfl rfl (by decide +kernel) ⟨(Nat.le_of_ble_eq_true rfl), (Nat.le_of_ble_eq_true rfl)⟩) rfl rfl (Nat.le_of_ble_eq_true rfl) dL_build_23 ⟨(by show _ ≤ 500; omega), (by show _ ≤ 3300; omega)⟩) (fun r u hu => ?_)
      generalize r = x6
      refine g_iload_n C 0 rfl dL_build_26 ?_
      refine g_bipush C (v := nI 12) dL_build_27 (by decide) ?_
      refine g_idiv C (v := nI (i / 12)) dL_build_29 (by decide) (pk_div (by omega) (by omega) (by omega)) ?_
      refine g_iconst C (v := nI 4) dL_build_30 (by decide) ?_
      refine g_imul C (v := nI ((i / 12) * 4)) dL_build_31 (pk_mul _ _) ?_
      refine g_ishr C (v := x6 >>> ((nI ((i / 12) * 4)) &&& 31)) dL_build_32 rfl ?_
      refine g_sipush C (v := nI 167) dL_build_33 (by decide) ?_
      refine g_iload_n C 0 rfl dL_build_36 ?_
      refine g_imul C (v := nI (167 * i)) dL_build_37 (pk_mul _ _) ?_
      refine g_iadd C (v := (x6 >>> ((nI ((i / 12) * 4)) &&& 31)) + (nI (167 * i))) dL_build_38 rfl ?_
      refine g_iload_n C 0 rfl dL_build_39 ?_
      refine g_via (fun v : Int32 => True) 50 (fun _ => [(3, .int (nI i)), (2, .ref (ad3 85)), (0, .ref (ad3 0)), (1, .ref (g_b V))]) (fun v => .int v :: [.int ((x6 >>> ((nI ((i / 12) * 4)) &&& 31)) + (nI (167 * i))), .ref (ad3 85), .ref (ad3 0)]) (fun v hv => ?_) (fun J => ?_)
      · -- join
        refine g_iadd C (v := ((x6 >>> ((nI ((i / 12) * 4)) &&& 31)) + (nI (167 * i))) + v) dL_build_50 rfl ?_
        refine g_calli C (r_S C (st := []) (c_L_act l V hI (((x6 >>> ((nI ((i / 12) * 4)) &&& 31)) + (nI (167 * i))) + v)) (va_cwS 3 C.ts gL_build_L_act rfl rfl rfl (by decide +kernel) ⟨(Nat.le_of_ble_eq_true rfl), (Nat.le_of_ble_eq_true rfl)⟩) rfl rfl (Nat.le_of_ble_eq_true rfl) dL_build_51 ⟨(by show _ ≤ 500; omega), (by show _ ≤ 3300; omega)⟩) (fun r u hu => ?_)
        obtain ⟨n4, ad4, el4⟩ := u
        obtain ⟨hr4, ⟨cnt4, M4, St4, We4, pl4, F4, T4, hI4, hle4, hF4⟩, had4, hel4⟩ := hu
        dsimp only at hr4 hI4 had4 hel4 ⊢
        subst hr4
        refine g_lveq (lv' := [(3, .int (nI i)), (2, .ref (ad4 85)), (0, .ref (ad4 0)), (1, .ref (g_b V))]) (by rw [had4 0 (by omega), had4 85 (by omega)]) ?_
        refine g_if_ne C (tgt := 59) dL_build_54 (by decide) (fun c54 => ?_) (fun c54 => ?_)
        rotate_left
        · exact absurd c54 (by decide)
        refine g_iinc C 0 rfl (v := nI (i + 1)) (lv' := [(3, .int (nI (i + 1))), (2, .ref (ad4 85)), (0, .ref (ad4 0)), (1, .ref (g_b V))]) dL_build_59 (nI_add _ _) (by decide) rfl ?_
        refine g_goto C (tgt := 10) dL_build_62 (by decide) ?_
        refine g_lv [0, 1, 2, 3] (lv' := [(3, .int (nI (i + 1))), (2, .ref (ad4 85)), (0, .ref (ad4 0)), (1, .ref (g_b V))]) rfl ?_
        refine g_widen (k := 20 + 20 * (i + 1)) (j := 100 + 130 * (i + 1)) (by omega) (by omega) ?_
        exact ih n4 ad4 el4 ⟨fun j hj => (had4 j (by omega)).trans (had3 j hj), cnt4, M4, St4, We4, pl4, F4, T4, hI4⟩
      · -- ways
        refine g_if_ne C (tgt := 49) dL_build_40 (by decide) (fun c40 => ?_) (fun c40 => ?_)
        · -- 49
          refine g_iconst C (v := nI 0) dL_build_49 (by decide) ?_
          refine g_lv [0, 1, 2, 3] (lv' := [(3, .int (nI i)), (2, .ref (ad3 85)), (0, .ref (ad3 0)), (1, .ref (g_b V))]) rfl ?_
          exact J _ (trivial)
        · -- 43
          refine g_sipush C (v := nI 1536) dL_build_43 (by decide) ?_
          refine g_goto C (tgt := 50) dL_build_46 (by decide) ?_
          refine g_lv [0, 1, 2, 3] (lv' := [(3, .int (nI i)), (2, .ref (ad3 85)), (0, .ref (ad3 0)), (1, .ref (g_b V))]) rfl ?_
          exact J _ (trivial)
