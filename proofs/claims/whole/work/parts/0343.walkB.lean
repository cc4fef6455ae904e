theorem xm_X12_is : xr_MW yX12_is cX12_is 2 (some .boolean) 1 := ⟨xt_5_207, xt_1_13, by decide, by decide, by decide +kernel⟩
theorem xm_X12_next : xr_MW yX12_next cX12_next 1 none 0 := ⟨xt_5_219, xt_1_13, by decide, by decide, by decide +kernel⟩
set_option maxRecDepth 100000 in
set_option maxHeartbeats 4000000 in
theorem xc_X12_must (l : Launch) (D : va_G) (cy : Nat → ClassId) (q : Nat → Nat) (σ : xw_M) (a1 : Int32) {Z : xw_M → Prop} (hU : xu_X12_must σ a1 Z) : xr_CV l yX12_must cX12_must 2 { frames := 2, cells := 0, slots := 0, locals := 41 } D cy xl_B q σ [.ref (q 0), .int a1] Z := by
  refine xr_CV.of RX12 rfl (by decide) (Nat.le_of_ble_eq_true rfl) (fun p e s m below meth c X hw hr hk ls hl => ?_)
  have hx := X.1
  have hb := X.2.1
  have hl : lv_has ls 2 [(0, .ref (q 0)), (1, .int a1)] := hl
  unfold xu_X12_must at hU
  have hB := hU
  refine lv_aload_n hx hb dX12_must_0 rfl (lv_at hl 0 rfl) ?_
  refine lv_iload_n hx hb dX12_must_1 rfl (lv_at hl 1 rfl) ?_
  refine xr_i hw (xr_runV (As := [.int a1]) (rest := []) X hw 0 (xc_X12_is l D cy q σ a1 hB _) xm_X12_is xt_5_204 xt_5_206 xt_p_33 ⟨Nat.le_of_ble_eq_true rfl, Nat.le_of_ble_eq_true rfl⟩ xl_B_ShowRingsModel_at rfl rfl rfl rfl hl.1 (Nat.le_of_ble_eq_true rfl) dX12_must_2 ⟨Nat.zero_le _, Nat.zero_le _⟩) (fun r2 σ1 H locs hB hw => ?_)
  refine lv_if_eq (tgt := 15) hx hb dX12_must_5 (by decide) (fun hc => ?_) (fun hc => ?_)
  · replace hB := hB.1 hc
    refine lv_aload_n hx hb dX12_must_15 rfl (lv_at hl 0 rfl) ?_
    refine lv_iconst (v := (1 : Int32)) hx hb dX12_must_16 (by decide) ?_
    refine xr_v hw (xr_runV (As := [.int (1 : Int32)]) (rest := []) X hw 0 (xc_X12_fail l D cy q σ1 (1 : Int32) hB _) xm_X12_fail xt_5_212 xt_5_214 xt_p_35 ⟨Nat.le_of_ble_eq_true rfl, Nat.le_of_ble_eq_true rfl⟩ xl_B_ShowRingsModel_at rfl rfl rfl rfl hl.1 (Nat.le_of_ble_eq_true rfl) dX12_must_17 ⟨Nat.zero_le _, Nat.zero_le _⟩) (fun σ3 H locs hB hw => ?_)
    exact xr_vret X hw hr hk hB dX12_must_20
  · replace hB := hB.2 hc
    refine lv_aload_n hx hb dX12_must_8 rfl (lv_at hl 0 rfl) ?_
    refine xr_v hw (xr_runV (As := []) (rest := []) X hw 0 (xc_X12_next l D cy q σ1 hB _) xm_X12_next xt_5_216 xt_5_218 xt_p_36 ⟨Nat.le_of_ble_eq_true rfl, Nat.le_of_ble_eq_true rfl⟩ xl_B_ShowRingsModel_at rfl rfl rfl rfl hl.1 (Nat.le_of_ble_eq_true rfl) dX12_must_9 ⟨Nat.zero_le _, Nat.zero_le _⟩) (fun σ4 H locs hB hw => ?_)
    refine lv_goto (tgt := 20) hx hb dX12_must_12 (by decide) ?_
    exact xr_vret X hw hr hk hB dX12_must_20
theorem xf_X12_83 {p : Program} {s : State} {m : MethodId} {args : Array Value} {c : Code} {cc : ByteArray} {nL : Nat} {D : va_G} {cy : Nat → ClassId} {lay : List xw_E} {q : Nat → Nat} (X : xr_X p s m args c cc nL RX12 D cy lay q) : xr_F args s RX12 83 12 35 := ⟨RX12, TX12, 77, tyX12, rfl, by decide, fun w h => X.2.2.2.2.1 w (xt_inX12 w h), tyX12_ok, nmX12, Or.inl (X.2.2.2.2.1 _ xt_4_207)⟩
theorem xf_X12_272 {p : Program} {s : State} {m : MethodId} {args : Array Value} {c : Code} {cc : ByteArray} {nL : Nat} {D : va_G} {cy : Nat → ClassId} {lay : List xw_E} {q : Nat → Nat} (X : xr_X p s m args c cc nL RX12 D cy lay q) : xr_F args s RX12 272 12 34 := ⟨RX12, TX12, 77, tyX12, rfl, by decide, fun w h => X.2.2.2.2.1 w (xt_inX12 w h), tyX12_ok, nmX12, Or.inl (X.2.2.2.2.1 _ xt_4_206)⟩
theorem xf_X12_86 {p : Program} {s : State} {m : MethodId} {args : Array Value} {c : Code} {cc : ByteArray} {nL : Nat} {D : va_G} {cy : Nat → ClassId} {lay : List xw_E} {q : Nat → Nat} (X : xr_X p s m args c cc nL RX12 D cy lay q) : xr_F args s RX12 86 12 36 := ⟨RX12, TX12, 77, tyX12, rfl, by decide, fun w h => X.2.2.2.2.1 w (xt_inX12 w h), tyX12_ok, nmX12, Or.inl (X.2.2.2.2.1 _ xt_4_208)⟩
theorem xp_X12_272 {p : Program} {s : State} {m : MethodId} {args : Array Value} {c : Code} {cc : ByteArray} {nL : Nat} {D : va_G} {cy : Nat → ClassId} {lay : List xw_E} {q : Nat → Nat} (X : xr_X p s m args c cc nL RX12 D cy lay q) : xr_P args s RX12 272 12 34 := ⟨RX12, TX12, 77, tyX12, rfl, by decide, fun w h => X.2.2.2.2.1 w (xt_inX12 w h), tyX12_ok, nmX12, Or.inl (X.2.2.2.2.1 _ xt_4_206), rfl, by decide +kernel⟩
set_option maxRecDepth 100000 in
set_option maxHeartbeats 4000000 in
theorem xc_X12_emit (l : Launch) (D : va_G) (cy : Nat → ClassId) (q : Nat → Nat) (σ : xw_M) (a1 : Int32) (a2 : Int32) {Z : xw_M → Prop} (hU : xu_X12_emit σ a1 a2 Z) : xr_CV l yX12_emit cX12_emit 3 { frames := 0, cells := 0, slots := 0, locals := 0 } D cy xl_B q σ [.ref (q 0), .int a1, .int a2] Z := by
  refine xr_CV.of RX12 rfl (by decide) (Nat.le_of_ble_eq_true rfl) (fun p e s m below meth c X hw hr hk ls hl => ?_)
  have hx := X.1
  have hb := X.2.1
  have hl : lv_has ls 3 [(0, .ref (q 0)), (1, .int a1), (2, .int a2)] := hl
  unfold xu_X12_emit at hU
  have hB := hU
  refine lv_aload_n hx hb dX12_emit_0 rfl (lv_at hl 0 rfl) ?_
  refine xr_getr X hw (xf_X12_83 X) 0 xl_B_ShowRingsModel_at rfl dX12_emit_1 ?_
  refine lv_aload_n hx hb dX12_emit_4 rfl (lv_at hl 0 rfl) ?_
  refine xr_geti X hw (xf_X12_272 X) 0 xl_B_ShowRingsModel_at rfl dX12_emit_5 ?_
  refine lv_iload_n hx hb dX12_emit_8 rfl (lv_at hl 1 rfl) ?_
  refine xr_iast X hw 22 xl_B_ShowRingsModel_code_at hB.1 dX12_emit_9 hB.2 (fun σ1 H locs hB hw => ?_)
  refine lv_aload_n hx hb dX12_emit_10 rfl (lv_at hl 0 rfl) ?_
  refine xr_getr X hw (xf_X12_86 X) 0 xl_B_ShowRingsModel_at rfl dX12_emit_11 ?_
  refine lv_aload_n hx hb dX12_emit_14 rfl (lv_at hl 0 rfl) ?_
  refine xr_geti X hw (xf_X12_272 X) 0 xl_B_ShowRingsModel_at rfl dX12_emit_15 ?_
  refine lv_iload_n hx hb dX12_emit_18 rfl (lv_at hl 2 rfl) ?_
  refine xr_iast X hw 23 xl_B_ShowRingsModel_codeInt_at hB.1 dX12_emit_19 hB.2 (fun σ2 H locs hB hw => ?_)
  refine lv_aload_n hx hb dX12_emit_20 rfl (lv_at hl 0 rfl) ?_
  refine lv_dup hx hb dX12_emit_21 rfl ?_
  refine xr_geti X hw (xf_X12_272 X) 0 xl_B_ShowRingsModel_at rfl dX12_emit_22 ?_
  refine lv_iconst (v := (1 : Int32)) hx hb dX12_emit_25 (by decide) ?_
  refine lv_iadd hx hb dX12_emit_26 ?_
  refine xr_puti X hw (xp_X12_272 X) 0 xl_B_ShowRingsModel_at rfl dX12_emit_27 hB (fun σ3 H locs hB hw => ?_)
  exact xr_vret X hw hr hk hB dX12_emit_30
theorem xf_X12_292 {p : Program} {s : State} {m : MethodId} {args : Array Value} {c : Code} {cc : ByteArray} {nL : Nat} {D : va_G} {cy : Nat → ClassId} {lay : List xw_E} {q : Nat → Nat} (X : xr_X p s m args c cc nL RX12 D cy lay q) : xr_F args s RX12 292 12 38 := ⟨RX12, TX12, 77, tyX12, rfl, by decide, fun w h => X.2.2.2.2.1 w (xt_inX12 w h), tyX12_ok, nmX12, Or.inl (X.2.2.2.2.1 _ xt_4_210)⟩
theorem xf_X12_89 {p : Program} {s : State} {m : MethodId} {args : Array Value} {c : Code} {cc : ByteArray} {nL : Nat} {D : va_G} {cy : Nat → ClassId} {lay : List xw_E} {q : Nat → Nat} (X : xr_X p s m args c cc nL RX12 D cy lay q) : xr_F args s RX12 89 12 37 := ⟨RX12, TX12, 77, tyX12, rfl, by decide, fun w h => X.2.2.2.2.1 w (xt_inX12 w h), tyX12_ok, nmX12, Or.inl (X.2.2.2.2.1 _ xt_4_209)⟩
theorem xp_X12_292 {p : Program} {s : State} {m : MethodId} {args : Array Value} {c : Code} {cc : ByteArray} {nL : Nat} {D : va_G} {cy : Nat → ClassId} {lay : List xw_E} {q : Nat → Nat} (X : xr_X p s m args c cc nL RX12 D cy lay q) : xr_P args s RX12 292 12 38 := ⟨RX12, TX12, 77, tyX12, rfl, by decide, fun w h => X.2.2.2.2.1 w (xt_inX12 w h), tyX12_ok, nmX12, Or.inl (X.2.2.2.2.1 _ xt_4_210), rfl, by decide +kernel⟩
theorem xm_X12_emit : xr_MW yX12_emit cX12_emit 3 none 2 := ⟨xt_5_235, xt_1_13, by decide, by decide, by decide +kernel⟩
set_option maxRecDepth 100000 in
set_option maxHeartbeats 4000000 in
theorem xc_X12_comesOut (l : Launch) (D : va_G) (cy : Nat → ClassId) (q : Nat → Nat) (σ : xw_M) (a1 : Int32) {Z : xw_M → Prop} (hU : xu_X12_comesOut σ a1 Z) : xr_CV l yX12_comesOut cX12_comesOut 3 { frames := 1, cells := 0, slots := 0, locals := 22 } D cy xl_B q σ [.ref (q 0), .int a1] Z := by
  refine xr_CV.of RX12 rfl (by decide) (Nat.le_of_ble_eq_true rfl) (fun p e s m below meth c X hw hr hk ls hl => ?_)
  have hx := X.1
  have hb := X.2.1
  have hl : lv_has ls 3 [(0, .ref (q 0)), (1, .int a1)] := hl
  have hB := hU (fun (σ : xw_M) => ∀ (H : Heap) (locs : List Loc) (ls : Array Slot), xr_H D cy xl_B q s σ H locs → lv_has ls 3 [(0, .ref (q 0)), (1, .int a1)] → W p l e ({ frames := 1, cells := 0, slots := 0, locals := 22 } : Room) s m ([.ref (q 0), .int a1] : List Value).toArray below meth c H locs 0 0 (MQ below (va_Qv Z (xr_po D cy xl_B q) (xw_A xl_B q s.heap.size)) ([.ref (q 0), .int a1] : List Value).toArray s 0 0 (xw_A xl_B q s.heap.size)) (F0 m 0 ls []))
    (fun (σ : xw_M) => ∀ (H : Heap) (locs : List Loc) (ls : Array Slot), xr_H D cy xl_B q s σ H locs → lv_has ls 3 [(0, .ref (q 0)), (1, .int a1)] → W p l e ({ frames := 1, cells := 0, slots := 0, locals := 22 } : Room) s m ([.ref (q 0), .int a1] : List Value).toArray below meth c H locs 0 0 (MQ below (va_Qv Z (xr_po D cy xl_B q) (xw_A xl_B q s.heap.size)) ([.ref (q 0), .int a1] : List Value).toArray s 0 0 (xw_A xl_B q s.heap.size)) (F0 m 43 ls []))
    (by
    intro σ hB H locs ls hw hl
    unfold xb_X12_comesOut_0 at hB
    refine lv_aload_n hx hb dX12_comesOut_0 rfl (lv_at hl 0 rfl) ?_
    refine xr_geti X hw (xf_X12_292 X) 0 xl_B_ShowRingsModel_at rfl dX12_comesOut_1 ?_
    refine lv_if_le (tgt := 92) hx hb dX12_comesOut_4 (by decide) (fun hc => ?_) (fun hc => ?_)
    · replace hB := hB.1 hc
      exact xr_vret X hw hr hk hB dX12_comesOut_92
    · replace hB := hB.2 hc
      refine lv_aload_n hx hb dX12_comesOut_7 rfl (lv_at hl 0 rfl) ?_
      refine xr_getr X hw (xf_X12_89 X) 0 xl_B_ShowRingsModel_at rfl dX12_comesOut_8 ?_
      refine lv_aload_n hx hb dX12_comesOut_11 rfl (lv_at hl 0 rfl) ?_
      refine xr_geti X hw (xf_X12_292 X) 0 xl_B_ShowRingsModel_at rfl dX12_comesOut_12 ?_
      refine lv_iconst (v := (1 : Int32)) hx hb dX12_comesOut_15 (by decide) ?_
      refine lv_isub hx hb dX12_comesOut_16 ?_
      refine xr_iald X hw 24 xl_B_ShowRingsModel_waits_at hB.1 dX12_comesOut_17 ?_
      replace hB := hB.2
      refine lv_bipush (v := (6 : Int32)) hx hb dX12_comesOut_18 (by decide) ?_
      refine lv_icmp_eq (tgt := 92) hx hb dX12_comesOut_20 (by decide) (fun hc => ?_) (fun hc => ?_)
      · replace hB := hB.1 hc
        exact xr_vret X hw hr hk hB dX12_comesOut_92
      · replace hB := hB.2 hc
        refine lv_iload_n hx hb dX12_comesOut_23 rfl (lv_at hl 1 rfl) ?_
        refine lv_if_eq (tgt := 43) hx hb dX12_comesOut_24 (by decide) (fun hc => ?_) (fun hc => ?_)
        · replace hB := hB.1 hc
          exact hB _ _ _ hw (lv_sub hl [0, 1] rfl)
        · replace hB := hB.2 hc
          refine lv_aload_n hx hb dX12_comesOut_27 rfl (lv_at hl 0 rfl) ?_
          refine xr_getr X hw (xf_X12_89 X) 0 xl_B_ShowRingsModel_at rfl dX12_comesOut_28 ?_
          refine lv_aload_n hx hb dX12_comesOut_31 rfl (lv_at hl 0 rfl) ?_
          refine xr_geti X hw (xf_X12_292 X) 0 xl_B_ShowRingsModel_at rfl dX12_comesOut_32 ?_
          refine lv_iconst (v := (1 : Int32)) hx hb dX12_comesOut_35 (by decide) ?_
          refine lv_isub hx hb dX12_comesOut_36 ?_
          refine xr_iald X hw 24 xl_B_ShowRingsModel_waits_at hB.1 dX12_comesOut_37 ?_
          replace hB := hB.2
          refine lv_bipush (v := (10 : Int32)) hx hb dX12_comesOut_38 (by decide) ?_
          refine lv_icmp_ne (tgt := 92) hx hb dX12_comesOut_40 (by decide) (fun hc => ?_) (fun hc => ?_)
          · replace hB := hB.1 hc
            exact xr_vret X hw hr hk hB dX12_comesOut_92
          · replace hB := hB.2 hc
            exact hB _ _ _ hw (lv_sub hl [0, 1] rfl))
    (by
    intro σ hB H locs ls hw hl
    unfold xb_X12_comesOut_43 at hB
    refine lv_aload_n hx hb dX12_comesOut_43 rfl (lv_at hl 0 rfl) ?_
    refine lv_dup hx hb dX12_comesOut_44 rfl ?_
    refine xr_geti X hw (xf_X12_292 X) 0 xl_B_ShowRingsModel_at rfl dX12_comesOut_45 ?_
    refine lv_iconst (v := (1 : Int32)) hx hb dX12_comesOut_48 (by decide) ?_
    refine lv_isub hx hb dX12_comesOut_49 ?_
    refine xr_puti X hw (xp_X12_292 X) 0 xl_B_ShowRingsModel_at rfl dX12_comesOut_50 hB (fun σ1 H locs hB hw => ?_)
    refine lv_aload_n hx hb dX12_comesOut_53 rfl (lv_at hl 0 rfl) ?_
    refine xr_getr X hw (xf_X12_89 X) 0 xl_B_ShowRingsModel_at rfl dX12_comesOut_54 ?_
    refine lv_aload_n hx hb dX12_comesOut_57 rfl (lv_at hl 0 rfl) ?_
    refine xr_geti X hw (xf_X12_292 X) 0 xl_B_ShowRingsModel_at rfl dX12_comesOut_58 ?_
    refine xr_iald X hw 24 xl_B_ShowRingsModel_waits_at hB.1 dX12_comesOut_61 ?_
    replace hB := hB.2
    refine lv_istore_n (lv' := [(2, .int (σ1.1 24 (Int32.toNatClampNeg (σ1.1 0 38)))), (0, .ref (q 0)), (1, .int a1)]) hx hb dX12_comesOut_62 rfl hl (by decide) rfl (fun ls hl => ?_)
    refine lv_aload_n hx hb dX12_comesOut_63 rfl (lv_at hl 1 rfl) ?_
    refine lv_iload_n hx hb dX12_comesOut_64 rfl (lv_at hl 0 rfl) ?_
    refine lv_bipush (v := (8 : Int32)) hx hb dX12_comesOut_65 (by decide) ?_
    refine lv_icmp_ne (tgt := 74) hx hb dX12_comesOut_67 (by decide) (fun hc => ?_) (fun hc => ?_)
    · replace hB := hB.1 hc
      refine lv_iload_n hx hb dX12_comesOut_74 rfl (lv_at hl 0 rfl) ?_
      refine lv_bipush (v := (9 : Int32)) hx hb dX12_comesOut_75 (by decide) ?_
      refine lv_icmp_ne (tgt := 84) hx hb dX12_comesOut_77 (by decide) (fun hc => ?_) (fun hc => ?_)
      · replace hB := hB.1 hc
        refine lv_iconst (v := (4 : Int32)) hx hb dX12_comesOut_84 (by decide) ?_
        refine lv_iconst (v := (0 : Int32)) hx hb dX12_comesOut_85 (by decide) ?_
        refine xr_v hw (xr_runV (As := [.int (4 : Int32), .int (0 : Int32)]) (rest := []) X hw 0 (xc_X12_emit l D cy q σ1 (4 : Int32) (0 : Int32) hB _) xm_X12_emit xt_5_232 xt_5_234 xt_p_40 ⟨Nat.le_of_ble_eq_true rfl, Nat.le_of_ble_eq_true rfl⟩ xl_B_ShowRingsModel_at rfl rfl rfl rfl hl.1 (Nat.le_of_ble_eq_true rfl) dX12_comesOut_86 ⟨Nat.zero_le _, Nat.zero_le _⟩) (fun σ2 H locs hB hw => ?_)
        refine lv_goto (tgt := 0) hx hb dX12_comesOut_89 (by decide) ?_
        exact hB _ _ _ hw (lv_sub hl [1, 2] rfl)
      · replace hB := hB.2 hc
        refine lv_iconst (v := (3 : Int32)) hx hb dX12_comesOut_80 (by decide) ?_
        refine lv_goto (tgt := 85) hx hb dX12_comesOut_81 (by decide) ?_
        refine lv_iconst (v := (0 : Int32)) hx hb dX12_comesOut_85 (by decide) ?_
        refine xr_v hw (xr_runV (As := [.int (3 : Int32), .int (0 : Int32)]) (rest := []) X hw 0 (xc_X12_emit l D cy q σ1 (3 : Int32) (0 : Int32) hB _) xm_X12_emit xt_5_232 xt_5_234 xt_p_40 ⟨Nat.le_of_ble_eq_true rfl, Nat.le_of_ble_eq_true rfl⟩ xl_B_ShowRingsModel_at rfl rfl rfl rfl hl.1 (Nat.le_of_ble_eq_true rfl) dX12_comesOut_86 ⟨Nat.zero_le _, Nat.zero_le _⟩) (fun σ3 H locs hB hw => ?_)
        refine lv_goto (tgt := 0) hx hb dX12_comesOut_89 (by decide) ?_
        exact hB _ _ _ hw (lv_sub hl [1, 2] rfl)
    · replace hB := hB.2 hc
      refine lv_iconst (v := (2 : Int32)) hx hb dX12_comesOut_70 (by decide) ?_
      refine lv_goto (tgt := 85) hx hb dX12_comesOut_71 (by decide) ?_
      refine lv_iconst (v := (0 : Int32)) hx hb dX12_comesOut_85 (by decide) ?_
      refine xr_v hw (xr_runV (As := [.int (2 : Int32), .int (0 : Int32)]) (rest := []) X hw 0 (xc_X12_emit l D cy q σ1 (2 : Int32) (0 : Int32) hB _) xm_X12_emit xt_5_232 xt_5_234 xt_p_40 ⟨Nat.le_of_ble_eq_true rfl, Nat.le_of_ble_eq_true rfl⟩ xl_B_ShowRingsModel_at rfl rfl rfl rfl hl.1 (Nat.le_of_ble_eq_true rfl) dX12_comesOut_86 ⟨Nat.zero_le _, Nat.zero_le _⟩) (fun σ4 H locs hB hw => ?_)
      refine lv_goto (tgt := 0) hx hb dX12_comesOut_89 (by decide) ?_
      exact hB _ _ _ hw (lv_sub hl [1, 2] rfl))
  unfold xb_X12_comesOut_e at hB
  exact hB _ _ _ hw (lv_sub hl [0, 1] rfl)
