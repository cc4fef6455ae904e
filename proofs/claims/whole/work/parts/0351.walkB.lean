theorem xm_X12_holds : xr_MW yX12_holds cX12_holds 7 (some .boolean) 1 := ⟨xt_6_109, xt_1_13, by decide, by decide, by decide +kernel⟩
set_option maxRecDepth 100000 in
set_option maxHeartbeats 4000000 in
theorem xc_X12_ruleOf (l : Launch) (D : va_G) (cy : Nat → ClassId) (q : Nat → Nat) (σ : xw_M) (a1 : Int32) {Z : Int32 → xw_M → Prop} (hU : xu_X12_ruleOf σ a1 Z) : xr_CI l yX12_ruleOf cX12_ruleOf 3 .int { frames := 2, cells := 0, slots := 0, locals := 52 } D cy xl_B q σ [.ref (q 0), .int a1] Z := by
  refine xr_CI.of RX12 rfl (by decide) (Nat.le_of_ble_eq_true rfl) (fun p e s m below meth c X hw hr hk ls hl => ?_)
  have hx := X.1
  have hb := X.2.1
  have hl : lv_has ls 3 [(0, .ref (q 0)), (1, .int a1)] := hl
  have hB := hU (fun (σ : xw_M) (v2 : Int32) => ∀ (H : Heap) (locs : List Loc) (ls : Array Slot), xr_H D cy xl_B q s σ H locs → lv_has ls 3 [(0, .ref (q 0)), (1, .int a1), (2, .int v2)] → W p l e ({ frames := 2, cells := 0, slots := 0, locals := 52 } : Room) s m ([.ref (q 0), .int a1] : List Value).toArray below meth c H locs 0 0 (MQ below (va_Qi Z (xr_po D cy xl_B q) (xw_A xl_B q s.heap.size)) ([.ref (q 0), .int a1] : List Value).toArray s 0 0 (xw_A xl_B q s.heap.size)) (F0 m 2 ls []))
    (by
    intro σ v2 hB H locs ls hw hl
    unfold xb_X12_ruleOf_2 at hB
    refine lv_iload_n hx hb dX12_ruleOf_2 rfl (lv_at hl 2 rfl) ?_
    refine lv_aload_n hx hb dX12_ruleOf_3 rfl (lv_at hl 0 rfl) ?_
    refine xr_getr X hw (xf_X12_40 X) 0 xl_B_ShowRingsModel_at rfl dX12_ruleOf_4 ?_
    refine lv_aload_n hx hb dX12_ruleOf_7 rfl (lv_at hl 0 rfl) ?_
    refine xr_geti X hw (xf_X12_266 X) 0 xl_B_ShowRingsModel_at rfl dX12_ruleOf_8 ?_
    refine xr_iald X hw 8 xl_B_ShowRingsModel_rules_at hB.1 dX12_ruleOf_11 ?_
    replace hB := hB.2
    refine lv_icmp_ge (tgt := 57) hx hb dX12_ruleOf_12 (by decide) (fun hc => ?_) (fun hc => ?_)
    · replace hB := hB.1 hc
      refine lv_iconst (v := (-1 : Int32)) hx hb dX12_ruleOf_57 (by decide) ?_
      exact xr_iret X hw hr hk hB dX12_ruleOf_58
    · replace hB := hB.2 hc
      refine lv_aload_n hx hb dX12_ruleOf_15 rfl (lv_at hl 0 rfl) ?_
      refine xr_getr X hw (xf_X12_43 X) 0 xl_B_ShowRingsModel_at rfl dX12_ruleOf_16 ?_
      refine lv_bipush (v := (16 : Int32)) hx hb dX12_ruleOf_19 (by decide) ?_
      refine lv_aload_n hx hb dX12_ruleOf_21 rfl (lv_at hl 0 rfl) ?_
      refine xr_geti X hw (xf_X12_266 X) 0 xl_B_ShowRingsModel_at rfl dX12_ruleOf_22 ?_
      refine lv_imul hx hb dX12_ruleOf_25 ?_
      refine lv_iload_n hx hb dX12_ruleOf_26 rfl (lv_at hl 2 rfl) ?_
      refine lv_iadd hx hb dX12_ruleOf_27 ?_
      refine xr_iald X hw 9 xl_B_ShowRingsModel_ruleSort_at hB.1 dX12_ruleOf_28 ?_
      replace hB := hB.2
      refine lv_iload_n hx hb dX12_ruleOf_29 rfl (lv_at hl 1 rfl) ?_
      refine lv_icmp_ne (tgt := 51) hx hb dX12_ruleOf_30 (by decide) (fun hc => ?_) (fun hc => ?_)
      · replace hB := hB.1 hc
        refine lv_iinc (v := (v2 + (1 : Int32))) (lv' := [(2, .int (v2 + (1 : Int32))), (0, .ref (q 0)), (1, .int a1)]) hx hb dX12_ruleOf_51 hl (k := 2) rfl rfl (by decide) rfl (fun ls hl => ?_)
        refine lv_goto (tgt := 2) hx hb dX12_ruleOf_54 (by decide) ?_
        exact hB _ _ _ hw (lv_sub hl [1, 2, 0] rfl)
      · replace hB := hB.2 hc
        refine lv_aload_n hx hb dX12_ruleOf_33 rfl (lv_at hl 0 rfl) ?_
        refine lv_bipush (v := (16 : Int32)) hx hb dX12_ruleOf_34 (by decide) ?_
        refine lv_aload_n hx hb dX12_ruleOf_36 rfl (lv_at hl 0 rfl) ?_
        refine xr_geti X hw (xf_X12_266 X) 0 xl_B_ShowRingsModel_at rfl dX12_ruleOf_37 ?_
        refine lv_imul hx hb dX12_ruleOf_40 ?_
        refine lv_iload_n hx hb dX12_ruleOf_41 rfl (lv_at hl 2 rfl) ?_
        refine lv_iadd hx hb dX12_ruleOf_42 ?_
        refine xr_i hw (xr_runV (As := [.int (((16 : Int32) * (σ.1 0 18)) + v2)]) (rest := []) X hw 0 (xc_X12_holds l D cy q σ (((16 : Int32) * (σ.1 0 18)) + v2) hB _) xm_X12_holds xt_6_106 xt_6_108 xt_p_55 ⟨Nat.le_of_ble_eq_true rfl, Nat.le_of_ble_eq_true rfl⟩ xl_B_ShowRingsModel_at rfl rfl rfl rfl hl.1 (Nat.le_of_ble_eq_true rfl) dX12_ruleOf_43 ⟨Nat.zero_le _, Nat.zero_le _⟩) (fun r2 σ1 H locs hB hw => ?_)
        refine lv_if_eq (tgt := 51) hx hb dX12_ruleOf_46 (by decide) (fun hc => ?_) (fun hc => ?_)
        · replace hB := hB.1 hc
          refine lv_iinc (v := (v2 + (1 : Int32))) (lv' := [(2, .int (v2 + (1 : Int32))), (0, .ref (q 0)), (1, .int a1)]) hx hb dX12_ruleOf_51 hl (k := 2) rfl rfl (by decide) rfl (fun ls hl => ?_)
          refine lv_goto (tgt := 2) hx hb dX12_ruleOf_54 (by decide) ?_
          exact hB _ _ _ hw (lv_sub hl [1, 2, 0] rfl)
        · replace hB := hB.2 hc
          refine lv_iload_n hx hb dX12_ruleOf_49 rfl (lv_at hl 2 rfl) ?_
          exact xr_iret X hw hr hk hB dX12_ruleOf_50)
  unfold xb_X12_ruleOf_e at hB
  refine lv_iconst (v := (0 : Int32)) hx hb dX12_ruleOf_0 (by decide) ?_
  refine lv_istore_n (lv' := [(2, .int (0 : Int32)), (0, .ref (q 0)), (1, .int a1)]) hx hb dX12_ruleOf_1 rfl hl (by decide) rfl (fun ls hl => ?_)
  exact hB _ _ _ hw (lv_sub hl [1, 2, 0] rfl)
set_option maxRecDepth 100000 in
set_option maxHeartbeats 4000000 in
theorem xc_X12_asks (l : Launch) (D : va_G) (cy : Nat → ClassId) (q : Nat → Nat) (σ : xw_M) (a1 : Int32) (a2 : Int32) {Z : xw_M → Prop} (hU : xu_X12_asks σ a1 a2 Z) : xr_CV l yX12_asks cX12_asks 4 { frames := 0, cells := 0, slots := 0, locals := 0 } D cy xl_B q σ [.ref (q 0), .int a1, .int a2] Z := by
  refine xr_CV.of RX12 rfl (by decide) (Nat.le_of_ble_eq_true rfl) (fun p e s m below meth c X hw hr hk ls hl => ?_)
  have hx := X.1
  have hb := X.2.1
  have hl : lv_has ls 4 [(0, .ref (q 0)), (1, .int a1), (2, .int a2)] := hl
  have hB := hU (fun (σ : xw_M) (v3 : Int32) => ∀ (H : Heap) (locs : List Loc) (ls : Array Slot), xr_H D cy xl_B q s σ H locs → lv_has ls 4 [(0, .ref (q 0)), (1, .int a1), (2, .int a2), (3, .int v3)] → W p l e ({ frames := 0, cells := 0, slots := 0, locals := 0 } : Room) s m ([.ref (q 0), .int a1, .int a2] : List Value).toArray below meth c H locs 0 0 (MQ below (va_Qv Z (xr_po D cy xl_B q) (xw_A xl_B q s.heap.size)) ([.ref (q 0), .int a1, .int a2] : List Value).toArray s 0 0 (xw_A xl_B q s.heap.size)) (F0 m 2 ls []))
    (fun (σ : xw_M) (s0 : Int32) (s1 : Int32) => ∀ (H : Heap) (locs : List Loc) (ls : Array Slot), xr_H D cy xl_B q s σ H locs → lv_has ls 4 [(0, .ref (q 0)), (2, .int a2)] → W p l e ({ frames := 0, cells := 0, slots := 0, locals := 0 } : Room) s m ([.ref (q 0), .int a1, .int a2] : List Value).toArray below meth c H locs 0 0 (MQ below (va_Qv Z (xr_po D cy xl_B q) (xw_A xl_B q s.heap.size)) ([.ref (q 0), .int a1, .int a2] : List Value).toArray s 0 0 (xw_A xl_B q s.heap.size)) (F0 m 58 ls [.int s1, .int s0, .ref (q 42)]))
    (by
    intro σ v3 hB H locs ls hw hl
    unfold xb_X12_asks_2 at hB
    refine lv_iload_n hx hb dX12_asks_2 rfl (lv_at hl 3 rfl) ?_
    refine lv_bipush (v := (9 : Int32)) hx hb dX12_asks_3 (by decide) ?_
    refine lv_icmp_ge (tgt := 21) hx hb dX12_asks_5 (by decide) (fun hc => ?_) (fun hc => ?_)
    · replace hB := hB.1 hc
      refine lv_aload_n hx hb dX12_asks_21 rfl (lv_at hl 0 rfl) ?_
      refine xr_getr X hw (xf_X12_143 X) 0 xl_B_ShowRingsModel_at rfl dX12_asks_22 ?_
      refine lv_iconst (v := (0 : Int32)) hx hb dX12_asks_25 (by decide) ?_
      refine lv_aload_n hx hb dX12_asks_26 rfl (lv_at hl 0 rfl) ?_
      refine xr_getr X hw (xf_X12_125 X) 0 xl_B_ShowRingsModel_at rfl dX12_asks_27 ?_
      refine lv_iload_n hx hb dX12_asks_30 rfl (lv_at hl 1 rfl) ?_
      refine xr_iald X hw 36 xl_B_ShowRingsModel_day_at hB.1 dX12_asks_31 ?_
      replace hB := hB.2
      refine lv_aload_n hx hb dX12_asks_32 rfl (lv_at hl 0 rfl) ?_
      refine xr_getr X hw (xf_X12_113 X) 0 xl_B_ShowRingsModel_at rfl dX12_asks_33 ?_
      refine lv_iload_n hx hb dX12_asks_36 rfl (lv_at hl 2 rfl) ?_
      refine xr_iald X hw 32 xl_B_ShowRingsModel_birth_at hB.1 dX12_asks_37 ?_
      replace hB := hB.2
      refine lv_icmp_le (tgt := 57) hx hb dX12_asks_38 (by decide) (fun hc => ?_) (fun hc => ?_)
      · replace hB := hB.1 hc
        refine lv_iconst (v := (0 : Int32)) hx hb dX12_asks_57 (by decide) ?_
        exact hB _ _ _ hw (lv_sub hl [0, 2] rfl)
      · replace hB := hB.2 hc
        refine lv_aload_n hx hb dX12_asks_41 rfl (lv_at hl 0 rfl) ?_
        refine xr_getr X hw (xf_X12_125 X) 0 xl_B_ShowRingsModel_at rfl dX12_asks_42 ?_
        refine lv_iload_n hx hb dX12_asks_45 rfl (lv_at hl 1 rfl) ?_
        refine xr_iald X hw 36 xl_B_ShowRingsModel_day_at hB.1 dX12_asks_46 ?_
        replace hB := hB.2
        refine lv_aload_n hx hb dX12_asks_47 rfl (lv_at hl 0 rfl) ?_
        refine xr_getr X hw (xf_X12_113 X) 0 xl_B_ShowRingsModel_at rfl dX12_asks_48 ?_
        refine lv_iload_n hx hb dX12_asks_51 rfl (lv_at hl 2 rfl) ?_
        refine xr_iald X hw 32 xl_B_ShowRingsModel_birth_at hB.1 dX12_asks_52 ?_
        replace hB := hB.2
        refine lv_isub hx hb dX12_asks_53 ?_
        refine lv_goto (tgt := 58) hx hb dX12_asks_54 (by decide) ?_
        exact hB _ _ _ hw (lv_sub hl [0, 2] rfl)
    · replace hB := hB.2 hc
      refine lv_aload_n hx hb dX12_asks_8 rfl (lv_at hl 0 rfl) ?_
      refine xr_getr X hw (xf_X12_143 X) 0 xl_B_ShowRingsModel_at rfl dX12_asks_9 ?_
      refine lv_iload_n hx hb dX12_asks_12 rfl (lv_at hl 3 rfl) ?_
      refine lv_iconst (v := (0 : Int32)) hx hb dX12_asks_13 (by decide) ?_
      refine xr_iast X hw 42 xl_B_ShowRingsModel_variables_at hB.1 dX12_asks_14 hB.2 (fun σ1 H locs hB hw => ?_)
      refine lv_iinc (v := (v3 + (1 : Int32))) (lv' := [(3, .int (v3 + (1 : Int32))), (0, .ref (q 0)), (1, .int a1), (2, .int a2)]) hx hb dX12_asks_15 hl (k := 3) rfl rfl (by decide) rfl (fun ls hl => ?_)
      refine lv_goto (tgt := 2) hx hb dX12_asks_18 (by decide) ?_
      exact hB _ _ _ hw (lv_sub hl [1, 2, 3, 0] rfl))
    (by
    intro σ s0 s1 hB H locs ls hw hl
    unfold xb_X12_asks_58 at hB
    refine xr_iast X hw 42 xl_B_ShowRingsModel_variables_at hB.1 dX12_asks_58 hB.2 (fun σ2 H locs hB hw => ?_)
    refine lv_aload_n hx hb dX12_asks_59 rfl (lv_at hl 0 rfl) ?_
    refine xr_getr X hw (xf_X12_143 X) 0 xl_B_ShowRingsModel_at rfl dX12_asks_60 ?_
    refine lv_iconst (v := (1 : Int32)) hx hb dX12_asks_63 (by decide) ?_
    refine lv_aload_n hx hb dX12_asks_64 rfl (lv_at hl 0 rfl) ?_
    refine xr_getr X hw (xf_X12_116 X) 0 xl_B_ShowRingsModel_at rfl dX12_asks_65 ?_
    refine lv_iload_n hx hb dX12_asks_68 rfl (lv_at hl 1 rfl) ?_
    refine xr_iald X hw 33 xl_B_ShowRingsModel_sex_at hB.1 dX12_asks_69 ?_
    replace hB := hB.2
    refine xr_iast X hw 42 xl_B_ShowRingsModel_variables_at hB.1 dX12_asks_70 hB.2 (fun σ3 H locs hB hw => ?_)
    refine lv_aload_n hx hb dX12_asks_71 rfl (lv_at hl 0 rfl) ?_
    refine xr_getr X hw (xf_X12_143 X) 0 xl_B_ShowRingsModel_at rfl dX12_asks_72 ?_
    refine lv_iconst (v := (2 : Int32)) hx hb dX12_asks_75 (by decide) ?_
    refine lv_aload_n hx hb dX12_asks_76 rfl (lv_at hl 0 rfl) ?_
    refine xr_getr X hw (xf_X12_110 X) 0 xl_B_ShowRingsModel_at rfl dX12_asks_77 ?_
    refine lv_iload_n hx hb dX12_asks_80 rfl (lv_at hl 1 rfl) ?_
    refine xr_iald X hw 31 xl_B_ShowRingsModel_breedOf_at hB.1 dX12_asks_81 ?_
    replace hB := hB.2
    refine xr_iast X hw 42 xl_B_ShowRingsModel_variables_at hB.1 dX12_asks_82 hB.2 (fun σ4 H locs hB hw => ?_)
    refine lv_aload_n hx hb dX12_asks_83 rfl (lv_at hl 0 rfl) ?_
    refine xr_getr X hw (xf_X12_143 X) 0 xl_B_ShowRingsModel_at rfl dX12_asks_84 ?_
    refine lv_iconst (v := (3 : Int32)) hx hb dX12_asks_87 (by decide) ?_
    refine lv_aload_n hx hb dX12_asks_88 rfl (lv_at hl 0 rfl) ?_
    refine xr_getr X hw (xf_X12_98 X) 0 xl_B_ShowRingsModel_at rfl dX12_asks_89 ?_
    refine lv_aload_n hx hb dX12_asks_92 rfl (lv_at hl 0 rfl) ?_
    refine xr_getr X hw (xf_X12_110 X) 0 xl_B_ShowRingsModel_at rfl dX12_asks_93 ?_
    refine lv_iload_n hx hb dX12_asks_96 rfl (lv_at hl 1 rfl) ?_
    refine xr_iald X hw 31 xl_B_ShowRingsModel_breedOf_at hB.1 dX12_asks_97 ?_
    replace hB := hB.2
    refine xr_iald X hw 27 xl_B_ShowRingsModel_group_at hB.1 dX12_asks_98 ?_
    replace hB := hB.2
    refine xr_iast X hw 42 xl_B_ShowRingsModel_variables_at hB.1 dX12_asks_99 hB.2 (fun σ5 H locs hB hw => ?_)
    exact xr_vret X hw hr hk hB dX12_asks_100)
  unfold xb_X12_asks_e at hB
  refine lv_iconst (v := (0 : Int32)) hx hb dX12_asks_0 (by decide) ?_
  refine lv_istore_n (lv' := [(3, .int (0 : Int32)), (0, .ref (q 0)), (1, .int a1), (2, .int a2)]) hx hb dX12_asks_1 rfl hl (by decide) rfl (fun ls hl => ?_)
  exact hB _ _ _ hw (lv_sub hl [1, 2, 3, 0] rfl)
theorem xm_X12_asks : xr_MW yX12_asks cX12_asks 4 none 2 := ⟨xt_6_101, xt_1_13, by decide, by decide, by decide +kernel⟩
theorem xm_X12_ruleOf : xr_MW yX12_ruleOf cX12_ruleOf 3 (some .int) 1 := ⟨xt_6_105, xt_1_13, by decide, by decide, by decide +kernel⟩
set_option maxRecDepth 100000 in
set_option maxHeartbeats 4000000 in
theorem xc_X12_classOf (l : Launch) (D : va_G) (cy : Nat → ClassId) (q : Nat → Nat) (σ : xw_M) (a1 : Int32) (a2 : Int32) {Z : Int32 → xw_M → Prop} (hU : xu_X12_classOf σ a1 a2 Z) : xr_CI l yX12_classOf cX12_classOf 4 .int { frames := 3, cells := 0, slots := 0, locals := 74 } D cy xl_B q σ [.ref (q 0), .int a1, .int a2] Z := by
  refine xr_CI.of RX12 rfl (by decide) (Nat.le_of_ble_eq_true rfl) (fun p e s m below meth c X hw hr hk ls hl => ?_)
  have hx := X.1
  have hb := X.2.1
  have hl : lv_has ls 4 [(0, .ref (q 0)), (1, .int a1), (2, .int a2)] := hl
  unfold xu_X12_classOf at hU
  have hB := hU
  refine lv_aload_n hx hb dX12_classOf_0 rfl (lv_at hl 0 rfl) ?_
  refine lv_iload_n hx hb dX12_classOf_1 rfl (lv_at hl 1 rfl) ?_
  refine lv_iload_n hx hb dX12_classOf_2 rfl (lv_at hl 2 rfl) ?_
  refine xr_v hw (xr_runV (As := [.int a1, .int a2]) (rest := []) X hw 0 (xc_X12_asks l D cy q σ a1 a2 hB _) xm_X12_asks xt_6_98 xt_6_100 xt_p_53 ⟨Nat.le_of_ble_eq_true rfl, Nat.le_of_ble_eq_true rfl⟩ xl_B_ShowRingsModel_at rfl rfl rfl rfl hl.1 (Nat.le_of_ble_eq_true rfl) dX12_classOf_3 ⟨Nat.zero_le _, Nat.zero_le _⟩) (fun σ1 H locs hB hw => ?_)
  refine lv_aload_n hx hb dX12_classOf_6 rfl (lv_at hl 0 rfl) ?_
  refine lv_iconst (v := (1 : Int32)) hx hb dX12_classOf_7 (by decide) ?_
  refine xr_i hw (xr_runV (As := [.int (1 : Int32)]) (rest := []) X hw 0 (xc_X12_ruleOf l D cy q σ1 (1 : Int32) hB _) xm_X12_ruleOf xt_6_102 xt_6_104 xt_p_54 ⟨Nat.le_of_ble_eq_true rfl, Nat.le_of_ble_eq_true rfl⟩ xl_B_ShowRingsModel_at rfl rfl rfl rfl hl.1 (Nat.le_of_ble_eq_true rfl) dX12_classOf_8 ⟨Nat.zero_le _, Nat.zero_le _⟩) (fun r3 σ2 H locs hB hw => ?_)
  refine lv_istore_n (lv' := [(3, .int r3), (0, .ref (q 0)), (1, .int a1), (2, .int a2)]) hx hb dX12_classOf_11 rfl hl (by decide) rfl (fun ls hl => ?_)
  refine lv_iload_n hx hb dX12_classOf_12 rfl (lv_at hl 0 rfl) ?_
  refine lv_iconst (v := (-1 : Int32)) hx hb dX12_classOf_13 (by decide) ?_
  refine lv_icmp_ne (tgt := 21) hx hb dX12_classOf_14 (by decide) (fun hc => ?_) (fun hc => ?_)
  · replace hB := hB.1 hc
    refine lv_aload_n hx hb dX12_classOf_21 rfl (lv_at hl 1 rfl) ?_
    refine xr_getr X hw (xf_X12_46 X) 0 xl_B_ShowRingsModel_at rfl dX12_classOf_22 ?_
    refine lv_bipush (v := (16 : Int32)) hx hb dX12_classOf_25 (by decide) ?_
    refine lv_aload_n hx hb dX12_classOf_27 rfl (lv_at hl 1 rfl) ?_
    refine xr_geti X hw (xf_X12_266 X) 0 xl_B_ShowRingsModel_at rfl dX12_classOf_28 ?_
    refine lv_imul hx hb dX12_classOf_31 ?_
    refine lv_iload_n hx hb dX12_classOf_32 rfl (lv_at hl 0 rfl) ?_
    refine lv_iadd hx hb dX12_classOf_33 ?_
    refine xr_iald X hw 10 xl_B_ShowRingsModel_ruleInt_at hB.1 dX12_classOf_34 ?_
    replace hB := hB.2
    exact xr_iret X hw hr hk hB dX12_classOf_35
  · replace hB := hB.2 hc
    refine lv_iconst (v := (-1 : Int32)) hx hb dX12_classOf_17 (by decide) ?_
    refine lv_goto (tgt := 35) hx hb dX12_classOf_18 (by decide) ?_
    exact xr_iret X hw hr hk hB dX12_classOf_35
theorem xm_X12_classOf : xr_MW yX12_classOf cX12_classOf 4 (some .int) 2 := ⟨xt_6_97, xt_1_13, by decide, by decide, by decide +kernel⟩
set_option maxRecDepth 100000 in
set_option maxHeartbeats 4000000 in
theorem xc_X12_barOf (l : Launch) (D : va_G) (cy : Nat → ClassId) (q : Nat → Nat) (σ : xw_M) (a1 : Int32) (a2 : Int32) (a3 : Int32) (a4 : Int32) {Z : Int32 → xw_M → Prop} (hU : xu_X12_barOf σ a1 a2 a3 a4 Z) : xr_CI l yX12_barOf cX12_barOf 7 .int { frames := 4, cells := 0, slots := 0, locals := 97 } D cy xl_B q σ [.ref (q 0), .int a1, .int a2, .int a3, .int a4] Z := by
  refine xr_CI.of RX12 rfl (by decide) (Nat.le_of_ble_eq_true rfl) (fun p e s m below meth c X hw hr hk ls hl => ?_)
  have hx := X.1
  have hb := X.2.1
  have hl : lv_has ls 7 [(0, .ref (q 0)), (1, .int a1), (2, .int a2), (3, .int a3), (4, .int a4)] := hl
  have hB := hU (fun (σ : xw_M) (s0 : Int32) (s1 : Int32) (v6 : Int32) => ∀ (H : Heap) (locs : List Loc) (ls : Array Slot), xr_H D cy xl_B q s σ H locs → lv_has ls 7 [(0, .ref (q 0)), (1, .int a1), (2, .int a2), (3, .int a3), (4, .int a4), (6, .int v6)] → W p l e ({ frames := 4, cells := 0, slots := 0, locals := 97 } : Room) s m ([.ref (q 0), .int a1, .int a2, .int a3, .int a4] : List Value).toArray below meth c H locs 0 0 (MQ below (va_Qi Z (xr_po D cy xl_B q) (xw_A xl_B q s.heap.size)) ([.ref (q 0), .int a1, .int a2, .int a3, .int a4] : List Value).toArray s 0 0 (xw_A xl_B q s.heap.size)) (F0 m 53 ls [.int s1, .int s0, .ref (q 42)]))
    (fun (σ : xw_M) (s0 : Int32) (s1 : Int32) => ∀ (H : Heap) (locs : List Loc) (ls : Array Slot), xr_H D cy xl_B q s σ H locs → lv_has ls 7 [(0, .ref (q 0)), (1, .int a1), (2, .int a2), (3, .int a3), (4, .int a4)] → W p l e ({ frames := 4, cells := 0, slots := 0, locals := 97 } : Room) s m ([.ref (q 0), .int a1, .int a2, .int a3, .int a4] : List Value).toArray below meth c H locs 0 0 (MQ below (va_Qi Z (xr_po D cy xl_B q) (xw_A xl_B q s.heap.size)) ([.ref (q 0), .int a1, .int a2, .int a3, .int a4] : List Value).toArray s 0 0 (xw_A xl_B q s.heap.size)) (F0 m 80 ls [.int s1, .int s0, .ref (q 42)]))
    (by
    intro σ s0 s1 v6 hB H locs ls hw hl
    unfold xb_X12_barOf_53 at hB
    refine xr_iast X hw 42 xl_B_ShowRingsModel_variables_at hB.1 dX12_barOf_53 hB.2 (fun σ7 H locs hB hw => ?_)
    refine lv_aload_n hx hb dX12_barOf_54 rfl (lv_at hl 0 rfl) ?_
    refine xr_getr X hw (xf_X12_143 X) 0 xl_B_ShowRingsModel_at rfl dX12_barOf_55 ?_
    refine lv_bipush (v := (6 : Int32)) hx hb dX12_barOf_58 (by decide) ?_
    refine lv_aload_n hx hb dX12_barOf_60 rfl (lv_at hl 0 rfl) ?_
    refine xr_getr X hw (xf_X12_92 X) 0 xl_B_ShowRingsModel_at rfl dX12_barOf_61 ?_
    refine lv_bipush (v := (12 : Int32)) hx hb dX12_barOf_64 (by decide) ?_
    refine lv_iload hx hb dX12_barOf_66 (lv_at hl 5 rfl) ?_
    refine lv_imul hx hb dX12_barOf_68 ?_
    refine lv_iload_n hx hb dX12_barOf_69 rfl (lv_at hl 1 rfl) ?_
    refine lv_iadd hx hb dX12_barOf_70 ?_
    refine xr_zald X hw 25 xl_B_ShowRingsModel_areKin_at hB.1 dX12_barOf_71 ?_
    replace hB := hB.2
    refine lv_if_eq (tgt := 79) hx hb dX12_barOf_72 (by decide) (fun hc => ?_) (fun hc => ?_)
    · replace hB := hB.1 hc
      refine lv_iconst (v := (0 : Int32)) hx hb dX12_barOf_79 (by decide) ?_
      exact hB _ _ _ hw (lv_sub hl [0, 1, 2, 3, 4] rfl)
    · replace hB := hB.2 hc
      refine lv_iconst (v := (1 : Int32)) hx hb dX12_barOf_75 (by decide) ?_
      refine lv_goto (tgt := 80) hx hb dX12_barOf_76 (by decide) ?_
      exact hB _ _ _ hw (lv_sub hl [0, 1, 2, 3, 4] rfl))
    (by
    intro σ s0 s1 hB H locs ls hw hl
    unfold xb_X12_barOf_80 at hB
    refine xr_iast X hw 42 xl_B_ShowRingsModel_variables_at hB.1 dX12_barOf_80 hB.2 (fun σ8 H locs hB hw => ?_)
    refine lv_aload_n hx hb dX12_barOf_81 rfl (lv_at hl 0 rfl) ?_
    refine xr_getr X hw (xf_X12_143 X) 0 xl_B_ShowRingsModel_at rfl dX12_barOf_82 ?_
    refine lv_bipush (v := (7 : Int32)) hx hb dX12_barOf_85 (by decide) ?_
    refine lv_aload_n hx hb dX12_barOf_87 rfl (lv_at hl 0 rfl) ?_
    refine lv_iload_n hx hb dX12_barOf_88 rfl (lv_at hl 1 rfl) ?_
    refine lv_iload_n hx hb dX12_barOf_89 rfl (lv_at hl 3 rfl) ?_
    refine lv_aload_n hx hb dX12_barOf_90 rfl (lv_at hl 0 rfl) ?_
    refine xr_getr X hw (xf_X12_125 X) 0 xl_B_ShowRingsModel_at rfl dX12_barOf_91 ?_
    refine lv_iload_n hx hb dX12_barOf_94 rfl (lv_at hl 2 rfl) ?_
    refine xr_iald X hw 36 xl_B_ShowRingsModel_day_at hB.1 dX12_barOf_95 ?_
    replace hB := hB.2
    refine lv_iload hx hb dX12_barOf_96 (lv_at hl 4 rfl) ?_
    refine xr_i hw (xr_runV (As := [.int a1, .int a3, .int (σ8.1 36 (Int32.toNatClampNeg a2)), .int a4]) (rest := [.int (7 : Int32), .ref (q 42)]) X hw 0 (xc_X12_partedOf l D cy q σ8 a1 a3 (σ8.1 36 (Int32.toNatClampNeg a2)) a4 hB _) xm_X12_partedOf xt_6_82 xt_6_84 xt_p_50 ⟨Nat.le_of_ble_eq_true rfl, Nat.le_of_ble_eq_true rfl⟩ xl_B_ShowRingsModel_at rfl rfl rfl rfl hl.1 (Nat.le_of_ble_eq_true rfl) dX12_barOf_98 ⟨Nat.zero_le _, Nat.zero_le _⟩) (fun r10 σ9 H locs hB hw => ?_)
    refine xr_iast X hw 42 xl_B_ShowRingsModel_variables_at hB.1 dX12_barOf_101 hB.2 (fun σ11 H locs hB hw => ?_)
    refine lv_aload_n hx hb dX12_barOf_102 rfl (lv_at hl 0 rfl) ?_
    refine lv_iconst (v := (0 : Int32)) hx hb dX12_barOf_103 (by decide) ?_
    refine xr_i hw (xr_runV (As := [.int (0 : Int32)]) (rest := []) X hw 0 (xc_X12_ruleOf l D cy q σ11 (0 : Int32) hB _) xm_X12_ruleOf xt_6_102 xt_6_104 xt_p_54 ⟨Nat.le_of_ble_eq_true rfl, Nat.le_of_ble_eq_true rfl⟩ xl_B_ShowRingsModel_at rfl rfl rfl rfl hl.1 (Nat.le_of_ble_eq_true rfl) dX12_barOf_104 ⟨Nat.zero_le _, Nat.zero_le _⟩) (fun r13 σ12 H locs hB hw => ?_)
    exact xr_iret X hw hr hk hB dX12_barOf_107)
  unfold xb_X12_barOf_e at hB
  refine lv_aload_n hx hb dX12_barOf_0 rfl (lv_at hl 0 rfl) ?_
  refine lv_iload_n hx hb dX12_barOf_1 rfl (lv_at hl 2 rfl) ?_
  refine lv_iload_n hx hb dX12_barOf_2 rfl (lv_at hl 3 rfl) ?_
  refine xr_i hw (xr_runV (As := [.int a2, .int a3]) (rest := []) X hw 0 (xc_X12_classOf l D cy q σ a2 a3 hB _) xm_X12_classOf xt_6_94 xt_6_96 xt_p_52 ⟨Nat.le_of_ble_eq_true rfl, Nat.le_of_ble_eq_true rfl⟩ xl_B_ShowRingsModel_at rfl rfl rfl rfl hl.1 (Nat.le_of_ble_eq_true rfl) dX12_barOf_3 ⟨Nat.zero_le _, Nat.zero_le _⟩) (fun r2 σ1 H locs hB hw => ?_)
  refine lv_istore (lv' := [(5, .int r2), (0, .ref (q 0)), (1, .int a1), (2, .int a2), (3, .int a3), (4, .int a4)]) hx hb dX12_barOf_6 hl (by decide) rfl (fun ls hl => ?_)
  refine lv_aload_n hx hb dX12_barOf_8 rfl (lv_at hl 1 rfl) ?_
  refine lv_iload_n hx hb dX12_barOf_9 rfl (lv_at hl 3 rfl) ?_
  refine lv_iload_n hx hb dX12_barOf_10 rfl (lv_at hl 4 rfl) ?_
  refine xr_v hw (xr_runV (As := [.int a2, .int a3]) (rest := []) X hw 0 (xc_X12_asks l D cy q σ1 a2 a3 hB _) xm_X12_asks xt_6_98 xt_6_100 xt_p_53 ⟨Nat.le_of_ble_eq_true rfl, Nat.le_of_ble_eq_true rfl⟩ xl_B_ShowRingsModel_at rfl rfl rfl rfl hl.1 (Nat.le_of_ble_eq_true rfl) dX12_barOf_11 ⟨Nat.zero_le _, Nat.zero_le _⟩) (fun σ3 H locs hB hw => ?_)
  refine lv_aload_n hx hb dX12_barOf_14 rfl (lv_at hl 1 rfl) ?_
  refine lv_iload_n hx hb dX12_barOf_15 rfl (lv_at hl 4 rfl) ?_
  refine lv_aload_n hx hb dX12_barOf_16 rfl (lv_at hl 1 rfl) ?_
  refine xr_getr X hw (xf_X12_125 X) 0 xl_B_ShowRingsModel_at rfl dX12_barOf_17 ?_
  refine lv_iload_n hx hb dX12_barOf_20 rfl (lv_at hl 3 rfl) ?_
  refine xr_iald X hw 36 xl_B_ShowRingsModel_day_at hB.1 dX12_barOf_21 ?_
  replace hB := hB.2
  refine lv_iload hx hb dX12_barOf_22 (lv_at hl 5 rfl) ?_
  refine xr_i hw (xr_runV (As := [.int a3, .int (σ3.1 36 (Int32.toNatClampNeg a2)), .int a4]) (rest := []) X hw 0 (xc_X12_ownerOf l D cy q σ3 a3 (σ3.1 36 (Int32.toNatClampNeg a2)) a4 hB _) xm_X12_ownerOf xt_6_70 xt_6_72 xt_p_48 ⟨Nat.le_of_ble_eq_true rfl, Nat.le_of_ble_eq_true rfl⟩ xl_B_ShowRingsModel_at rfl rfl rfl rfl hl.1 (Nat.le_of_ble_eq_true rfl) dX12_barOf_24 ⟨Nat.zero_le _, Nat.zero_le _⟩) (fun r5 σ4 H locs hB hw => ?_)
  refine lv_istore (lv' := [(6, .int r5), (5, .int r2), (0, .ref (q 0)), (1, .int a1), (2, .int a2), (3, .int a3), (4, .int a4)]) hx hb dX12_barOf_27 hl (by decide) rfl (fun ls hl => ?_)
  refine lv_aload_n hx hb dX12_barOf_29 rfl (lv_at hl 2 rfl) ?_
  refine xr_getr X hw (xf_X12_143 X) 0 xl_B_ShowRingsModel_at rfl dX12_barOf_30 ?_
  refine lv_iconst (v := (4 : Int32)) hx hb dX12_barOf_33 (by decide) ?_
  refine lv_iload hx hb dX12_barOf_34 (lv_at hl 1 rfl) ?_
  refine xr_iast X hw 42 xl_B_ShowRingsModel_variables_at hB.1 dX12_barOf_36 hB.2 (fun σ6 H locs hB hw => ?_)
  refine lv_aload_n hx hb dX12_barOf_37 rfl (lv_at hl 2 rfl) ?_
  refine xr_getr X hw (xf_X12_143 X) 0 xl_B_ShowRingsModel_at rfl dX12_barOf_38 ?_
  refine lv_iconst (v := (5 : Int32)) hx hb dX12_barOf_41 (by decide) ?_
  refine lv_iload hx hb dX12_barOf_42 (lv_at hl 0 rfl) ?_
  refine lv_iload_n hx hb dX12_barOf_44 rfl (lv_at hl 3 rfl) ?_
  refine lv_icmp_ne (tgt := 52) hx hb dX12_barOf_45 (by decide) (fun hc => ?_) (fun hc => ?_)
  · replace hB := hB.1 hc
    refine lv_iconst (v := (0 : Int32)) hx hb dX12_barOf_52 (by decide) ?_
    exact hB _ _ _ hw (lv_sub hl [2, 3, 4, 5, 6, 0] rfl)
  · replace hB := hB.2 hc
    refine lv_iconst (v := (1 : Int32)) hx hb dX12_barOf_48 (by decide) ?_
    refine lv_goto (tgt := 53) hx hb dX12_barOf_49 (by decide) ?_
    exact hB _ _ _ hw (lv_sub hl [2, 3, 4, 5, 6, 0] rfl)
theorem xm_X12_barOf : xr_MW yX12_barOf cX12_barOf 7 (some .int) 4 := ⟨xt_6_93, xt_1_13, by decide, by decide, by decide +kernel⟩
set_option maxRecDepth 100000 in
set_option maxHeartbeats 4000000 in
theorem xc_X12_barred (l : Launch) (D : va_G) (cy : Nat → ClassId) (q : Nat → Nat) (σ : xw_M) (a1 : Int32) (a2 : Int32) (a3 : Int32) (a4 : Int32) {Z : Int32 → xw_M → Prop} (hU : xu_X12_barred σ a1 a2 a3 a4 Z) : xr_CI l yX12_barred cX12_barred 5 .int { frames := 5, cells := 0, slots := 0, locals := 123 } D cy xl_B q σ [.ref (q 0), .int a1, .int a2, .int a3, .int a4] Z := by
  refine xr_CI.of RX12 rfl (by decide) (Nat.le_of_ble_eq_true rfl) (fun p e s m below meth c X hw hr hk ls hl => ?_)
  have hx := X.1
  have hb := X.2.1
  have hl : lv_has ls 5 [(0, .ref (q 0)), (1, .int a1), (2, .int a2), (3, .int a3), (4, .int a4)] := hl
  unfold xu_X12_barred at hU
  have hB := hU
  refine lv_iload_n hx hb dX12_barred_0 rfl (lv_at hl 1 rfl) ?_
  refine xr_i hw (xr_runS (As := [.int a1]) (rest := []) X hw (xc_X12_isPerson l D cy q σ a1 hB _) xm_X12_isPerson xt_6_12 xt_6_13 ⟨Nat.le_of_ble_eq_true rfl, Nat.le_of_ble_eq_true rfl⟩ rfl rfl hl.1 (Nat.le_of_ble_eq_true rfl) dX12_barred_1 ⟨Nat.zero_le _, Nat.zero_le _⟩) (fun r2 σ1 H locs hB hw => ?_)
  refine lv_if_eq (tgt := 44) hx hb dX12_barred_4 (by decide) (fun hc => ?_) (fun hc => ?_)
  · replace hB := hB.1 hc
    refine lv_iconst (v := (-1 : Int32)) hx hb dX12_barred_44 (by decide) ?_
    exact xr_iret X hw hr hk hB dX12_barred_45
  · replace hB := hB.2 hc
    refine lv_aload_n hx hb dX12_barred_7 rfl (lv_at hl 0 rfl) ?_
    refine lv_iload_n hx hb dX12_barred_8 rfl (lv_at hl 2 rfl) ?_
    refine xr_i hw (xr_runV (As := [.int a2]) (rest := []) X hw 0 (xc_X12_isShow l D cy q σ1 a2 hB _) xm_X12_isShow xt_6_46 xt_6_48 xt_p_44 ⟨Nat.le_of_ble_eq_true rfl, Nat.le_of_ble_eq_true rfl⟩ xl_B_ShowRingsModel_at rfl rfl rfl rfl hl.1 (Nat.le_of_ble_eq_true rfl) dX12_barred_9 ⟨Nat.zero_le _, Nat.zero_le _⟩) (fun r4 σ3 H locs hB hw => ?_)
    refine lv_if_eq (tgt := 44) hx hb dX12_barred_12 (by decide) (fun hc => ?_) (fun hc => ?_)
    · replace hB := hB.1 hc
      refine lv_iconst (v := (-1 : Int32)) hx hb dX12_barred_44 (by decide) ?_
      exact xr_iret X hw hr hk hB dX12_barred_45
    · replace hB := hB.2 hc
      refine lv_aload_n hx hb dX12_barred_15 rfl (lv_at hl 0 rfl) ?_
      refine lv_iload_n hx hb dX12_barred_16 rfl (lv_at hl 3 rfl) ?_
      refine xr_i hw (xr_runV (As := [.int a3]) (rest := []) X hw 0 (xc_X12_isDog l D cy q σ3 a3 hB _) xm_X12_isDog xt_6_50 xt_6_52 xt_p_45 ⟨Nat.le_of_ble_eq_true rfl, Nat.le_of_ble_eq_true rfl⟩ xl_B_ShowRingsModel_at rfl rfl rfl rfl hl.1 (Nat.le_of_ble_eq_true rfl) dX12_barred_17 ⟨Nat.zero_le _, Nat.zero_le _⟩) (fun r6 σ5 H locs hB hw => ?_)
      refine lv_if_eq (tgt := 44) hx hb dX12_barred_20 (by decide) (fun hc => ?_) (fun hc => ?_)
      · replace hB := hB.1 hc
        refine lv_iconst (v := (-1 : Int32)) hx hb dX12_barred_44 (by decide) ?_
        exact xr_iret X hw hr hk hB dX12_barred_45
      · replace hB := hB.2 hc
        refine lv_aload_n hx hb dX12_barred_23 rfl (lv_at hl 0 rfl) ?_
        refine lv_iload hx hb dX12_barred_24 (lv_at hl 4 rfl) ?_
        refine xr_i hw (xr_runV (As := [.int a4]) (rest := []) X hw 0 (xc_X12_isKnown l D cy q σ5 a4 hB _) xm_X12_isKnown xt_6_66 xt_6_68 xt_p_47 ⟨Nat.le_of_ble_eq_true rfl, Nat.le_of_ble_eq_true rfl⟩ xl_B_ShowRingsModel_at rfl rfl rfl rfl hl.1 (Nat.le_of_ble_eq_true rfl) dX12_barred_26 ⟨Nat.zero_le _, Nat.zero_le _⟩) (fun r8 σ7 H locs hB hw => ?_)
        refine lv_if_eq (tgt := 44) hx hb dX12_barred_29 (by decide) (fun hc => ?_) (fun hc => ?_)
        · replace hB := hB.1 hc
          refine lv_iconst (v := (-1 : Int32)) hx hb dX12_barred_44 (by decide) ?_
          exact xr_iret X hw hr hk hB dX12_barred_45
        · replace hB := hB.2 hc
          refine lv_aload_n hx hb dX12_barred_32 rfl (lv_at hl 0 rfl) ?_
          refine lv_iload_n hx hb dX12_barred_33 rfl (lv_at hl 1 rfl) ?_
          refine lv_iload_n hx hb dX12_barred_34 rfl (lv_at hl 2 rfl) ?_
          refine lv_iload_n hx hb dX12_barred_35 rfl (lv_at hl 3 rfl) ?_
          refine lv_iload hx hb dX12_barred_36 (lv_at hl 4 rfl) ?_
          refine xr_i hw (xr_runV (As := [.int a1, .int a2, .int a3, .int a4]) (rest := []) X hw 0 (xc_X12_barOf l D cy q σ7 a1 a2 a3 a4 hB _) xm_X12_barOf xt_6_90 xt_6_92 xt_p_51 ⟨Nat.le_of_ble_eq_true rfl, Nat.le_of_ble_eq_true rfl⟩ xl_B_ShowRingsModel_at rfl rfl rfl rfl hl.1 (Nat.le_of_ble_eq_true rfl) dX12_barred_38 ⟨Nat.zero_le _, Nat.zero_le _⟩) (fun r10 σ9 H locs hB hw => ?_)
          refine lv_goto (tgt := 45) hx hb dX12_barred_41 (by decide) ?_
          exact xr_iret X hw hr hk hB dX12_barred_45
set_option maxRecDepth 100000 in
set_option maxHeartbeats 4000000 in
theorem xc_X12_classed (l : Launch) (D : va_G) (cy : Nat → ClassId) (q : Nat → Nat) (σ : xw_M) (a1 : Int32) (a2 : Int32) {Z : Int32 → xw_M → Prop} (hU : xu_X12_classed σ a1 a2 Z) : xr_CI l yX12_classed cX12_classed 3 .int { frames := 4, cells := 0, slots := 0, locals := 97 } D cy xl_B q σ [.ref (q 0), .int a1, .int a2] Z := by
  refine xr_CI.of RX12 rfl (by decide) (Nat.le_of_ble_eq_true rfl) (fun p e s m below meth c X hw hr hk ls hl => ?_)
  have hx := X.1
  have hb := X.2.1
  have hl : lv_has ls 3 [(0, .ref (q 0)), (1, .int a1), (2, .int a2)] := hl
  unfold xu_X12_classed at hU
  have hB := hU
  refine lv_aload_n hx hb dX12_classed_0 rfl (lv_at hl 0 rfl) ?_
  refine lv_iload_n hx hb dX12_classed_1 rfl (lv_at hl 1 rfl) ?_
  refine xr_i hw (xr_runV (As := [.int a1]) (rest := []) X hw 0 (xc_X12_isShow l D cy q σ a1 hB _) xm_X12_isShow xt_6_46 xt_6_48 xt_p_44 ⟨Nat.le_of_ble_eq_true rfl, Nat.le_of_ble_eq_true rfl⟩ xl_B_ShowRingsModel_at rfl rfl rfl rfl hl.1 (Nat.le_of_ble_eq_true rfl) dX12_classed_2 ⟨Nat.zero_le _, Nat.zero_le _⟩) (fun r2 σ1 H locs hB hw => ?_)
  refine lv_if_eq (tgt := 25) hx hb dX12_classed_5 (by decide) (fun hc => ?_) (fun hc => ?_)
  · replace hB := hB.1 hc
    refine lv_bipush (v := (-2 : Int32)) hx hb dX12_classed_25 (by decide) ?_
    exact xr_iret X hw hr hk hB dX12_classed_27
  · replace hB := hB.2 hc
    refine lv_aload_n hx hb dX12_classed_8 rfl (lv_at hl 0 rfl) ?_
    refine lv_iload_n hx hb dX12_classed_9 rfl (lv_at hl 2 rfl) ?_
    refine xr_i hw (xr_runV (As := [.int a2]) (rest := []) X hw 0 (xc_X12_isDog l D cy q σ1 a2 hB _) xm_X12_isDog xt_6_50 xt_6_52 xt_p_45 ⟨Nat.le_of_ble_eq_true rfl, Nat.le_of_ble_eq_true rfl⟩ xl_B_ShowRingsModel_at rfl rfl rfl rfl hl.1 (Nat.le_of_ble_eq_true rfl) dX12_classed_10 ⟨Nat.zero_le _, Nat.zero_le _⟩) (fun r4 σ3 H locs hB hw => ?_)
    refine lv_if_eq (tgt := 25) hx hb dX12_classed_13 (by decide) (fun hc => ?_) (fun hc => ?_)
    · replace hB := hB.1 hc
      refine lv_bipush (v := (-2 : Int32)) hx hb dX12_classed_25 (by decide) ?_
      exact xr_iret X hw hr hk hB dX12_classed_27
    · replace hB := hB.2 hc
      refine lv_aload_n hx hb dX12_classed_16 rfl (lv_at hl 0 rfl) ?_
      refine lv_iload_n hx hb dX12_classed_17 rfl (lv_at hl 1 rfl) ?_
      refine lv_iload_n hx hb dX12_classed_18 rfl (lv_at hl 2 rfl) ?_
      refine xr_i hw (xr_runV (As := [.int a1, .int a2]) (rest := []) X hw 0 (xc_X12_classOf l D cy q σ3 a1 a2 hB _) xm_X12_classOf xt_6_94 xt_6_96 xt_p_52 ⟨Nat.le_of_ble_eq_true rfl, Nat.le_of_ble_eq_true rfl⟩ xl_B_ShowRingsModel_at rfl rfl rfl rfl hl.1 (Nat.le_of_ble_eq_true rfl) dX12_classed_19 ⟨Nat.zero_le _, Nat.zero_le _⟩) (fun r6 σ5 H locs hB hw => ?_)
      refine lv_goto (tgt := 27) hx hb dX12_classed_22 (by decide) ?_
      exact xr_iret X hw hr hk hB dX12_classed_27
