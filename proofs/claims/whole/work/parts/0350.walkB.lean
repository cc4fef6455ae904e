theorem xm_X12_partedOf : xr_MW yX12_partedOf cX12_partedOf 7 (some .int) 4 := ⟨xt_6_85, xt_1_13, by decide, by decide, by decide +kernel⟩
set_option maxRecDepth 100000 in
set_option maxHeartbeats 4000000 in
theorem xc_X12_parted (l : Launch) (D : va_G) (cy : Nat → ClassId) (q : Nat → Nat) (σ : xw_M) (a1 : Int32) (a2 : Int32) (a3 : Int32) (a4 : Int32) {Z : Int32 → xw_M → Prop} (hU : xu_X12_parted σ a1 a2 a3 a4 Z) : xr_CI l yX12_parted cX12_parted 5 .int { frames := 3, cells := 0, slots := 0, locals := 75 } D cy xl_B q σ [.ref (q 0), .int a1, .int a2, .int a3, .int a4] Z := by
  refine xr_CI.of RX12 rfl (by decide) (Nat.le_of_ble_eq_true rfl) (fun p e s m below meth c X hw hr hk ls hl => ?_)
  have hx := X.1
  have hb := X.2.1
  have hl : lv_has ls 5 [(0, .ref (q 0)), (1, .int a1), (2, .int a2), (3, .int a3), (4, .int a4)] := hl
  unfold xu_X12_parted at hU
  have hB := hU
  refine lv_iload_n hx hb dX12_parted_0 rfl (lv_at hl 1 rfl) ?_
  refine xr_i hw (xr_runS (As := [.int a1]) (rest := []) X hw (xc_X12_isPerson l D cy q σ a1 hB _) xm_X12_isPerson xt_6_12 xt_6_13 ⟨Nat.le_of_ble_eq_true rfl, Nat.le_of_ble_eq_true rfl⟩ rfl rfl hl.1 (Nat.le_of_ble_eq_true rfl) dX12_parted_1 ⟨Nat.zero_le _, Nat.zero_le _⟩) (fun r2 σ1 H locs hB hw => ?_)
  refine lv_if_eq (tgt := 43) hx hb dX12_parted_4 (by decide) (fun hc => ?_) (fun hc => ?_)
  · replace hB := hB.1 hc
    refine lv_bipush (v := (-2 : Int32)) hx hb dX12_parted_43 (by decide) ?_
    exact xr_iret X hw hr hk hB dX12_parted_45
  · replace hB := hB.2 hc
    refine lv_aload_n hx hb dX12_parted_7 rfl (lv_at hl 0 rfl) ?_
    refine lv_iload_n hx hb dX12_parted_8 rfl (lv_at hl 2 rfl) ?_
    refine xr_i hw (xr_runV (As := [.int a2]) (rest := []) X hw 0 (xc_X12_isDog l D cy q σ1 a2 hB _) xm_X12_isDog xt_6_50 xt_6_52 xt_p_45 ⟨Nat.le_of_ble_eq_true rfl, Nat.le_of_ble_eq_true rfl⟩ xl_B_ShowRingsModel_at rfl rfl rfl rfl hl.1 (Nat.le_of_ble_eq_true rfl) dX12_parted_9 ⟨Nat.zero_le _, Nat.zero_le _⟩) (fun r4 σ3 H locs hB hw => ?_)
    refine lv_if_eq (tgt := 43) hx hb dX12_parted_12 (by decide) (fun hc => ?_) (fun hc => ?_)
    · replace hB := hB.1 hc
      refine lv_bipush (v := (-2 : Int32)) hx hb dX12_parted_43 (by decide) ?_
      exact xr_iret X hw hr hk hB dX12_parted_45
    · replace hB := hB.2 hc
      refine lv_iload_n hx hb dX12_parted_15 rfl (lv_at hl 3 rfl) ?_
      refine xr_i hw (xr_runS (As := [.int a3]) (rest := []) X hw (xc_X12_isDay l D cy q σ3 a3 hB _) xm_X12_isDay xt_6_27 xt_6_28 ⟨Nat.le_of_ble_eq_true rfl, Nat.le_of_ble_eq_true rfl⟩ rfl rfl hl.1 (Nat.le_of_ble_eq_true rfl) dX12_parted_16 ⟨Nat.zero_le _, Nat.zero_le _⟩) (fun r6 σ5 H locs hB hw => ?_)
      refine lv_if_eq (tgt := 43) hx hb dX12_parted_19 (by decide) (fun hc => ?_) (fun hc => ?_)
      · replace hB := hB.1 hc
        refine lv_bipush (v := (-2 : Int32)) hx hb dX12_parted_43 (by decide) ?_
        exact xr_iret X hw hr hk hB dX12_parted_45
      · replace hB := hB.2 hc
        refine lv_aload_n hx hb dX12_parted_22 rfl (lv_at hl 0 rfl) ?_
        refine lv_iload hx hb dX12_parted_23 (lv_at hl 4 rfl) ?_
        refine xr_i hw (xr_runV (As := [.int a4]) (rest := []) X hw 0 (xc_X12_isKnown l D cy q σ5 a4 hB _) xm_X12_isKnown xt_6_66 xt_6_68 xt_p_47 ⟨Nat.le_of_ble_eq_true rfl, Nat.le_of_ble_eq_true rfl⟩ xl_B_ShowRingsModel_at rfl rfl rfl rfl hl.1 (Nat.le_of_ble_eq_true rfl) dX12_parted_25 ⟨Nat.zero_le _, Nat.zero_le _⟩) (fun r8 σ7 H locs hB hw => ?_)
        refine lv_if_eq (tgt := 43) hx hb dX12_parted_28 (by decide) (fun hc => ?_) (fun hc => ?_)
        · replace hB := hB.1 hc
          refine lv_bipush (v := (-2 : Int32)) hx hb dX12_parted_43 (by decide) ?_
          exact xr_iret X hw hr hk hB dX12_parted_45
        · replace hB := hB.2 hc
          refine lv_aload_n hx hb dX12_parted_31 rfl (lv_at hl 0 rfl) ?_
          refine lv_iload_n hx hb dX12_parted_32 rfl (lv_at hl 1 rfl) ?_
          refine lv_iload_n hx hb dX12_parted_33 rfl (lv_at hl 2 rfl) ?_
          refine lv_iload_n hx hb dX12_parted_34 rfl (lv_at hl 3 rfl) ?_
          refine lv_iload hx hb dX12_parted_35 (lv_at hl 4 rfl) ?_
          refine xr_i hw (xr_runV (As := [.int a1, .int a2, .int a3, .int a4]) (rest := []) X hw 0 (xc_X12_partedOf l D cy q σ7 a1 a2 a3 a4 hB _) xm_X12_partedOf xt_6_82 xt_6_84 xt_p_50 ⟨Nat.le_of_ble_eq_true rfl, Nat.le_of_ble_eq_true rfl⟩ xl_B_ShowRingsModel_at rfl rfl rfl rfl hl.1 (Nat.le_of_ble_eq_true rfl) dX12_parted_37 ⟨Nat.zero_le _, Nat.zero_le _⟩) (fun r10 σ9 H locs hB hw => ?_)
          refine lv_goto (tgt := 45) hx hb dX12_parted_40 (by decide) ?_
          exact xr_iret X hw hr hk hB dX12_parted_45
theorem xf_X12_146 {p : Program} {s : State} {m : MethodId} {args : Array Value} {c : Code} {cc : ByteArray} {nL : Nat} {D : va_G} {cy : Nat → ClassId} {lay : List xw_E} {q : Nat → Nat} (X : xr_X p s m args c cc nL RX12 D cy lay q) : xr_F args s RX12 146 12 62 := ⟨RX12, TX12, 77, tyX12, rfl, by decide, fun w h => X.2.2.2.2.1 w (xt_inX12 w h), tyX12_ok, nmX12, Or.inl (X.2.2.2.2.1 _ xt_4_234)⟩
theorem xf_X12_143 {p : Program} {s : State} {m : MethodId} {args : Array Value} {c : Code} {cc : ByteArray} {nL : Nat} {D : va_G} {cy : Nat → ClassId} {lay : List xw_E} {q : Nat → Nat} (X : xr_X p s m args c cc nL RX12 D cy lay q) : xr_F args s RX12 143 12 61 := ⟨RX12, TX12, 77, tyX12, rfl, by decide, fun w h => X.2.2.2.2.1 w (xt_inX12 w h), tyX12_ok, nmX12, Or.inl (X.2.2.2.2.1 _ xt_4_233)⟩
set_option maxRecDepth 100000 in
set_option maxHeartbeats 4000000 in
theorem xc_X12_value (l : Launch) (D : va_G) (cy : Nat → ClassId) (q : Nat → Nat) (σ : xw_M) (a1 : Int32) (a2 : Int32) {Z : Int32 → xw_M → Prop} (hU : xu_X12_value σ a1 a2 Z) : xr_CI l yX12_value cX12_value 7 .int { frames := 0, cells := 0, slots := 0, locals := 0 } D cy xl_B q σ [.ref (q 0), .int a1, .int a2] Z := by
  refine xr_CI.of RX12 rfl (by decide) (Nat.le_of_ble_eq_true rfl) (fun p e s m below meth c X hw hr hk ls hl => ?_)
  have hx := X.1
  have hb := X.2.1
  have hl : lv_has ls 7 [(0, .ref (q 0)), (1, .int a1), (2, .int a2)] := hl
  have hB := hU (fun (σ : xw_M) (v3 : Int32) (v4 : Int32) => ∀ (H : Heap) (locs : List Loc) (ls : Array Slot), xr_H D cy xl_B q s σ H locs → lv_has ls 7 [(0, .ref (q 0)), (2, .int a2), (3, .int v3), (4, .int v4)] → W p l e ({ frames := 0, cells := 0, slots := 0, locals := 0 } : Room) s m ([.ref (q 0), .int a1, .int a2] : List Value).toArray below meth c H locs 0 0 (MQ below (va_Qi Z (xr_po D cy xl_B q) (xw_A xl_B q s.heap.size)) ([.ref (q 0), .int a1, .int a2] : List Value).toArray s 0 0 (xw_A xl_B q s.heap.size)) (F0 m 5 ls []))
    (by
    intro σ v3 v4 hB H locs ls hw hl
    unfold xb_X12_value_5 at hB
    refine lv_iload hx hb dX12_value_5 (lv_at hl 3 rfl) ?_
    refine lv_iload_n hx hb dX12_value_7 rfl (lv_at hl 1 rfl) ?_
    refine lv_icmp_ge (tgt := 144) hx hb dX12_value_8 (by decide) (fun hc => ?_) (fun hc => ?_)
    · replace hB := hB.1 hc
      refine lv_aload_n hx hb dX12_value_144 rfl (lv_at hl 0 rfl) ?_
      refine xr_getr X hw (xf_X12_146 X) 0 xl_B_ShowRingsModel_at rfl dX12_value_145 ?_
      refine lv_iconst (v := (0 : Int32)) hx hb dX12_value_148 (by decide) ?_
      refine xr_iald X hw 43 xl_B_ShowRingsModel_pile_at hB.1 dX12_value_149 ?_
      replace hB := hB.2
      exact xr_iret X hw hr hk hB dX12_value_150
    · replace hB := hB.2 hc
      refine lv_aload_n hx hb dX12_value_11 rfl (lv_at hl 0 rfl) ?_
      refine xr_getr X hw (xf_X12_83 X) 0 xl_B_ShowRingsModel_at rfl dX12_value_12 ?_
      refine lv_iload hx hb dX12_value_15 (lv_at hl 3 rfl) ?_
      refine xr_iald X hw 22 xl_B_ShowRingsModel_code_at hB.1 dX12_value_17 ?_
      replace hB := hB.2
      refine lv_iconst (v := (2 : Int32)) hx hb dX12_value_18 (by decide) ?_
      refine lv_icmp_ge (tgt := 66) hx hb dX12_value_19 (by decide) (fun hc => ?_) (fun hc => ?_)
      · replace hB := hB.1 hc
        refine lv_iinc (v := (v3 + (-1 : Int32))) (lv' := [(3, .int (v3 + (-1 : Int32))), (0, .ref (q 0)), (2, .int a2), (4, .int v4)]) hx hb dX12_value_66 hl (k := 2) rfl rfl (by decide) rfl (fun ls hl => ?_)
        refine lv_aload_n hx hb dX12_value_69 rfl (lv_at hl 1 rfl) ?_
        refine xr_getr X hw (xf_X12_146 X) 0 xl_B_ShowRingsModel_at rfl dX12_value_70 ?_
        refine lv_iload_n hx hb dX12_value_73 rfl (lv_at hl 0 rfl) ?_
        refine lv_iconst (v := (1 : Int32)) hx hb dX12_value_74 (by decide) ?_
        refine lv_isub hx hb dX12_value_75 ?_
        refine xr_iald X hw 43 xl_B_ShowRingsModel_pile_at hB.1 dX12_value_76 ?_
        replace hB := hB.2
        refine lv_topi (fun x1 hx1 => ?_)
        replace hB := hB _ hx1
        refine lv_istore (lv' := [(5, .int x1), (3, .int (v3 + (-1 : Int32))), (0, .ref (q 0)), (2, .int a2), (4, .int v4)]) hx hb dX12_value_77 hl (by decide) rfl (fun ls hl => ?_)
        refine lv_aload_n hx hb dX12_value_79 rfl (lv_at hl 2 rfl) ?_
        refine xr_getr X hw (xf_X12_146 X) 0 xl_B_ShowRingsModel_at rfl dX12_value_80 ?_
        refine lv_iload_n hx hb dX12_value_83 rfl (lv_at hl 1 rfl) ?_
        refine xr_iald X hw 43 xl_B_ShowRingsModel_pile_at hB.1 dX12_value_84 ?_
        replace hB := hB.2
        refine lv_topi (fun x2 hx2 => ?_)
        replace hB := hB _ hx2
        refine lv_istore (lv' := [(6, .int x2), (5, .int x1), (3, .int (v3 + (-1 : Int32))), (0, .ref (q 0)), (2, .int a2), (4, .int v4)]) hx hb dX12_value_85 hl (by decide) rfl (fun ls hl => ?_)
        refine lv_aload_n hx hb dX12_value_87 rfl (lv_at hl 3 rfl) ?_
        refine xr_getr X hw (xf_X12_146 X) 0 xl_B_ShowRingsModel_at rfl dX12_value_88 ?_
        refine lv_iload_n hx hb dX12_value_91 rfl (lv_at hl 2 rfl) ?_
        refine lv_iconst (v := (1 : Int32)) hx hb dX12_value_92 (by decide) ?_
        refine lv_isub hx hb dX12_value_93 ?_
        refine lv_aload_n hx hb dX12_value_94 rfl (lv_at hl 3 rfl) ?_
        refine xr_getr X hw (xf_X12_83 X) 0 xl_B_ShowRingsModel_at rfl dX12_value_95 ?_
        refine lv_iload hx hb dX12_value_98 (lv_at hl 5 rfl) ?_
        refine xr_iald X hw 22 xl_B_ShowRingsModel_code_at hB.1 dX12_value_100 ?_
        replace hB := hB.2
        refine lv_iconst (v := (2 : Int32)) hx hb dX12_value_101 (by decide) ?_
        refine lv_icmp_ne (tgt := 113) hx hb dX12_value_102 (by decide) (fun hc => ?_) (fun hc => ?_)
        · replace hB := hB.1 hc
          refine lv_aload_n hx hb dX12_value_113 rfl (lv_at hl 3 rfl) ?_
          refine xr_getr X hw (xf_X12_83 X) 0 xl_B_ShowRingsModel_at rfl dX12_value_114 ?_
          refine lv_iload hx hb dX12_value_117 (lv_at hl 5 rfl) ?_
          refine xr_iald X hw 22 xl_B_ShowRingsModel_code_at hB.1 dX12_value_119 ?_
          replace hB := hB.2
          refine lv_iconst (v := (3 : Int32)) hx hb dX12_value_120 (by decide) ?_
          refine lv_icmp_ne (tgt := 132) hx hb dX12_value_121 (by decide) (fun hc => ?_) (fun hc => ?_)
          · replace hB := hB.1 hc
            refine lv_iload hx hb dX12_value_132 (lv_at hl 1 rfl) ?_
            refine lv_iload hx hb dX12_value_134 (lv_at hl 0 rfl) ?_
            refine lv_imul hx hb dX12_value_136 ?_
            refine xr_iast X hw 43 xl_B_ShowRingsModel_pile_at hB.1 dX12_value_137 hB.2 (fun σ3 H locs hB hw => ?_)
            refine lv_iinc (v := (v4 + (1 : Int32))) (lv' := [(4, .int (v4 + (1 : Int32))), (6, .int x2), (5, .int x1), (3, .int (v3 + (-1 : Int32))), (0, .ref (q 0)), (2, .int a2)]) hx hb dX12_value_138 hl (k := 5) rfl rfl (by decide) rfl (fun ls hl => ?_)
            refine lv_goto (tgt := 5) hx hb dX12_value_141 (by decide) ?_
            exact hB _ _ _ hw (lv_sub hl [4, 5, 3, 0] rfl)
          · replace hB := hB.2 hc
            refine lv_iload hx hb dX12_value_124 (lv_at hl 1 rfl) ?_
            refine lv_iload hx hb dX12_value_126 (lv_at hl 0 rfl) ?_
            refine lv_isub hx hb dX12_value_128 ?_
            refine lv_goto (tgt := 137) hx hb dX12_value_129 (by decide) ?_
            refine xr_iast X hw 43 xl_B_ShowRingsModel_pile_at hB.1 dX12_value_137 hB.2 (fun σ4 H locs hB hw => ?_)
            refine lv_iinc (v := (v4 + (1 : Int32))) (lv' := [(4, .int (v4 + (1 : Int32))), (6, .int x2), (5, .int x1), (3, .int (v3 + (-1 : Int32))), (0, .ref (q 0)), (2, .int a2)]) hx hb dX12_value_138 hl (k := 5) rfl rfl (by decide) rfl (fun ls hl => ?_)
            refine lv_goto (tgt := 5) hx hb dX12_value_141 (by decide) ?_
            exact hB _ _ _ hw (lv_sub hl [4, 5, 3, 0] rfl)
        · replace hB := hB.2 hc
          refine lv_iload hx hb dX12_value_105 (lv_at hl 1 rfl) ?_
          refine lv_iload hx hb dX12_value_107 (lv_at hl 0 rfl) ?_
          refine lv_iadd hx hb dX12_value_109 ?_
          refine lv_goto (tgt := 137) hx hb dX12_value_110 (by decide) ?_
          refine xr_iast X hw 43 xl_B_ShowRingsModel_pile_at hB.1 dX12_value_137 hB.2 (fun σ5 H locs hB hw => ?_)
          refine lv_iinc (v := (v4 + (1 : Int32))) (lv' := [(4, .int (v4 + (1 : Int32))), (6, .int x2), (5, .int x1), (3, .int (v3 + (-1 : Int32))), (0, .ref (q 0)), (2, .int a2)]) hx hb dX12_value_138 hl (k := 5) rfl rfl (by decide) rfl (fun ls hl => ?_)
          refine lv_goto (tgt := 5) hx hb dX12_value_141 (by decide) ?_
          exact hB _ _ _ hw (lv_sub hl [4, 5, 3, 0] rfl)
      · replace hB := hB.2 hc
        refine lv_aload_n hx hb dX12_value_22 rfl (lv_at hl 0 rfl) ?_
        refine xr_getr X hw (xf_X12_146 X) 0 xl_B_ShowRingsModel_at rfl dX12_value_23 ?_
        refine lv_iload_n hx hb dX12_value_26 rfl (lv_at hl 2 rfl) ?_
        refine lv_aload_n hx hb dX12_value_27 rfl (lv_at hl 0 rfl) ?_
        refine xr_getr X hw (xf_X12_83 X) 0 xl_B_ShowRingsModel_at rfl dX12_value_28 ?_
        refine lv_iload hx hb dX12_value_31 (lv_at hl 3 rfl) ?_
        refine xr_iald X hw 22 xl_B_ShowRingsModel_code_at hB.1 dX12_value_33 ?_
        replace hB := hB.2
        refine lv_if_ne (tgt := 47) hx hb dX12_value_34 (by decide) (fun hc => ?_) (fun hc => ?_)
        · replace hB := hB.1 hc
          refine lv_aload_n hx hb dX12_value_47 rfl (lv_at hl 0 rfl) ?_
          refine xr_getr X hw (xf_X12_143 X) 0 xl_B_ShowRingsModel_at rfl dX12_value_48 ?_
          refine lv_aload_n hx hb dX12_value_51 rfl (lv_at hl 0 rfl) ?_
          refine xr_getr X hw (xf_X12_86 X) 0 xl_B_ShowRingsModel_at rfl dX12_value_52 ?_
          refine lv_iload hx hb dX12_value_55 (lv_at hl 3 rfl) ?_
          refine xr_iald X hw 23 xl_B_ShowRingsModel_codeInt_at hB.1 dX12_value_57 ?_
          replace hB := hB.2
          refine xr_iald X hw 42 xl_B_ShowRingsModel_variables_at hB.1 dX12_value_58 ?_
          replace hB := hB.2
          refine xr_iast X hw 43 xl_B_ShowRingsModel_pile_at hB.1 dX12_value_59 hB.2 (fun σ6 H locs hB hw => ?_)
          refine lv_iinc (v := (v3 + (1 : Int32))) (lv' := [(3, .int (v3 + (1 : Int32))), (0, .ref (q 0)), (2, .int a2), (4, .int v4)]) hx hb dX12_value_60 hl (k := 2) rfl rfl (by decide) rfl (fun ls hl => ?_)
          refine lv_goto (tgt := 138) hx hb dX12_value_63 (by decide) ?_
          refine lv_iinc (v := (v4 + (1 : Int32))) (lv' := [(4, .int (v4 + (1 : Int32))), (3, .int (v3 + (1 : Int32))), (0, .ref (q 0)), (2, .int a2)]) hx hb dX12_value_138 hl (k := 3) rfl rfl (by decide) rfl (fun ls hl => ?_)
          refine lv_goto (tgt := 5) hx hb dX12_value_141 (by decide) ?_
          exact hB _ _ _ hw (lv_sub hl [2, 3, 1, 0] rfl)
        · replace hB := hB.2 hc
          refine lv_aload_n hx hb dX12_value_37 rfl (lv_at hl 0 rfl) ?_
          refine xr_getr X hw (xf_X12_86 X) 0 xl_B_ShowRingsModel_at rfl dX12_value_38 ?_
          refine lv_iload hx hb dX12_value_41 (lv_at hl 3 rfl) ?_
          refine xr_iald X hw 23 xl_B_ShowRingsModel_codeInt_at hB.1 dX12_value_43 ?_
          replace hB := hB.2
          refine lv_goto (tgt := 59) hx hb dX12_value_44 (by decide) ?_
          refine xr_iast X hw 43 xl_B_ShowRingsModel_pile_at hB.1 dX12_value_59 hB.2 (fun σ7 H locs hB hw => ?_)
          refine lv_iinc (v := (v3 + (1 : Int32))) (lv' := [(3, .int (v3 + (1 : Int32))), (0, .ref (q 0)), (2, .int a2), (4, .int v4)]) hx hb dX12_value_60 hl (k := 2) rfl rfl (by decide) rfl (fun ls hl => ?_)
          refine lv_goto (tgt := 138) hx hb dX12_value_63 (by decide) ?_
          refine lv_iinc (v := (v4 + (1 : Int32))) (lv' := [(4, .int (v4 + (1 : Int32))), (3, .int (v3 + (1 : Int32))), (0, .ref (q 0)), (2, .int a2)]) hx hb dX12_value_138 hl (k := 3) rfl rfl (by decide) rfl (fun ls hl => ?_)
          refine lv_goto (tgt := 5) hx hb dX12_value_141 (by decide) ?_
          exact hB _ _ _ hw (lv_sub hl [2, 3, 1, 0] rfl))
  unfold xb_X12_value_e at hB
  refine lv_iconst (v := (0 : Int32)) hx hb dX12_value_0 (by decide) ?_
  refine lv_istore_n (lv' := [(3, .int (0 : Int32)), (0, .ref (q 0)), (1, .int a1), (2, .int a2)]) hx hb dX12_value_1 rfl hl (by decide) rfl (fun ls hl => ?_)
  refine lv_iload_n hx hb dX12_value_2 rfl (lv_at hl 2 rfl) ?_
  refine lv_istore (lv' := [(4, .int a1), (3, .int (0 : Int32)), (0, .ref (q 0)), (1, .int a1), (2, .int a2)]) hx hb dX12_value_3 hl (by decide) rfl (fun ls hl => ?_)
  exact hB _ _ _ hw (lv_sub hl [2, 4, 1, 0] rfl)
theorem xm_X12_value : xr_MW yX12_value cX12_value 7 (some .int) 2 := ⟨xt_6_113, xt_1_13, by decide, by decide, by decide +kernel⟩
set_option maxRecDepth 100000 in
set_option maxHeartbeats 4000000 in
theorem xc_X12_holds (l : Launch) (D : va_G) (cy : Nat → ClassId) (q : Nat → Nat) (σ : xw_M) (a1 : Int32) {Z : Int32 → xw_M → Prop} (hU : xu_X12_holds σ a1 Z) : xr_CI l yX12_holds cX12_holds 7 .boolean { frames := 1, cells := 0, slots := 0, locals := 26 } D cy xl_B q σ [.ref (q 0), .int a1] Z := by
  refine xr_CI.of RX12 rfl (by decide) (Nat.le_of_ble_eq_true rfl) (fun p e s m below meth c X hw hr hk ls hl => ?_)
  have hx := X.1
  have hb := X.2.1
  have hl : lv_has ls 7 [(0, .ref (q 0)), (1, .int a1)] := hl
  have hB := hU (fun (σ : xw_M) (v2 : Int32) (v3 : Int32) => ∀ (H : Heap) (locs : List Loc) (ls : Array Slot), xr_H D cy xl_B q s σ H locs → lv_has ls 7 [(0, .ref (q 0)), (1, .int a1), (2, .int v2), (3, .int v3)] → W p l e ({ frames := 1, cells := 0, slots := 0, locals := 26 } : Room) s m ([.ref (q 0), .int a1] : List Value).toArray below meth c H locs 0 0 (MQ below (va_Qi Z (xr_po D cy xl_B q) (xw_A xl_B q s.heap.size)) ([.ref (q 0), .int a1] : List Value).toArray s 0 0 (xw_A xl_B q s.heap.size)) (F0 m 26 ls []))
    (fun (σ : xw_M) (v2 : Int32) (v3 : Int32) (v4 : Int32) => ∀ (H : Heap) (locs : List Loc) (ls : Array Slot), xr_H D cy xl_B q s σ H locs → lv_has ls 7 [(0, .ref (q 0)), (1, .int a1), (2, .int v2), (3, .int v3), (4, .int v4)] → W p l e ({ frames := 1, cells := 0, slots := 0, locals := 26 } : Room) s m ([.ref (q 0), .int a1] : List Value).toArray below meth c H locs 0 0 (MQ below (va_Qi Z (xr_po D cy xl_B q) (xw_A xl_B q s.heap.size)) ([.ref (q 0), .int a1] : List Value).toArray s 0 0 (xw_A xl_B q s.heap.size)) (F0 m 76 ls []))
    (by
    intro σ v2 v3 hB H locs ls hw hl
    unfold xb_X12_holds_26 at hB
    refine lv_iload_n hx hb dX12_holds_26 rfl (lv_at hl 3 rfl) ?_
    refine lv_aload_n hx hb dX12_holds_27 rfl (lv_at hl 0 rfl) ?_
    refine xr_getr X hw (xf_X12_61 X) 0 xl_B_ShowRingsModel_at rfl dX12_holds_28 ?_
    refine lv_iload_n hx hb dX12_holds_31 rfl (lv_at hl 1 rfl) ?_
    refine xr_iald X hw 15 xl_B_ShowRingsModel_relLast_at hB.1 dX12_holds_32 ?_
    replace hB := hB.2
    refine lv_icmp_ge (tgt := 219) hx hb dX12_holds_33 (by decide) (fun hc => ?_) (fun hc => ?_)
    · replace hB := hB.1 hc
      refine lv_iload_n hx hb dX12_holds_219 rfl (lv_at hl 2 rfl) ?_
      exact xr_zret X hw hr hk hB dX12_holds_220
    · replace hB := hB.2 hc
      refine lv_sipush (v := (200 : Int32)) hx hb dX12_holds_36 (by decide) ?_
      refine lv_aload_n hx hb dX12_holds_39 rfl (lv_at hl 0 rfl) ?_
      refine xr_geti X hw (xf_X12_266 X) 0 xl_B_ShowRingsModel_at rfl dX12_holds_40 ?_
      refine lv_imul hx hb dX12_holds_43 ?_
      refine lv_iload_n hx hb dX12_holds_44 rfl (lv_at hl 3 rfl) ?_
      refine lv_iadd hx hb dX12_holds_45 ?_
      refine lv_istore (lv' := [(4, .int (((200 : Int32) * (σ.1 0 18)) + v3)), (0, .ref (q 0)), (1, .int a1), (2, .int v2), (3, .int v3)]) hx hb dX12_holds_46 hl (by decide) rfl (fun ls hl => ?_)
      refine lv_aload_n hx hb dX12_holds_48 rfl (lv_at hl 1 rfl) ?_
      refine xr_getr X hw (xf_X12_79 X) 0 xl_B_ShowRingsModel_at rfl dX12_holds_49 ?_
      refine lv_iload hx hb dX12_holds_52 (lv_at hl 0 rfl) ?_
      refine xr_zald X hw 21 xl_B_ShowRingsModel_relOr_at hB.1 dX12_holds_54 ?_
      replace hB := hB.2
      refine lv_if_eq (tgt := 64) hx hb dX12_holds_55 (by decide) (fun hc => ?_) (fun hc => ?_)
      · replace hB := hB.1 hc
        refine lv_aload_n hx hb dX12_holds_64 rfl (lv_at hl 1 rfl) ?_
        refine xr_getr X hw (xf_X12_79 X) 0 xl_B_ShowRingsModel_at rfl dX12_holds_65 ?_
        refine lv_iload hx hb dX12_holds_68 (lv_at hl 0 rfl) ?_
        refine xr_zald X hw 21 xl_B_ShowRingsModel_relOr_at hB.1 dX12_holds_70 ?_
        replace hB := hB.2
        refine lv_if_eq (tgt := 76) hx hb dX12_holds_71 (by decide) (fun hc => ?_) (fun hc => ?_)
        · replace hB := hB.1 hc
          exact hB _ _ _ hw (lv_sub hl [1, 2, 3, 4, 0] rfl)
        · replace hB := hB.2 hc
          refine lv_iconst (v := (1 : Int32)) hx hb dX12_holds_74 (by decide) ?_
          refine lv_istore_n (lv' := [(2, .int (1 : Int32)), (4, .int (((200 : Int32) * (σ.1 0 18)) + v3)), (0, .ref (q 0)), (1, .int a1), (3, .int v3)]) hx hb dX12_holds_75 rfl hl (by decide) rfl (fun ls hl => ?_)
          exact hB _ _ _ hw (lv_sub hl [2, 3, 0, 4, 1] rfl)
      · replace hB := hB.2 hc
        refine lv_iload_n hx hb dX12_holds_58 rfl (lv_at hl 3 rfl) ?_
        refine lv_if_eq (tgt := 64) hx hb dX12_holds_59 (by decide) (fun hc => ?_) (fun hc => ?_)
        · replace hB := hB.1 hc
          refine lv_aload_n hx hb dX12_holds_64 rfl (lv_at hl 1 rfl) ?_
          refine xr_getr X hw (xf_X12_79 X) 0 xl_B_ShowRingsModel_at rfl dX12_holds_65 ?_
          refine lv_iload hx hb dX12_holds_68 (lv_at hl 0 rfl) ?_
          refine xr_zald X hw 21 xl_B_ShowRingsModel_relOr_at hB.1 dX12_holds_70 ?_
          replace hB := hB.2
          refine lv_if_eq (tgt := 76) hx hb dX12_holds_71 (by decide) (fun hc => ?_) (fun hc => ?_)
          · replace hB := hB.1 hc
            exact hB _ _ _ hw (lv_sub hl [1, 2, 3, 4, 0] rfl)
          · replace hB := hB.2 hc
            refine lv_iconst (v := (1 : Int32)) hx hb dX12_holds_74 (by decide) ?_
            refine lv_istore_n (lv' := [(2, .int (1 : Int32)), (4, .int (((200 : Int32) * (σ.1 0 18)) + v3)), (0, .ref (q 0)), (1, .int a1), (3, .int v3)]) hx hb dX12_holds_75 rfl hl (by decide) rfl (fun ls hl => ?_)
            exact hB _ _ _ hw (lv_sub hl [2, 3, 0, 4, 1] rfl)
        · replace hB := hB.2 hc
          refine lv_iconst (v := (1 : Int32)) hx hb dX12_holds_62 (by decide) ?_
          exact xr_zret X hw hr hk hB dX12_holds_63)
    (by
    intro σ v2 v3 v4 hB H locs ls hw hl
    unfold xb_X12_holds_76 at hB
    refine lv_iload_n hx hb dX12_holds_76 rfl (lv_at hl 2 rfl) ?_
    refine lv_if_ne (tgt := 83) hx hb dX12_holds_77 (by decide) (fun hc => ?_) (fun hc => ?_)
    · replace hB := hB.1 hc
      refine lv_aload_n hx hb dX12_holds_83 rfl (lv_at hl 0 rfl) ?_
      refine lv_aload_n hx hb dX12_holds_84 rfl (lv_at hl 0 rfl) ?_
      refine xr_getr X hw (xf_X12_70 X) 0 xl_B_ShowRingsModel_at rfl dX12_holds_85 ?_
      refine lv_iload hx hb dX12_holds_88 (lv_at hl 4 rfl) ?_
      refine xr_iald X hw 18 xl_B_ShowRingsModel_relLeft_at hB.1 dX12_holds_90 ?_
      replace hB := hB.2
      refine lv_aload_n hx hb dX12_holds_91 rfl (lv_at hl 0 rfl) ?_
      refine xr_getr X hw (xf_X12_73 X) 0 xl_B_ShowRingsModel_at rfl dX12_holds_92 ?_
      refine lv_iload hx hb dX12_holds_95 (lv_at hl 4 rfl) ?_
      refine xr_iald X hw 19 xl_B_ShowRingsModel_relRight_at hB.1 dX12_holds_97 ?_
      replace hB := hB.2
      refine xr_i hw (xr_runV (As := [.int (σ.1 18 (Int32.toNatClampNeg v4)), .int (σ.1 19 (Int32.toNatClampNeg v4))]) (rest := []) X hw 0 (xc_X12_value l D cy q σ (σ.1 18 (Int32.toNatClampNeg v4)) (σ.1 19 (Int32.toNatClampNeg v4)) hB _) xm_X12_value xt_6_110 xt_6_112 xt_p_56 ⟨Nat.le_of_ble_eq_true rfl, Nat.le_of_ble_eq_true rfl⟩ xl_B_ShowRingsModel_at rfl rfl rfl rfl hl.1 (Nat.le_of_ble_eq_true rfl) dX12_holds_98 ⟨Nat.zero_le _, Nat.zero_le _⟩) (fun r2 σ1 H locs hB hw => ?_)
      refine lv_istore (lv' := [(5, .int r2), (0, .ref (q 0)), (1, .int a1), (2, .int v2), (3, .int v3), (4, .int v4)]) hx hb dX12_holds_101 hl (by decide) rfl (fun ls hl => ?_)
      refine lv_aload_n hx hb dX12_holds_103 rfl (lv_at hl 1 rfl) ?_
      refine lv_aload_n hx hb dX12_holds_104 rfl (lv_at hl 1 rfl) ?_
      refine xr_getr X hw (xf_X12_73 X) 0 xl_B_ShowRingsModel_at rfl dX12_holds_105 ?_
      refine lv_iload hx hb dX12_holds_108 (lv_at hl 5 rfl) ?_
      refine xr_iald X hw 19 xl_B_ShowRingsModel_relRight_at hB.1 dX12_holds_110 ?_
      replace hB := hB.2
      refine lv_aload_n hx hb dX12_holds_111 rfl (lv_at hl 1 rfl) ?_
      refine xr_getr X hw (xf_X12_76 X) 0 xl_B_ShowRingsModel_at rfl dX12_holds_112 ?_
      refine lv_iload hx hb dX12_holds_115 (lv_at hl 5 rfl) ?_
      refine xr_iald X hw 20 xl_B_ShowRingsModel_relEnd_at hB.1 dX12_holds_117 ?_
      replace hB := hB.2
      refine xr_i hw (xr_runV (As := [.int (σ1.1 19 (Int32.toNatClampNeg v4)), .int (σ1.1 20 (Int32.toNatClampNeg v4))]) (rest := []) X hw 0 (xc_X12_value l D cy q σ1 (σ1.1 19 (Int32.toNatClampNeg v4)) (σ1.1 20 (Int32.toNatClampNeg v4)) hB _) xm_X12_value xt_6_110 xt_6_112 xt_p_56 ⟨Nat.le_of_ble_eq_true rfl, Nat.le_of_ble_eq_true rfl⟩ xl_B_ShowRingsModel_at rfl rfl rfl rfl hl.1 (Nat.le_of_ble_eq_true rfl) dX12_holds_118 ⟨Nat.zero_le _, Nat.zero_le _⟩) (fun r4 σ3 H locs hB hw => ?_)
      refine lv_istore (lv' := [(6, .int r4), (5, .int r2), (0, .ref (q 0)), (1, .int a1), (2, .int v2), (3, .int v3), (4, .int v4)]) hx hb dX12_holds_121 hl (by decide) rfl (fun ls hl => ?_)
      refine lv_aload_n hx hb dX12_holds_123 rfl (lv_at hl 2 rfl) ?_
      refine xr_getr X hw (xf_X12_67 X) 0 xl_B_ShowRingsModel_at rfl dX12_holds_124 ?_
      refine lv_iload hx hb dX12_holds_127 (lv_at hl 6 rfl) ?_
      refine xr_iald X hw 17 xl_B_ShowRingsModel_relSort_at hB.1 dX12_holds_129 ?_
      replace hB := hB.2
      refine lv_if_ne (tgt := 148) hx hb dX12_holds_130 (by decide) (fun hc => ?_) (fun hc => ?_)
      · replace hB := hB.1 hc
        refine lv_aload_n hx hb dX12_holds_148 rfl (lv_at hl 2 rfl) ?_
        refine xr_getr X hw (xf_X12_67 X) 0 xl_B_ShowRingsModel_at rfl dX12_holds_149 ?_
        refine lv_iload hx hb dX12_holds_152 (lv_at hl 6 rfl) ?_
        refine xr_iald X hw 17 xl_B_ShowRingsModel_relSort_at hB.1 dX12_holds_154 ?_
        replace hB := hB.2
        refine lv_iconst (v := (1 : Int32)) hx hb dX12_holds_155 (by decide) ?_
        refine lv_icmp_ne (tgt := 174) hx hb dX12_holds_156 (by decide) (fun hc => ?_) (fun hc => ?_)
        · replace hB := hB.1 hc
          refine lv_aload_n hx hb dX12_holds_174 rfl (lv_at hl 2 rfl) ?_
          refine xr_getr X hw (xf_X12_67 X) 0 xl_B_ShowRingsModel_at rfl dX12_holds_175 ?_
          refine lv_iload hx hb dX12_holds_178 (lv_at hl 6 rfl) ?_
          refine xr_iald X hw 17 xl_B_ShowRingsModel_relSort_at hB.1 dX12_holds_180 ?_
          replace hB := hB.2
          refine lv_iconst (v := (2 : Int32)) hx hb dX12_holds_181 (by decide) ?_
          refine lv_icmp_ne (tgt := 200) hx hb dX12_holds_182 (by decide) (fun hc => ?_) (fun hc => ?_)
          · replace hB := hB.1 hc
            refine lv_iload hx hb dX12_holds_200 (lv_at hl 1 rfl) ?_
            refine lv_iload hx hb dX12_holds_202 (lv_at hl 0 rfl) ?_
            refine lv_icmp_gt (tgt := 211) hx hb dX12_holds_204 (by decide) (fun hc => ?_) (fun hc => ?_)
            · replace hB := hB.1 hc
              refine lv_iconst (v := (0 : Int32)) hx hb dX12_holds_211 (by decide) ?_
              refine lv_istore_n (lv' := [(2, .int (0 : Int32)), (6, .int r4), (5, .int r2), (0, .ref (q 0)), (1, .int a1), (3, .int v3), (4, .int v4)]) hx hb dX12_holds_212 rfl hl (by decide) rfl (fun ls hl => ?_)
              refine lv_iinc (v := (v3 + (1 : Int32))) (lv' := [(3, .int (v3 + (1 : Int32))), (2, .int (0 : Int32)), (6, .int r4), (5, .int r2), (0, .ref (q 0)), (1, .int a1), (4, .int v4)]) hx hb dX12_holds_213 hl (k := 5) rfl rfl (by decide) rfl (fun ls hl => ?_)
              refine lv_goto (tgt := 26) hx hb dX12_holds_216 (by decide) ?_
              exact hB _ _ _ hw (lv_sub hl [4, 5, 1, 0] rfl)
            · replace hB := hB.2 hc
              refine lv_iconst (v := (1 : Int32)) hx hb dX12_holds_207 (by decide) ?_
              refine lv_goto (tgt := 212) hx hb dX12_holds_208 (by decide) ?_
              refine lv_istore_n (lv' := [(2, .int (1 : Int32)), (6, .int r4), (5, .int r2), (0, .ref (q 0)), (1, .int a1), (3, .int v3), (4, .int v4)]) hx hb dX12_holds_212 rfl hl (by decide) rfl (fun ls hl => ?_)
              refine lv_iinc (v := (v3 + (1 : Int32))) (lv' := [(3, .int (v3 + (1 : Int32))), (2, .int (1 : Int32)), (6, .int r4), (5, .int r2), (0, .ref (q 0)), (1, .int a1), (4, .int v4)]) hx hb dX12_holds_213 hl (k := 5) rfl rfl (by decide) rfl (fun ls hl => ?_)
              refine lv_goto (tgt := 26) hx hb dX12_holds_216 (by decide) ?_
              exact hB _ _ _ hw (lv_sub hl [4, 5, 1, 0] rfl)
          · replace hB := hB.2 hc
            refine lv_iload hx hb dX12_holds_185 (lv_at hl 1 rfl) ?_
            refine lv_iload hx hb dX12_holds_187 (lv_at hl 0 rfl) ?_
            refine lv_icmp_ge (tgt := 196) hx hb dX12_holds_189 (by decide) (fun hc => ?_) (fun hc => ?_)
            · replace hB := hB.1 hc
              refine lv_iconst (v := (0 : Int32)) hx hb dX12_holds_196 (by decide) ?_
              refine lv_goto (tgt := 212) hx hb dX12_holds_197 (by decide) ?_
              refine lv_istore_n (lv' := [(2, .int (0 : Int32)), (6, .int r4), (5, .int r2), (0, .ref (q 0)), (1, .int a1), (3, .int v3), (4, .int v4)]) hx hb dX12_holds_212 rfl hl (by decide) rfl (fun ls hl => ?_)
              refine lv_iinc (v := (v3 + (1 : Int32))) (lv' := [(3, .int (v3 + (1 : Int32))), (2, .int (0 : Int32)), (6, .int r4), (5, .int r2), (0, .ref (q 0)), (1, .int a1), (4, .int v4)]) hx hb dX12_holds_213 hl (k := 5) rfl rfl (by decide) rfl (fun ls hl => ?_)
              refine lv_goto (tgt := 26) hx hb dX12_holds_216 (by decide) ?_
              exact hB _ _ _ hw (lv_sub hl [4, 5, 1, 0] rfl)
            · replace hB := hB.2 hc
              refine lv_iconst (v := (1 : Int32)) hx hb dX12_holds_192 (by decide) ?_
              refine lv_goto (tgt := 212) hx hb dX12_holds_193 (by decide) ?_
              refine lv_istore_n (lv' := [(2, .int (1 : Int32)), (6, .int r4), (5, .int r2), (0, .ref (q 0)), (1, .int a1), (3, .int v3), (4, .int v4)]) hx hb dX12_holds_212 rfl hl (by decide) rfl (fun ls hl => ?_)
              refine lv_iinc (v := (v3 + (1 : Int32))) (lv' := [(3, .int (v3 + (1 : Int32))), (2, .int (1 : Int32)), (6, .int r4), (5, .int r2), (0, .ref (q 0)), (1, .int a1), (4, .int v4)]) hx hb dX12_holds_213 hl (k := 5) rfl rfl (by decide) rfl (fun ls hl => ?_)
              refine lv_goto (tgt := 26) hx hb dX12_holds_216 (by decide) ?_
              exact hB _ _ _ hw (lv_sub hl [4, 5, 1, 0] rfl)
        · replace hB := hB.2 hc
          refine lv_iload hx hb dX12_holds_159 (lv_at hl 1 rfl) ?_
          refine lv_iload hx hb dX12_holds_161 (lv_at hl 0 rfl) ?_
          refine lv_icmp_eq (tgt := 170) hx hb dX12_holds_163 (by decide) (fun hc => ?_) (fun hc => ?_)
          · replace hB := hB.1 hc
            refine lv_iconst (v := (0 : Int32)) hx hb dX12_holds_170 (by decide) ?_
            refine lv_goto (tgt := 212) hx hb dX12_holds_171 (by decide) ?_
            refine lv_istore_n (lv' := [(2, .int (0 : Int32)), (6, .int r4), (5, .int r2), (0, .ref (q 0)), (1, .int a1), (3, .int v3), (4, .int v4)]) hx hb dX12_holds_212 rfl hl (by decide) rfl (fun ls hl => ?_)
            refine lv_iinc (v := (v3 + (1 : Int32))) (lv' := [(3, .int (v3 + (1 : Int32))), (2, .int (0 : Int32)), (6, .int r4), (5, .int r2), (0, .ref (q 0)), (1, .int a1), (4, .int v4)]) hx hb dX12_holds_213 hl (k := 5) rfl rfl (by decide) rfl (fun ls hl => ?_)
            refine lv_goto (tgt := 26) hx hb dX12_holds_216 (by decide) ?_
            exact hB _ _ _ hw (lv_sub hl [4, 5, 1, 0] rfl)
          · replace hB := hB.2 hc
            refine lv_iconst (v := (1 : Int32)) hx hb dX12_holds_166 (by decide) ?_
            refine lv_goto (tgt := 212) hx hb dX12_holds_167 (by decide) ?_
            refine lv_istore_n (lv' := [(2, .int (1 : Int32)), (6, .int r4), (5, .int r2), (0, .ref (q 0)), (1, .int a1), (3, .int v3), (4, .int v4)]) hx hb dX12_holds_212 rfl hl (by decide) rfl (fun ls hl => ?_)
            refine lv_iinc (v := (v3 + (1 : Int32))) (lv' := [(3, .int (v3 + (1 : Int32))), (2, .int (1 : Int32)), (6, .int r4), (5, .int r2), (0, .ref (q 0)), (1, .int a1), (4, .int v4)]) hx hb dX12_holds_213 hl (k := 5) rfl rfl (by decide) rfl (fun ls hl => ?_)
            refine lv_goto (tgt := 26) hx hb dX12_holds_216 (by decide) ?_
            exact hB _ _ _ hw (lv_sub hl [4, 5, 1, 0] rfl)
      · replace hB := hB.2 hc
        refine lv_iload hx hb dX12_holds_133 (lv_at hl 1 rfl) ?_
        refine lv_iload hx hb dX12_holds_135 (lv_at hl 0 rfl) ?_
        refine lv_icmp_ne (tgt := 144) hx hb dX12_holds_137 (by decide) (fun hc => ?_) (fun hc => ?_)
        · replace hB := hB.1 hc
          refine lv_iconst (v := (0 : Int32)) hx hb dX12_holds_144 (by decide) ?_
          refine lv_goto (tgt := 212) hx hb dX12_holds_145 (by decide) ?_
          refine lv_istore_n (lv' := [(2, .int (0 : Int32)), (6, .int r4), (5, .int r2), (0, .ref (q 0)), (1, .int a1), (3, .int v3), (4, .int v4)]) hx hb dX12_holds_212 rfl hl (by decide) rfl (fun ls hl => ?_)
          refine lv_iinc (v := (v3 + (1 : Int32))) (lv' := [(3, .int (v3 + (1 : Int32))), (2, .int (0 : Int32)), (6, .int r4), (5, .int r2), (0, .ref (q 0)), (1, .int a1), (4, .int v4)]) hx hb dX12_holds_213 hl (k := 5) rfl rfl (by decide) rfl (fun ls hl => ?_)
          refine lv_goto (tgt := 26) hx hb dX12_holds_216 (by decide) ?_
          exact hB _ _ _ hw (lv_sub hl [4, 5, 1, 0] rfl)
        · replace hB := hB.2 hc
          refine lv_iconst (v := (1 : Int32)) hx hb dX12_holds_140 (by decide) ?_
          refine lv_goto (tgt := 212) hx hb dX12_holds_141 (by decide) ?_
          refine lv_istore_n (lv' := [(2, .int (1 : Int32)), (6, .int r4), (5, .int r2), (0, .ref (q 0)), (1, .int a1), (3, .int v3), (4, .int v4)]) hx hb dX12_holds_212 rfl hl (by decide) rfl (fun ls hl => ?_)
          refine lv_iinc (v := (v3 + (1 : Int32))) (lv' := [(3, .int (v3 + (1 : Int32))), (2, .int (1 : Int32)), (6, .int r4), (5, .int r2), (0, .ref (q 0)), (1, .int a1), (4, .int v4)]) hx hb dX12_holds_213 hl (k := 5) rfl rfl (by decide) rfl (fun ls hl => ?_)
          refine lv_goto (tgt := 26) hx hb dX12_holds_216 (by decide) ?_
          exact hB _ _ _ hw (lv_sub hl [4, 5, 1, 0] rfl)
    · replace hB := hB.2 hc
      refine lv_goto (tgt := 213) hx hb dX12_holds_80 (by decide) ?_
      refine lv_iinc (v := (v3 + (1 : Int32))) (lv' := [(3, .int (v3 + (1 : Int32))), (0, .ref (q 0)), (1, .int a1), (2, .int v2), (4, .int v4)]) hx hb dX12_holds_213 hl (k := 3) rfl rfl (by decide) rfl (fun ls hl => ?_)
      refine lv_goto (tgt := 26) hx hb dX12_holds_216 (by decide) ?_
      exact hB _ _ _ hw (lv_sub hl [1, 2, 3, 0] rfl))
  unfold xb_X12_holds_e at hB
  refine lv_aload_n hx hb dX12_holds_0 rfl (lv_at hl 0 rfl) ?_
  refine xr_getr X hw (xf_X12_58 X) 0 xl_B_ShowRingsModel_at rfl dX12_holds_1 ?_
  refine lv_iload_n hx hb dX12_holds_4 rfl (lv_at hl 1 rfl) ?_
  refine xr_iald X hw 14 xl_B_ShowRingsModel_relFirst_at hB.1 dX12_holds_5 ?_
  replace hB := hB.2
  refine lv_aload_n hx hb dX12_holds_6 rfl (lv_at hl 0 rfl) ?_
  refine xr_getr X hw (xf_X12_61 X) 0 xl_B_ShowRingsModel_at rfl dX12_holds_7 ?_
  refine lv_iload_n hx hb dX12_holds_10 rfl (lv_at hl 1 rfl) ?_
  refine xr_iald X hw 15 xl_B_ShowRingsModel_relLast_at hB.1 dX12_holds_11 ?_
  replace hB := hB.2
  refine lv_icmp_ne (tgt := 17) hx hb dX12_holds_12 (by decide) (fun hc => ?_) (fun hc => ?_)
  · replace hB := hB.1 hc
    refine lv_iconst (v := (0 : Int32)) hx hb dX12_holds_17 (by decide) ?_
    refine lv_istore_n (lv' := [(2, .int (0 : Int32)), (0, .ref (q 0)), (1, .int a1)]) hx hb dX12_holds_18 rfl hl (by decide) rfl (fun ls hl => ?_)
    refine lv_aload_n hx hb dX12_holds_19 rfl (lv_at hl 1 rfl) ?_
    refine xr_getr X hw (xf_X12_58 X) 0 xl_B_ShowRingsModel_at rfl dX12_holds_20 ?_
    refine lv_iload_n hx hb dX12_holds_23 rfl (lv_at hl 2 rfl) ?_
    refine xr_iald X hw 14 xl_B_ShowRingsModel_relFirst_at hB.1 dX12_holds_24 ?_
    replace hB := hB.2
    refine lv_istore_n (lv' := [(3, .int (σ.1 14 (Int32.toNatClampNeg a1))), (2, .int (0 : Int32)), (0, .ref (q 0)), (1, .int a1)]) hx hb dX12_holds_25 rfl hl (by decide) rfl (fun ls hl => ?_)
    exact hB _ _ _ hw (lv_sub hl [2, 3, 1, 0] rfl)
  · replace hB := hB.2 hc
    refine lv_iconst (v := (1 : Int32)) hx hb dX12_holds_15 (by decide) ?_
    exact xr_zret X hw hr hk hB dX12_holds_16
