theorem xm_X12_isPlanned : xr_MW yX12_isPlanned cX12_isPlanned 3 (some .boolean) 2 := ⟨xt_6_152, xt_1_13, by decide, by decide, by decide +kernel⟩
set_option maxRecDepth 100000 in
set_option maxHeartbeats 4000000 in
theorem xc_X12_planned (l : Launch) (D : va_G) (cy : Nat → ClassId) (q : Nat → Nat) (σ : xw_M) (a1 : Int32) (a2 : Int32) (a3 : Int32) {Z : Int32 → xw_M → Prop} (hU : xu_X12_planned σ a1 a2 a3 Z) : xr_CI l yX12_planned cX12_planned 4 .int { frames := 2, cells := 0, slots := 0, locals := 43 } D cy xl_B q σ [.ref (q 0), .int a1, .int a2, .int a3] Z := by
  refine xr_CI.of RX12 rfl (by decide) (Nat.le_of_ble_eq_true rfl) (fun p e s m below meth c X hw hr hk ls hl => ?_)
  have hx := X.1
  have hb := X.2.1
  have hl : lv_has ls 4 [(0, .ref (q 0)), (1, .int a1), (2, .int a2), (3, .int a3)] := hl
  unfold xu_X12_planned at hU
  have hB := hU
  refine lv_aload_n hx hb dX12_planned_0 rfl (lv_at hl 0 rfl) ?_
  refine lv_iload_n hx hb dX12_planned_1 rfl (lv_at hl 1 rfl) ?_
  refine lv_iload_n hx hb dX12_planned_2 rfl (lv_at hl 2 rfl) ?_
  refine xr_i hw (xr_runV (As := [.int a1, .int a2]) (rest := []) X hw 0 (xc_X12_isPlanned l D cy q σ a1 a2 hB _) xm_X12_isPlanned xt_6_149 xt_6_151 xt_p_61 ⟨Nat.le_of_ble_eq_true rfl, Nat.le_of_ble_eq_true rfl⟩ xl_B_ShowRingsModel_at rfl rfl rfl rfl hl.1 (Nat.le_of_ble_eq_true rfl) dX12_planned_3 ⟨Nat.zero_le _, Nat.zero_le _⟩) (fun r2 σ1 H locs hB hw => ?_)
  refine lv_if_ne (tgt := 11) hx hb dX12_planned_6 (by decide) (fun hc => ?_) (fun hc => ?_)
  · replace hB := hB.1 hc
    refine lv_iload_n hx hb dX12_planned_11 rfl (lv_at hl 3 rfl) ?_
    by_cases hc0 : a3 = (0 : Int32)
    · replace hB := hB.1 hc0
      refine lv_tableIn (tgt := 44) hx hb dX12_planned_12 (by rw [hc0]; decide) (by rw [hc0]; decide) (by rw [hc0]; rfl) (by decide) ?_
      refine lv_aload_n hx hb dX12_planned_44 rfl (lv_at hl 0 rfl) ?_
      refine xr_getr X hw (xf_X12_149 X) 0 xl_B_ShowRingsModel_at rfl dX12_planned_45 ?_
      refine lv_bipush (v := (6 : Int32)) hx hb dX12_planned_48 (by decide) ?_
      refine lv_iload_n hx hb dX12_planned_50 rfl (lv_at hl 1 rfl) ?_
      refine lv_imul hx hb dX12_planned_51 ?_
      refine lv_iload_n hx hb dX12_planned_52 rfl (lv_at hl 2 rfl) ?_
      refine lv_iadd hx hb dX12_planned_53 ?_
      refine xr_iald X hw 44 xl_B_ShowRingsModel_plannedRing_at hB.1 dX12_planned_54 ?_
      replace hB := hB.2
      exact xr_iret X hw hr hk hB dX12_planned_55
    replace hB := hB.2 hc0
    by_cases hc1 : a3 = (1 : Int32)
    · replace hB := hB.1 hc1
      refine lv_tableIn (tgt := 56) hx hb dX12_planned_12 (by rw [hc1]; decide) (by rw [hc1]; decide) (by rw [hc1]; rfl) (by decide) ?_
      refine lv_aload_n hx hb dX12_planned_56 rfl (lv_at hl 0 rfl) ?_
      refine xr_getr X hw (xf_X12_152 X) 0 xl_B_ShowRingsModel_at rfl dX12_planned_57 ?_
      refine lv_bipush (v := (6 : Int32)) hx hb dX12_planned_60 (by decide) ?_
      refine lv_iload_n hx hb dX12_planned_62 rfl (lv_at hl 1 rfl) ?_
      refine lv_imul hx hb dX12_planned_63 ?_
      refine lv_iload_n hx hb dX12_planned_64 rfl (lv_at hl 2 rfl) ?_
      refine lv_iadd hx hb dX12_planned_65 ?_
      refine xr_iald X hw 45 xl_B_ShowRingsModel_plannedJudge_at hB.1 dX12_planned_66 ?_
      replace hB := hB.2
      exact xr_iret X hw hr hk hB dX12_planned_67
    replace hB := hB.2 hc1
    by_cases hc2 : a3 = (2 : Int32)
    · replace hB := hB.1 hc2
      refine lv_tableIn (tgt := 68) hx hb dX12_planned_12 (by rw [hc2]; decide) (by rw [hc2]; decide) (by rw [hc2]; rfl) (by decide) ?_
      refine lv_aload_n hx hb dX12_planned_68 rfl (lv_at hl 0 rfl) ?_
      refine xr_getr X hw (xf_X12_155 X) 0 xl_B_ShowRingsModel_at rfl dX12_planned_69 ?_
      refine lv_bipush (v := (6 : Int32)) hx hb dX12_planned_72 (by decide) ?_
      refine lv_iload_n hx hb dX12_planned_74 rfl (lv_at hl 1 rfl) ?_
      refine lv_imul hx hb dX12_planned_75 ?_
      refine lv_iload_n hx hb dX12_planned_76 rfl (lv_at hl 2 rfl) ?_
      refine lv_iadd hx hb dX12_planned_77 ?_
      refine xr_iald X hw 46 xl_B_ShowRingsModel_plannedFrom_at hB.1 dX12_planned_78 ?_
      replace hB := hB.2
      exact xr_iret X hw hr hk hB dX12_planned_79
    replace hB := hB.2 hc2
    by_cases hc3 : a3 = (3 : Int32)
    · replace hB := hB.1 hc3
      refine lv_tableIn (tgt := 80) hx hb dX12_planned_12 (by rw [hc3]; decide) (by rw [hc3]; decide) (by rw [hc3]; rfl) (by decide) ?_
      refine lv_aload_n hx hb dX12_planned_80 rfl (lv_at hl 0 rfl) ?_
      refine xr_getr X hw (xf_X12_158 X) 0 xl_B_ShowRingsModel_at rfl dX12_planned_81 ?_
      refine lv_bipush (v := (6 : Int32)) hx hb dX12_planned_84 (by decide) ?_
      refine lv_iload_n hx hb dX12_planned_86 rfl (lv_at hl 1 rfl) ?_
      refine lv_imul hx hb dX12_planned_87 ?_
      refine lv_iload_n hx hb dX12_planned_88 rfl (lv_at hl 2 rfl) ?_
      refine lv_iadd hx hb dX12_planned_89 ?_
      refine xr_iald X hw 47 xl_B_ShowRingsModel_plannedTo_at hB.1 dX12_planned_90 ?_
      replace hB := hB.2
      exact xr_iret X hw hr hk hB dX12_planned_91
    replace hB := hB.2 hc3
    refine xr_tdef hx hb (tgt := 92) dX12_planned_12 (by decide) (by decide) (by decide) ?_ ?_
    · intro j hj hx2
      match j, hj, hx2 with
      | 0, _, hx2 => exact absurd hx2 hc0
      | 1, _, hx2 => exact absurd hx2 hc1
      | 2, _, hx2 => exact absurd hx2 hc2
      | 3, _, hx2 => exact absurd hx2 hc3
      | j + 4, hj, _ => exact absurd hj (by simp)
    refine lv_iconst (v := (-1 : Int32)) hx hb dX12_planned_92 (by decide) ?_
    exact xr_iret X hw hr hk hB dX12_planned_93
  · replace hB := hB.2 hc
    refine lv_iconst (v := (-1 : Int32)) hx hb dX12_planned_9 (by decide) ?_
    exact xr_iret X hw hr hk hB dX12_planned_10
set_option maxRecDepth 100000 in
set_option maxHeartbeats 4000000 in
theorem xc_X12_clash (l : Launch) (D : va_G) (cy : Nat → ClassId) (q : Nat → Nat) (σ : xw_M) (a1 : Int32) (a2 : Int32) (a3 : Int32) {Z : Int32 → xw_M → Prop} (hU : xu_X12_clash σ a1 a2 a3 Z) : xr_CI l yX12_clash cX12_clash 7 .int { frames := 2, cells := 0, slots := 0, locals := 43 } D cy xl_B q σ [.ref (q 0), .int a1, .int a2, .int a3] Z := by
  refine xr_CI.of RX12 rfl (by decide) (Nat.le_of_ble_eq_true rfl) (fun p e s m below meth c X hw hr hk ls hl => ?_)
  have hx := X.1
  have hb := X.2.1
  have hl : lv_has ls 7 [(0, .ref (q 0)), (1, .int a1), (2, .int a2), (3, .int a3)] := hl
  have hB := hU (fun (σ : xw_M) (v4 : Int32) (v5 : Int32) (v6 : Int32) => ∀ (H : Heap) (locs : List Loc) (ls : Array Slot), xr_H D cy xl_B q s σ H locs → lv_has ls 7 [(0, .ref (q 0)), (1, .int a1), (2, .int a2), (3, .int a3), (4, .int v4), (5, .int v5), (6, .int v6)] → W p l e ({ frames := 2, cells := 0, slots := 0, locals := 43 } : Room) s m ([.ref (q 0), .int a1, .int a2, .int a3] : List Value).toArray below meth c H locs 0 0 (MQ below (va_Qi Z (xr_po D cy xl_B q) (xw_A xl_B q s.heap.size)) ([.ref (q 0), .int a1, .int a2, .int a3] : List Value).toArray s 0 0 (xw_A xl_B q s.heap.size)) (F0 m 55 ls []))
    (by
    intro σ v4 v5 v6 hB H locs ls hw hl
    unfold xb_X12_clash_55 at hB
    refine lv_iload hx hb dX12_clash_55 (lv_at hl 6 rfl) ?_
    refine lv_aload_n hx hb dX12_clash_57 rfl (lv_at hl 0 rfl) ?_
    refine xr_geti X hw (xf_X12_302 X) 0 xl_B_ShowRingsModel_at rfl dX12_clash_58 ?_
    refine lv_icmp_ge (tgt := 131) hx hb dX12_clash_61 (by decide) (fun hc => ?_) (fun hc => ?_)
    · replace hB := hB.1 hc
      refine lv_iload hx hb dX12_clash_131 (lv_at hl 5 rfl) ?_
      refine lv_aload_n hx hb dX12_clash_133 rfl (lv_at hl 0 rfl) ?_
      refine lv_iload_n hx hb dX12_clash_134 rfl (lv_at hl 1 rfl) ?_
      refine lv_iload_n hx hb dX12_clash_135 rfl (lv_at hl 2 rfl) ?_
      refine xr_i hw (xr_runV (As := [.int a1, .int a2]) (rest := [.int v5]) X hw 0 (xc_X12_handlersOf l D cy q σ a1 a2 hB _) xm_X12_handlersOf xt_6_130 xt_6_132 xt_p_58 ⟨Nat.le_of_ble_eq_true rfl, Nat.le_of_ble_eq_true rfl⟩ xl_B_ShowRingsModel_at rfl rfl rfl rfl hl.1 (Nat.le_of_ble_eq_true rfl) dX12_clash_136 ⟨Nat.zero_le _, Nat.zero_le _⟩) (fun r5 σ4 H locs hB hw => ?_)
      refine lv_iand hx hb dX12_clash_139 ?_
      refine lv_istore (lv' := [(5, .int (v5 &&& r5)), (0, .ref (q 0)), (1, .int a1), (2, .int a2), (3, .int a3), (4, .int v4), (6, .int v6)]) hx hb dX12_clash_140 hl (by decide) rfl (fun ls hl => ?_)
      refine lv_iload hx hb dX12_clash_142 (lv_at hl 0 rfl) ?_
      refine lv_if_ne (tgt := 151) hx hb dX12_clash_144 (by decide) (fun hc => ?_) (fun hc => ?_)
      · replace hB := hB.1 hc
        refine lv_iload hx hb dX12_clash_151 (lv_at hl 0 rfl) ?_
        refine xr_i hw (xr_runS (As := [.int (v5 &&& r5)]) (rest := []) X hw (xc_X12_least l D cy q σ4 (v5 &&& r5) hB _) xm_X12_least xt_6_138 xt_6_139 ⟨Nat.le_of_ble_eq_true rfl, Nat.le_of_ble_eq_true rfl⟩ rfl rfl hl.1 (Nat.le_of_ble_eq_true rfl) dX12_clash_153 ⟨Nat.zero_le _, Nat.zero_le _⟩) (fun r7 σ6 H locs hB hw => ?_)
        exact xr_iret X hw hr hk hB dX12_clash_156
      · replace hB := hB.2 hc
        refine lv_iconst (v := (-1 : Int32)) hx hb dX12_clash_147 (by decide) ?_
        refine lv_goto (tgt := 156) hx hb dX12_clash_148 (by decide) ?_
        exact xr_iret X hw hr hk hB dX12_clash_156
    · replace hB := hB.2 hc
      refine lv_iload hx hb dX12_clash_64 (lv_at hl 6 rfl) ?_
      refine lv_iload_n hx hb dX12_clash_66 rfl (lv_at hl 2 rfl) ?_
      refine lv_icmp_eq (tgt := 125) hx hb dX12_clash_67 (by decide) (fun hc => ?_) (fun hc => ?_)
      · replace hB := hB.1 hc
        refine lv_iinc (v := (v6 + (1 : Int32))) (lv' := [(6, .int (v6 + (1 : Int32))), (0, .ref (q 0)), (1, .int a1), (2, .int a2), (3, .int a3), (4, .int v4), (5, .int v5)]) hx hb dX12_clash_125 hl (k := 6) rfl rfl (by decide) rfl (fun ls hl => ?_)
        refine lv_goto (tgt := 55) hx hb dX12_clash_128 (by decide) ?_
        exact hB _ _ _ hw (lv_sub hl [1, 2, 3, 4, 5, 6, 0] rfl)
      · replace hB := hB.2 hc
        refine lv_aload_n hx hb dX12_clash_70 rfl (lv_at hl 0 rfl) ?_
        refine lv_iload_n hx hb dX12_clash_71 rfl (lv_at hl 1 rfl) ?_
        refine lv_iload hx hb dX12_clash_72 (lv_at hl 6 rfl) ?_
        refine xr_i hw (xr_runV (As := [.int a1, .int v6]) (rest := []) X hw 0 (xc_X12_isPlanned l D cy q σ a1 v6 hB _) xm_X12_isPlanned xt_6_149 xt_6_151 xt_p_61 ⟨Nat.le_of_ble_eq_true rfl, Nat.le_of_ble_eq_true rfl⟩ xl_B_ShowRingsModel_at rfl rfl rfl rfl hl.1 (Nat.le_of_ble_eq_true rfl) dX12_clash_74 ⟨Nat.zero_le _, Nat.zero_le _⟩) (fun r9 σ8 H locs hB hw => ?_)
        refine lv_if_eq (tgt := 125) hx hb dX12_clash_77 (by decide) (fun hc => ?_) (fun hc => ?_)
        · replace hB := hB.1 hc
          refine lv_iinc (v := (v6 + (1 : Int32))) (lv' := [(6, .int (v6 + (1 : Int32))), (0, .ref (q 0)), (1, .int a1), (2, .int a2), (3, .int a3), (4, .int v4), (5, .int v5)]) hx hb dX12_clash_125 hl (k := 6) rfl rfl (by decide) rfl (fun ls hl => ?_)
          refine lv_goto (tgt := 55) hx hb dX12_clash_128 (by decide) ?_
          exact hB _ _ _ hw (lv_sub hl [1, 2, 3, 4, 5, 6, 0] rfl)
        · replace hB := hB.2 hc
          refine lv_aload_n hx hb dX12_clash_80 rfl (lv_at hl 0 rfl) ?_
          refine xr_getr X hw (xf_X12_155 X) 0 xl_B_ShowRingsModel_at rfl dX12_clash_81 ?_
          refine lv_bipush (v := (6 : Int32)) hx hb dX12_clash_84 (by decide) ?_
          refine lv_iload_n hx hb dX12_clash_86 rfl (lv_at hl 1 rfl) ?_
          refine lv_imul hx hb dX12_clash_87 ?_
          refine lv_iload hx hb dX12_clash_88 (lv_at hl 6 rfl) ?_
          refine lv_iadd hx hb dX12_clash_90 ?_
          refine xr_iald X hw 46 xl_B_ShowRingsModel_plannedFrom_at hB.1 dX12_clash_91 ?_
          replace hB := hB.2
          refine lv_iload hx hb dX12_clash_92 (lv_at hl 4 rfl) ?_
          refine lv_icmp_ge (tgt := 125) hx hb dX12_clash_94 (by decide) (fun hc => ?_) (fun hc => ?_)
          · replace hB := hB.1 hc
            refine lv_iinc (v := (v6 + (1 : Int32))) (lv' := [(6, .int (v6 + (1 : Int32))), (0, .ref (q 0)), (1, .int a1), (2, .int a2), (3, .int a3), (4, .int v4), (5, .int v5)]) hx hb dX12_clash_125 hl (k := 6) rfl rfl (by decide) rfl (fun ls hl => ?_)
            refine lv_goto (tgt := 55) hx hb dX12_clash_128 (by decide) ?_
            exact hB _ _ _ hw (lv_sub hl [1, 2, 3, 4, 5, 6, 0] rfl)
          · replace hB := hB.2 hc
            refine lv_iload_n hx hb dX12_clash_97 rfl (lv_at hl 3 rfl) ?_
            refine lv_aload_n hx hb dX12_clash_98 rfl (lv_at hl 0 rfl) ?_
            refine xr_getr X hw (xf_X12_158 X) 0 xl_B_ShowRingsModel_at rfl dX12_clash_99 ?_
            refine lv_bipush (v := (6 : Int32)) hx hb dX12_clash_102 (by decide) ?_
            refine lv_iload_n hx hb dX12_clash_104 rfl (lv_at hl 1 rfl) ?_
            refine lv_imul hx hb dX12_clash_105 ?_
            refine lv_iload hx hb dX12_clash_106 (lv_at hl 6 rfl) ?_
            refine lv_iadd hx hb dX12_clash_108 ?_
            refine xr_iald X hw 47 xl_B_ShowRingsModel_plannedTo_at hB.1 dX12_clash_109 ?_
            replace hB := hB.2
            refine lv_icmp_ge (tgt := 125) hx hb dX12_clash_110 (by decide) (fun hc => ?_) (fun hc => ?_)
            · replace hB := hB.1 hc
              refine lv_iinc (v := (v6 + (1 : Int32))) (lv' := [(6, .int (v6 + (1 : Int32))), (0, .ref (q 0)), (1, .int a1), (2, .int a2), (3, .int a3), (4, .int v4), (5, .int v5)]) hx hb dX12_clash_125 hl (k := 6) rfl rfl (by decide) rfl (fun ls hl => ?_)
              refine lv_goto (tgt := 55) hx hb dX12_clash_128 (by decide) ?_
              exact hB _ _ _ hw (lv_sub hl [1, 2, 3, 4, 5, 6, 0] rfl)
            · replace hB := hB.2 hc
              refine lv_iload hx hb dX12_clash_113 (lv_at hl 5 rfl) ?_
              refine lv_aload_n hx hb dX12_clash_115 rfl (lv_at hl 0 rfl) ?_
              refine lv_iload_n hx hb dX12_clash_116 rfl (lv_at hl 1 rfl) ?_
              refine lv_iload hx hb dX12_clash_117 (lv_at hl 6 rfl) ?_
              refine xr_i hw (xr_runV (As := [.int a1, .int v6]) (rest := [.int v5]) X hw 0 (xc_X12_handlersOf l D cy q σ8 a1 v6 hB _) xm_X12_handlersOf xt_6_130 xt_6_132 xt_p_58 ⟨Nat.le_of_ble_eq_true rfl, Nat.le_of_ble_eq_true rfl⟩ xl_B_ShowRingsModel_at rfl rfl rfl rfl hl.1 (Nat.le_of_ble_eq_true rfl) dX12_clash_119 ⟨Nat.zero_le _, Nat.zero_le _⟩) (fun r11 σ10 H locs hB hw => ?_)
              refine lv_ior hx hb dX12_clash_122 ?_
              refine lv_istore (lv' := [(5, .int (v5 ||| r11)), (0, .ref (q 0)), (1, .int a1), (2, .int a2), (3, .int a3), (4, .int v4), (6, .int v6)]) hx hb dX12_clash_123 hl (by decide) rfl (fun ls hl => ?_)
              refine lv_iinc (v := (v6 + (1 : Int32))) (lv' := [(6, .int (v6 + (1 : Int32))), (5, .int (v5 ||| r11)), (0, .ref (q 0)), (1, .int a1), (2, .int a2), (3, .int a3), (4, .int v4)]) hx hb dX12_clash_125 hl (k := 6) rfl rfl (by decide) rfl (fun ls hl => ?_)
              refine lv_goto (tgt := 55) hx hb dX12_clash_128 (by decide) ?_
              exact hB _ _ _ hw (lv_sub hl [2, 3, 4, 5, 6, 1, 0] rfl))
  unfold xb_X12_clash_e at hB
  refine lv_aload_n hx hb dX12_clash_0 rfl (lv_at hl 0 rfl) ?_
  refine lv_iload_n hx hb dX12_clash_1 rfl (lv_at hl 1 rfl) ?_
  refine lv_iload_n hx hb dX12_clash_2 rfl (lv_at hl 2 rfl) ?_
  refine xr_i hw (xr_runV (As := [.int a1, .int a2]) (rest := []) X hw 0 (xc_X12_isPlanned l D cy q σ a1 a2 hB _) xm_X12_isPlanned xt_6_149 xt_6_151 xt_p_61 ⟨Nat.le_of_ble_eq_true rfl, Nat.le_of_ble_eq_true rfl⟩ xl_B_ShowRingsModel_at rfl rfl rfl rfl hl.1 (Nat.le_of_ble_eq_true rfl) dX12_clash_3 ⟨Nat.zero_le _, Nat.zero_le _⟩) (fun r2 σ1 H locs hB hw => ?_)
  refine lv_if_eq (tgt := 20) hx hb dX12_clash_6 (by decide) (fun hc => ?_) (fun hc => ?_)
  · replace hB := hB.1 hc
    refine lv_iconst (v := (-1 : Int32)) hx hb dX12_clash_20 (by decide) ?_
    exact xr_iret X hw hr hk hB dX12_clash_21
  · replace hB := hB.2 hc
    refine lv_iload_n hx hb dX12_clash_9 rfl (lv_at hl 3 rfl) ?_
    refine lv_if_lt (tgt := 20) hx hb dX12_clash_10 (by decide) (fun hc => ?_) (fun hc => ?_)
    · replace hB := hB.1 hc
      refine lv_iconst (v := (-1 : Int32)) hx hb dX12_clash_20 (by decide) ?_
      exact xr_iret X hw hr hk hB dX12_clash_21
    · replace hB := hB.2 hc
      refine lv_iload_n hx hb dX12_clash_13 rfl (lv_at hl 3 rfl) ?_
      refine lv_sipush (v := (9999 : Int32)) hx hb dX12_clash_14 (by decide) ?_
      refine lv_icmp_le (tgt := 22) hx hb dX12_clash_17 (by decide) (fun hc => ?_) (fun hc => ?_)
      · replace hB := hB.1 hc
        refine lv_iload_n hx hb dX12_clash_22 rfl (lv_at hl 3 rfl) ?_
        refine lv_aload_n hx hb dX12_clash_23 rfl (lv_at hl 0 rfl) ?_
        refine xr_getr X hw (xf_X12_158 X) 0 xl_B_ShowRingsModel_at rfl dX12_clash_24 ?_
        refine lv_bipush (v := (6 : Int32)) hx hb dX12_clash_27 (by decide) ?_
        refine lv_iload_n hx hb dX12_clash_29 rfl (lv_at hl 1 rfl) ?_
        refine lv_imul hx hb dX12_clash_30 ?_
        refine lv_iload_n hx hb dX12_clash_31 rfl (lv_at hl 2 rfl) ?_
        refine lv_iadd hx hb dX12_clash_32 ?_
        refine xr_iald X hw 47 xl_B_ShowRingsModel_plannedTo_at hB.1 dX12_clash_33 ?_
        replace hB := hB.2
        refine lv_iadd hx hb dX12_clash_34 ?_
        refine lv_aload_n hx hb dX12_clash_35 rfl (lv_at hl 0 rfl) ?_
        refine xr_getr X hw (xf_X12_155 X) 0 xl_B_ShowRingsModel_at rfl dX12_clash_36 ?_
        refine lv_bipush (v := (6 : Int32)) hx hb dX12_clash_39 (by decide) ?_
        refine lv_iload_n hx hb dX12_clash_41 rfl (lv_at hl 1 rfl) ?_
        refine lv_imul hx hb dX12_clash_42 ?_
        refine lv_iload_n hx hb dX12_clash_43 rfl (lv_at hl 2 rfl) ?_
        refine lv_iadd hx hb dX12_clash_44 ?_
        refine xr_iald X hw 46 xl_B_ShowRingsModel_plannedFrom_at hB.1 dX12_clash_45 ?_
        replace hB := hB.2
        refine lv_isub hx hb dX12_clash_46 ?_
        refine lv_topi (fun x3 hx3 => ?_)
        replace hB := hB _ hx3
        refine lv_istore (lv' := [(4, .int x3), (0, .ref (q 0)), (1, .int a1), (2, .int a2), (3, .int a3)]) hx hb dX12_clash_47 hl (by decide) rfl (fun ls hl => ?_)
        refine lv_iconst (v := (0 : Int32)) hx hb dX12_clash_49 (by decide) ?_
        refine lv_istore (lv' := [(5, .int (0 : Int32)), (4, .int x3), (0, .ref (q 0)), (1, .int a1), (2, .int a2), (3, .int a3)]) hx hb dX12_clash_50 hl (by decide) rfl (fun ls hl => ?_)
        refine lv_iconst (v := (0 : Int32)) hx hb dX12_clash_52 (by decide) ?_
        refine lv_istore (lv' := [(6, .int (0 : Int32)), (5, .int (0 : Int32)), (4, .int x3), (0, .ref (q 0)), (1, .int a1), (2, .int a2), (3, .int a3)]) hx hb dX12_clash_53 hl (by decide) rfl (fun ls hl => ?_)
        exact hB _ _ _ hw (lv_sub hl [3, 4, 5, 6, 2, 1, 0] rfl)
      · replace hB := hB.2 hc
        refine lv_iconst (v := (-1 : Int32)) hx hb dX12_clash_20 (by decide) ?_
        exact xr_iret X hw hr hk hB dX12_clash_21
set_option maxRecDepth 100000 in
set_option maxHeartbeats 4000000 in
theorem xc_X12_isTold (l : Launch) (D : va_G) (cy : Nat → ClassId) (q : Nat → Nat) (σ : xw_M) (a1 : Int32) (a2 : Int32) (a3 : Int32) (a4 : Int32) {Z : Int32 → xw_M → Prop} (hU : xu_X12_isTold σ a1 a2 a3 a4 Z) : xr_CI l yX12_isTold cX12_isTold 6 .boolean { frames := 0, cells := 0, slots := 0, locals := 0 } D cy xl_B q σ [.ref (q 0), .int a1, .int a2, .int a3, .int a4] Z := by
  refine xr_CI.of RX12 rfl (by decide) (Nat.le_of_ble_eq_true rfl) (fun p e s m below meth c X hw hr hk ls hl => ?_)
  have hx := X.1
  have hb := X.2.1
  have hl : lv_has ls 6 [(0, .ref (q 0)), (1, .int a1), (2, .int a2), (3, .int a3), (4, .int a4)] := hl
  have hB := hU (fun (σ : xw_M) (v5 : Int32) => ∀ (H : Heap) (locs : List Loc) (ls : Array Slot), xr_H D cy xl_B q s σ H locs → lv_has ls 6 [(0, .ref (q 0)), (1, .int a1), (2, .int a2), (3, .int a3), (4, .int a4), (5, .int v5)] → W p l e ({ frames := 0, cells := 0, slots := 0, locals := 0 } : Room) s m ([.ref (q 0), .int a1, .int a2, .int a3, .int a4] : List Value).toArray below meth c H locs 0 0 (MQ below (va_Qi Z (xr_po D cy xl_B q) (xw_A xl_B q s.heap.size)) ([.ref (q 0), .int a1, .int a2, .int a3, .int a4] : List Value).toArray s 0 0 (xw_A xl_B q s.heap.size)) (F0 m 3 ls []))
    (by
    intro σ v5 hB H locs ls hw hl
    unfold xb_X12_isTold_3 at hB
    refine lv_iload hx hb dX12_isTold_3 (lv_at hl 5 rfl) ?_
    refine lv_iload hx hb dX12_isTold_5 (lv_at hl 4 rfl) ?_
    refine lv_icmp_ge (tgt := 51) hx hb dX12_isTold_7 (by decide) (fun hc => ?_) (fun hc => ?_)
    · replace hB := hB.1 hc
      refine lv_iconst (v := (0 : Int32)) hx hb dX12_isTold_51 (by decide) ?_
      exact xr_zret X hw hr hk hB dX12_isTold_52
    · replace hB := hB.2 hc
      refine lv_aload_n hx hb dX12_isTold_10 rfl (lv_at hl 0 rfl) ?_
      refine xr_getr X hw (xf_X12_131 X) 0 xl_B_ShowRingsModel_at rfl dX12_isTold_11 ?_
      refine lv_iload hx hb dX12_isTold_14 (lv_at hl 5 rfl) ?_
      refine xr_iald X hw 38 xl_B_ShowRingsModel_factSort_at hB.1 dX12_isTold_16 ?_
      replace hB := hB.2
      refine lv_iload_n hx hb dX12_isTold_17 rfl (lv_at hl 1 rfl) ?_
      refine lv_icmp_ne (tgt := 45) hx hb dX12_isTold_18 (by decide) (fun hc => ?_) (fun hc => ?_)
      · replace hB := hB.1 hc
        refine lv_iinc (v := (v5 + (1 : Int32))) (lv' := [(5, .int (v5 + (1 : Int32))), (0, .ref (q 0)), (1, .int a1), (2, .int a2), (3, .int a3), (4, .int a4)]) hx hb dX12_isTold_45 hl (k := 5) rfl rfl (by decide) rfl (fun ls hl => ?_)
        refine lv_goto (tgt := 3) hx hb dX12_isTold_48 (by decide) ?_
        exact hB _ _ _ hw (lv_sub hl [1, 2, 3, 4, 5, 0] rfl)
      · replace hB := hB.2 hc
        refine lv_aload_n hx hb dX12_isTold_21 rfl (lv_at hl 0 rfl) ?_
        refine xr_getr X hw (xf_X12_134 X) 0 xl_B_ShowRingsModel_at rfl dX12_isTold_22 ?_
        refine lv_iload hx hb dX12_isTold_25 (lv_at hl 5 rfl) ?_
        refine xr_iald X hw 39 xl_B_ShowRingsModel_factIn_at hB.1 dX12_isTold_27 ?_
        replace hB := hB.2
        refine lv_iload_n hx hb dX12_isTold_28 rfl (lv_at hl 2 rfl) ?_
        refine lv_icmp_ne (tgt := 45) hx hb dX12_isTold_29 (by decide) (fun hc => ?_) (fun hc => ?_)
        · replace hB := hB.1 hc
          refine lv_iinc (v := (v5 + (1 : Int32))) (lv' := [(5, .int (v5 + (1 : Int32))), (0, .ref (q 0)), (1, .int a1), (2, .int a2), (3, .int a3), (4, .int a4)]) hx hb dX12_isTold_45 hl (k := 5) rfl rfl (by decide) rfl (fun ls hl => ?_)
          refine lv_goto (tgt := 3) hx hb dX12_isTold_48 (by decide) ?_
          exact hB _ _ _ hw (lv_sub hl [1, 2, 3, 4, 5, 0] rfl)
        · replace hB := hB.2 hc
          refine lv_aload_n hx hb dX12_isTold_32 rfl (lv_at hl 0 rfl) ?_
          refine xr_getr X hw (xf_X12_137 X) 0 xl_B_ShowRingsModel_at rfl dX12_isTold_33 ?_
          refine lv_iload hx hb dX12_isTold_36 (lv_at hl 5 rfl) ?_
          refine xr_iald X hw 40 xl_B_ShowRingsModel_factDog_at hB.1 dX12_isTold_38 ?_
          replace hB := hB.2
          refine lv_iload_n hx hb dX12_isTold_39 rfl (lv_at hl 3 rfl) ?_
          refine lv_icmp_ne (tgt := 45) hx hb dX12_isTold_40 (by decide) (fun hc => ?_) (fun hc => ?_)
          · replace hB := hB.1 hc
            refine lv_iinc (v := (v5 + (1 : Int32))) (lv' := [(5, .int (v5 + (1 : Int32))), (0, .ref (q 0)), (1, .int a1), (2, .int a2), (3, .int a3), (4, .int a4)]) hx hb dX12_isTold_45 hl (k := 5) rfl rfl (by decide) rfl (fun ls hl => ?_)
            refine lv_goto (tgt := 3) hx hb dX12_isTold_48 (by decide) ?_
            exact hB _ _ _ hw (lv_sub hl [1, 2, 3, 4, 5, 0] rfl)
          · replace hB := hB.2 hc
            refine lv_iconst (v := (1 : Int32)) hx hb dX12_isTold_43 (by decide) ?_
            exact xr_zret X hw hr hk hB dX12_isTold_44)
  unfold xb_X12_isTold_e at hB
  refine lv_iconst (v := (0 : Int32)) hx hb dX12_isTold_0 (by decide) ?_
  refine lv_istore (lv' := [(5, .int (0 : Int32)), (0, .ref (q 0)), (1, .int a1), (2, .int a2), (3, .int a3), (4, .int a4)]) hx hb dX12_isTold_1 hl (by decide) rfl (fun ls hl => ?_)
  exact hB _ _ _ hw (lv_sub hl [1, 2, 3, 4, 5, 0] rfl)
