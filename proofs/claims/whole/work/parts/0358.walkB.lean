theorem xm_X12_pointsOf : xr_MW yX12_pointsOf cX12_pointsOf 7 (some .int) 3 := ⟨xt_6_188, xt_1_13, by decide, by decide, by decide +kernel⟩
set_option maxRecDepth 100000 in
set_option maxHeartbeats 4000000 in
theorem xc_X12_points (l : Launch) (D : va_G) (cy : Nat → ClassId) (q : Nat → Nat) (σ : xw_M) (a1 : Int32) (a2 : Int32) (a3 : Int32) {Z : Int32 → xw_M → Prop} (hU : xu_X12_points σ a1 a2 a3 Z) : xr_CI l yX12_points cX12_points 4 .int { frames := 8, cells := 0, slots := 0, locals := 201 } D cy xl_B q σ [.ref (q 0), .int a1, .int a2, .int a3] Z := by
  refine xr_CI.of RX12 rfl (by decide) (Nat.le_of_ble_eq_true rfl) (fun p e s m below meth c X hw hr hk ls hl => ?_)
  have hx := X.1
  have hb := X.2.1
  have hl : lv_has ls 4 [(0, .ref (q 0)), (1, .int a1), (2, .int a2), (3, .int a3)] := hl
  unfold xu_X12_points at hU
  have hB := hU
  refine lv_aload_n hx hb dX12_points_0 rfl (lv_at hl 0 rfl) ?_
  refine lv_iload_n hx hb dX12_points_1 rfl (lv_at hl 1 rfl) ?_
  refine xr_i hw (xr_runV (As := [.int a1]) (rest := []) X hw 0 (xc_X12_isShow l D cy q σ a1 hB _) xm_X12_isShow xt_6_46 xt_6_48 xt_p_44 ⟨Nat.le_of_ble_eq_true rfl, Nat.le_of_ble_eq_true rfl⟩ xl_B_ShowRingsModel_at rfl rfl rfl rfl hl.1 (Nat.le_of_ble_eq_true rfl) dX12_points_2 ⟨Nat.zero_le _, Nat.zero_le _⟩) (fun r2 σ1 H locs hB hw => ?_)
  refine lv_if_eq (tgt := 34) hx hb dX12_points_5 (by decide) (fun hc => ?_) (fun hc => ?_)
  · replace hB := hB.1 hc
    refine lv_iconst (v := (0 : Int32)) hx hb dX12_points_34 (by decide) ?_
    exact xr_iret X hw hr hk hB dX12_points_35
  · replace hB := hB.2 hc
    refine lv_aload_n hx hb dX12_points_8 rfl (lv_at hl 0 rfl) ?_
    refine lv_iload_n hx hb dX12_points_9 rfl (lv_at hl 2 rfl) ?_
    refine xr_i hw (xr_runV (As := [.int a2]) (rest := []) X hw 0 (xc_X12_isDog l D cy q σ1 a2 hB _) xm_X12_isDog xt_6_50 xt_6_52 xt_p_45 ⟨Nat.le_of_ble_eq_true rfl, Nat.le_of_ble_eq_true rfl⟩ xl_B_ShowRingsModel_at rfl rfl rfl rfl hl.1 (Nat.le_of_ble_eq_true rfl) dX12_points_10 ⟨Nat.zero_le _, Nat.zero_le _⟩) (fun r4 σ3 H locs hB hw => ?_)
    refine lv_if_eq (tgt := 34) hx hb dX12_points_13 (by decide) (fun hc => ?_) (fun hc => ?_)
    · replace hB := hB.1 hc
      refine lv_iconst (v := (0 : Int32)) hx hb dX12_points_34 (by decide) ?_
      exact xr_iret X hw hr hk hB dX12_points_35
    · replace hB := hB.2 hc
      refine lv_aload_n hx hb dX12_points_16 rfl (lv_at hl 0 rfl) ?_
      refine lv_iload_n hx hb dX12_points_17 rfl (lv_at hl 3 rfl) ?_
      refine xr_i hw (xr_runV (As := [.int a3]) (rest := []) X hw 0 (xc_X12_isKnown l D cy q σ3 a3 hB _) xm_X12_isKnown xt_6_66 xt_6_68 xt_p_47 ⟨Nat.le_of_ble_eq_true rfl, Nat.le_of_ble_eq_true rfl⟩ xl_B_ShowRingsModel_at rfl rfl rfl rfl hl.1 (Nat.le_of_ble_eq_true rfl) dX12_points_18 ⟨Nat.zero_le _, Nat.zero_le _⟩) (fun r6 σ5 H locs hB hw => ?_)
      refine lv_if_eq (tgt := 34) hx hb dX12_points_21 (by decide) (fun hc => ?_) (fun hc => ?_)
      · replace hB := hB.1 hc
        refine lv_iconst (v := (0 : Int32)) hx hb dX12_points_34 (by decide) ?_
        exact xr_iret X hw hr hk hB dX12_points_35
      · replace hB := hB.2 hc
        refine lv_aload_n hx hb dX12_points_24 rfl (lv_at hl 0 rfl) ?_
        refine lv_iload_n hx hb dX12_points_25 rfl (lv_at hl 1 rfl) ?_
        refine lv_iload_n hx hb dX12_points_26 rfl (lv_at hl 2 rfl) ?_
        refine lv_iload_n hx hb dX12_points_27 rfl (lv_at hl 3 rfl) ?_
        refine xr_i hw (xr_runV (As := [.int a1, .int a2, .int a3]) (rest := []) X hw 0 (xc_X12_pointsOf l D cy q σ5 a1 a2 a3 hB _) xm_X12_pointsOf xt_6_185 xt_6_187 xt_p_66 ⟨Nat.le_of_ble_eq_true rfl, Nat.le_of_ble_eq_true rfl⟩ xl_B_ShowRingsModel_at rfl rfl rfl rfl hl.1 (Nat.le_of_ble_eq_true rfl) dX12_points_28 ⟨Nat.zero_le _, Nat.zero_le _⟩) (fun r8 σ7 H locs hB hw => ?_)
        refine lv_goto (tgt := 35) hx hb dX12_points_31 (by decide) ?_
        exact xr_iret X hw hr hk hB dX12_points_35
set_option maxRecDepth 100000 in
set_option maxHeartbeats 4000000 in
theorem xc_X12_title (l : Launch) (D : va_G) (cy : Nat → ClassId) (q : Nat → Nat) (σ : xw_M) (a1 : Int32) (a2 : Int32) {Z : Int32 → xw_M → Prop} (hU : xu_X12_title σ a1 a2 Z) : xr_CI l yX12_title cX12_title 9 .int { frames := 8, cells := 0, slots := 0, locals := 201 } D cy xl_B q σ [.ref (q 0), .int a1, .int a2] Z := by
  refine xr_CI.of RX12 rfl (by decide) (Nat.le_of_ble_eq_true rfl) (fun p e s m below meth c X hw hr hk ls hl => ?_)
  have hx := X.1
  have hb := X.2.1
  have hl : lv_has ls 9 [(0, .ref (q 0)), (1, .int a1), (2, .int a2)] := hl
  have hB := hU (fun (σ : xw_M) (v3 : Int32) (v4 : Int32) => ∀ (H : Heap) (locs : List Loc) (ls : Array Slot), xr_H D cy xl_B q s σ H locs → lv_has ls 9 [(0, .ref (q 0)), (1, .int a1), (2, .int a2), (3, .int v3), (4, .int v4)] → W p l e ({ frames := 8, cells := 0, slots := 0, locals := 201 } : Room) s m ([.ref (q 0), .int a1, .int a2] : List Value).toArray below meth c H locs 0 0 (MQ below (va_Qi Z (xr_po D cy xl_B q) (xw_A xl_B q s.heap.size)) ([.ref (q 0), .int a1, .int a2] : List Value).toArray s 0 0 (xw_A xl_B q s.heap.size)) (F0 m 41 ls []))
    (fun (σ : xw_M) (v3 : Int32) (v4 : Int32) (v5 : Int32) (v6 : Int32) => ∀ (H : Heap) (locs : List Loc) (ls : Array Slot), xr_H D cy xl_B q s σ H locs → lv_has ls 9 [(0, .ref (q 0)), (1, .int a1), (2, .int a2), (3, .int v3), (4, .int v4), (5, .int v5), (6, .int v6)] → W p l e ({ frames := 8, cells := 0, slots := 0, locals := 201 } : Room) s m ([.ref (q 0), .int a1, .int a2] : List Value).toArray below meth c H locs 0 0 (MQ below (va_Qi Z (xr_po D cy xl_B q) (xw_A xl_B q s.heap.size)) ([.ref (q 0), .int a1, .int a2] : List Value).toArray s 0 0 (xw_A xl_B q s.heap.size)) (F0 m 89 ls []))
    (fun (σ : xw_M) (v3 : Int32) (v4 : Int32) (v5 : Int32) (v6 : Int32) (v7 : Int32) (v8 : Int32) => ∀ (H : Heap) (locs : List Loc) (ls : Array Slot), xr_H D cy xl_B q s σ H locs → lv_has ls 9 [(0, .ref (q 0)), (1, .int a1), (2, .int a2), (3, .int v3), (4, .int v4), (5, .int v5), (6, .int v6), (7, .int v7), (8, .int v8)] → W p l e ({ frames := 8, cells := 0, slots := 0, locals := 201 } : Room) s m ([.ref (q 0), .int a1, .int a2] : List Value).toArray below meth c H locs 0 0 (MQ below (va_Qi Z (xr_po D cy xl_B q) (xw_A xl_B q s.heap.size)) ([.ref (q 0), .int a1, .int a2] : List Value).toArray s 0 0 (xw_A xl_B q s.heap.size)) (F0 m 158 ls []))
    (by
    intro σ v3 v4 hB H locs ls hw hl
    unfold xb_X12_title_41 at hB
    refine lv_iload hx hb dX12_title_41 (lv_at hl 4 rfl) ?_
    refine lv_bipush (v := (16 : Int32)) hx hb dX12_title_43 (by decide) ?_
    refine lv_aload_n hx hb dX12_title_45 rfl (lv_at hl 0 rfl) ?_
    refine xr_geti X hw (xf_X12_266 X) 0 xl_B_ShowRingsModel_at rfl dX12_title_46 ?_
    refine lv_imul hx hb dX12_title_49 ?_
    refine lv_icmp_lt (tgt := 73) hx hb dX12_title_50 (by decide) (fun hc => ?_) (fun hc => ?_)
    · replace hB := hB.1 hc
      refine lv_iload_n hx hb dX12_title_73 rfl (lv_at hl 3 rfl) ?_
      refine lv_iconst (v := (-1 : Int32)) hx hb dX12_title_74 (by decide) ?_
      refine lv_icmp_ne (tgt := 80) hx hb dX12_title_75 (by decide) (fun hc => ?_) (fun hc => ?_)
      · replace hB := hB.1 hc
        refine lv_iconst (v := (0 : Int32)) hx hb dX12_title_80 (by decide) ?_
        refine lv_istore (lv' := [(4, .int (0 : Int32)), (0, .ref (q 0)), (1, .int a1), (2, .int a2), (3, .int v3)]) hx hb dX12_title_81 hl (by decide) rfl (fun ls hl => ?_)
        refine lv_iconst (v := (0 : Int32)) hx hb dX12_title_83 (by decide) ?_
        refine lv_istore (lv' := [(5, .int (0 : Int32)), (4, .int (0 : Int32)), (0, .ref (q 0)), (1, .int a1), (2, .int a2), (3, .int v3)]) hx hb dX12_title_84 hl (by decide) rfl (fun ls hl => ?_)
        refine lv_iconst (v := (0 : Int32)) hx hb dX12_title_86 (by decide) ?_
        refine lv_istore (lv' := [(6, .int (0 : Int32)), (5, .int (0 : Int32)), (4, .int (0 : Int32)), (0, .ref (q 0)), (1, .int a1), (2, .int a2), (3, .int v3)]) hx hb dX12_title_87 hl (by decide) rfl (fun ls hl => ?_)
        exact hB _ _ _ hw (lv_sub hl [3, 4, 5, 6, 2, 1, 0] rfl)
      · replace hB := hB.2 hc
        refine lv_iconst (v := (-1 : Int32)) hx hb dX12_title_78 (by decide) ?_
        exact xr_iret X hw hr hk hB dX12_title_79
    · replace hB := hB.2 hc
      refine lv_aload_n hx hb dX12_title_53 rfl (lv_at hl 0 rfl) ?_
      refine xr_getr X hw (xf_X12_43 X) 0 xl_B_ShowRingsModel_at rfl dX12_title_54 ?_
      refine lv_iload hx hb dX12_title_57 (lv_at hl 4 rfl) ?_
      refine xr_iald X hw 9 xl_B_ShowRingsModel_ruleSort_at hB.1 dX12_title_59 ?_
      replace hB := hB.2
      refine lv_iconst (v := (3 : Int32)) hx hb dX12_title_60 (by decide) ?_
      refine lv_icmp_ne (tgt := 67) hx hb dX12_title_61 (by decide) (fun hc => ?_) (fun hc => ?_)
      · replace hB := hB.1 hc
        refine lv_iinc (v := (v4 + (-1 : Int32))) (lv' := [(4, .int (v4 + (-1 : Int32))), (0, .ref (q 0)), (1, .int a1), (2, .int a2), (3, .int v3)]) hx hb dX12_title_67 hl (k := 4) rfl rfl (by decide) rfl (fun ls hl => ?_)
        refine lv_goto (tgt := 41) hx hb dX12_title_70 (by decide) ?_
        exact hB _ _ _ hw (lv_sub hl [1, 2, 3, 4, 0] rfl)
      · replace hB := hB.2 hc
        refine lv_iload hx hb dX12_title_64 (lv_at hl 4 rfl) ?_
        refine lv_istore_n (lv' := [(3, .int v4), (0, .ref (q 0)), (1, .int a1), (2, .int a2), (4, .int v4)]) hx hb dX12_title_66 rfl hl (by decide) rfl (fun ls hl => ?_)
        refine lv_iinc (v := (v4 + (-1 : Int32))) (lv' := [(4, .int (v4 + (-1 : Int32))), (3, .int v4), (0, .ref (q 0)), (1, .int a1), (2, .int a2)]) hx hb dX12_title_67 hl (k := 4) rfl rfl (by decide) rfl (fun ls hl => ?_)
        refine lv_goto (tgt := 41) hx hb dX12_title_70 (by decide) ?_
        exact hB _ _ _ hw (lv_sub hl [2, 3, 4, 1, 0] rfl))
    (by
    intro σ v3 v4 v5 v6 hB H locs ls hw hl
    unfold xb_X12_title_89 at hB
    refine lv_iload hx hb dX12_title_89 (lv_at hl 6 rfl) ?_
    refine lv_aload_n hx hb dX12_title_91 rfl (lv_at hl 0 rfl) ?_
    refine xr_geti X hw (xf_X12_308 X) 0 xl_B_ShowRingsModel_at rfl dX12_title_92 ?_
    refine lv_icmp_ge (tgt := 214) hx hb dX12_title_95 (by decide) (fun hc => ?_) (fun hc => ?_)
    · replace hB := hB.1 hc
      refine lv_iconst (v := (-1 : Int32)) hx hb dX12_title_214 (by decide) ?_
      exact xr_iret X hw hr hk hB dX12_title_215
    · replace hB := hB.2 hc
      refine lv_aload_n hx hb dX12_title_98 rfl (lv_at hl 0 rfl) ?_
      refine lv_iload hx hb dX12_title_99 (lv_at hl 6 rfl) ?_
      refine lv_aload_n hx hb dX12_title_101 rfl (lv_at hl 0 rfl) ?_
      refine xr_getr X hw (xf_X12_110 X) 0 xl_B_ShowRingsModel_at rfl dX12_title_102 ?_
      refine lv_iload_n hx hb dX12_title_105 rfl (lv_at hl 1 rfl) ?_
      refine xr_iald X hw 31 xl_B_ShowRingsModel_breedOf_at hB.1 dX12_title_106 ?_
      replace hB := hB.2
      refine lv_iload_n hx hb dX12_title_107 rfl (lv_at hl 2 rfl) ?_
      refine xr_i hw (xr_runV (As := [.int v6, .int (σ.1 31 (Int32.toNatClampNeg a1)), .int a2]) (rest := []) X hw 0 (xc_X12_winnerOf l D cy q σ v6 (σ.1 31 (Int32.toNatClampNeg a1)) a2 hB _) xm_X12_winnerOf xt_6_177 xt_6_179 xt_p_65 ⟨Nat.le_of_ble_eq_true rfl, Nat.le_of_ble_eq_true rfl⟩ xl_B_ShowRingsModel_at rfl rfl rfl rfl hl.1 (Nat.le_of_ble_eq_true rfl) dX12_title_108 ⟨Nat.zero_le _, Nat.zero_le _⟩) (fun r7 σ6 H locs hB hw => ?_)
      refine lv_iload_n hx hb dX12_title_111 rfl (lv_at hl 1 rfl) ?_
      refine lv_icmp_ne (tgt := 152) hx hb dX12_title_112 (by decide) (fun hc => ?_) (fun hc => ?_)
      · replace hB := hB.1 hc
        refine lv_iconst (v := (0 : Int32)) hx hb dX12_title_152 (by decide) ?_
        refine lv_istore (lv' := [(7, .int (0 : Int32)), (0, .ref (q 0)), (1, .int a1), (2, .int a2), (3, .int v3), (4, .int v4), (5, .int v5), (6, .int v6)]) hx hb dX12_title_153 hl (by decide) rfl (fun ls hl => ?_)
        refine lv_iconst (v := (0 : Int32)) hx hb dX12_title_155 (by decide) ?_
        refine lv_istore (lv' := [(8, .int (0 : Int32)), (7, .int (0 : Int32)), (0, .ref (q 0)), (1, .int a1), (2, .int a2), (3, .int v3), (4, .int v4), (5, .int v5), (6, .int v6)]) hx hb dX12_title_156 hl (by decide) rfl (fun ls hl => ?_)
        exact hB _ _ _ hw (lv_sub hl [2, 3, 4, 5, 6, 7, 8, 1, 0] rfl)
      · replace hB := hB.2 hc
        refine lv_iload hx hb dX12_title_115 (lv_at hl 4 rfl) ?_
        refine lv_aload_n hx hb dX12_title_117 rfl (lv_at hl 0 rfl) ?_
        refine lv_iload hx hb dX12_title_118 (lv_at hl 6 rfl) ?_
        refine lv_iload_n hx hb dX12_title_120 rfl (lv_at hl 1 rfl) ?_
        refine lv_iload_n hx hb dX12_title_121 rfl (lv_at hl 2 rfl) ?_
        refine xr_i hw (xr_runV (As := [.int v6, .int a1, .int a2]) (rest := [.int v4]) X hw 0 (xc_X12_pointsOf l D cy q σ6 v6 a1 a2 hB _) xm_X12_pointsOf xt_6_185 xt_6_187 xt_p_66 ⟨Nat.le_of_ble_eq_true rfl, Nat.le_of_ble_eq_true rfl⟩ xl_B_ShowRingsModel_at rfl rfl rfl rfl hl.1 (Nat.le_of_ble_eq_true rfl) dX12_title_122 ⟨Nat.zero_le _, Nat.zero_le _⟩) (fun r9 σ8 H locs hB hw => ?_)
        refine lv_iadd hx hb dX12_title_125 ?_
        refine lv_istore (lv' := [(4, .int (v4 + r9)), (0, .ref (q 0)), (1, .int a1), (2, .int a2), (3, .int v3), (5, .int v5), (6, .int v6)]) hx hb dX12_title_126 hl (by decide) rfl (fun ls hl => ?_)
        refine lv_iload hx hb dX12_title_128 (lv_at hl 5 rfl) ?_
        refine lv_iconst (v := (1 : Int32)) hx hb dX12_title_130 (by decide) ?_
        refine lv_aload_n hx hb dX12_title_131 rfl (lv_at hl 1 rfl) ?_
        refine xr_getr X hw (xf_X12_152 X) 0 xl_B_ShowRingsModel_at rfl dX12_title_132 ?_
        refine lv_bipush (v := (6 : Int32)) hx hb dX12_title_135 (by decide) ?_
        refine lv_iload hx hb dX12_title_137 (lv_at hl 6 rfl) ?_
        refine lv_imul hx hb dX12_title_139 ?_
        refine lv_aload_n hx hb dX12_title_140 rfl (lv_at hl 1 rfl) ?_
        refine xr_getr X hw (xf_X12_110 X) 0 xl_B_ShowRingsModel_at rfl dX12_title_141 ?_
        refine lv_iload_n hx hb dX12_title_144 rfl (lv_at hl 2 rfl) ?_
        refine xr_iald X hw 31 xl_B_ShowRingsModel_breedOf_at hB.1 dX12_title_145 ?_
        replace hB := hB.2
        refine lv_iadd hx hb dX12_title_146 ?_
        refine xr_iald X hw 45 xl_B_ShowRingsModel_plannedJudge_at hB.1 dX12_title_147 ?_
        replace hB := hB.2
        refine lv_ishl hx hb dX12_title_148 ?_
        refine lv_ior hx hb dX12_title_149 ?_
        refine lv_topi (fun x10 hx10 => ?_)
        replace hB := hB _ hx10
        refine lv_istore (lv' := [(5, .int x10), (4, .int (v4 + r9)), (0, .ref (q 0)), (1, .int a1), (2, .int a2), (3, .int v3), (6, .int v6)]) hx hb dX12_title_150 hl (by decide) rfl (fun ls hl => ?_)
        refine lv_iconst (v := (0 : Int32)) hx hb dX12_title_152 (by decide) ?_
        refine lv_istore (lv' := [(7, .int (0 : Int32)), (5, .int x10), (4, .int (v4 + r9)), (0, .ref (q 0)), (1, .int a1), (2, .int a2), (3, .int v3), (6, .int v6)]) hx hb dX12_title_153 hl (by decide) rfl (fun ls hl => ?_)
        refine lv_iconst (v := (0 : Int32)) hx hb dX12_title_155 (by decide) ?_
        refine lv_istore (lv' := [(8, .int (0 : Int32)), (7, .int (0 : Int32)), (5, .int x10), (4, .int (v4 + r9)), (0, .ref (q 0)), (1, .int a1), (2, .int a2), (3, .int v3), (6, .int v6)]) hx hb dX12_title_156 hl (by decide) rfl (fun ls hl => ?_)
        exact hB _ _ _ hw (lv_sub hl [4, 5, 6, 7, 3, 2, 8, 1, 0] rfl))
    (by
    intro σ v3 v4 v5 v6 v7 v8 hB H locs ls hw hl
    unfold xb_X12_title_158 at hB
    refine lv_iload hx hb dX12_title_158 (lv_at hl 8 rfl) ?_
    refine lv_bipush (v := (12 : Int32)) hx hb dX12_title_160 (by decide) ?_
    refine lv_icmp_ge (tgt := 183) hx hb dX12_title_162 (by decide) (fun hc => ?_) (fun hc => ?_)
    · replace hB := hB.1 hc
      refine lv_iload hx hb dX12_title_183 (lv_at hl 4 rfl) ?_
      refine lv_aload_n hx hb dX12_title_185 rfl (lv_at hl 0 rfl) ?_
      refine xr_getr X hw (xf_X12_46 X) 0 xl_B_ShowRingsModel_at rfl dX12_title_186 ?_
      refine lv_iload_n hx hb dX12_title_189 rfl (lv_at hl 3 rfl) ?_
      refine xr_iald X hw 10 xl_B_ShowRingsModel_ruleInt_at hB.1 dX12_title_190 ?_
      replace hB := hB.2
      refine lv_icmp_lt (tgt := 208) hx hb dX12_title_191 (by decide) (fun hc => ?_) (fun hc => ?_)
      · replace hB := hB.1 hc
        refine lv_iinc (v := (v6 + (1 : Int32))) (lv' := [(6, .int (v6 + (1 : Int32))), (0, .ref (q 0)), (1, .int a1), (2, .int a2), (3, .int v3), (4, .int v4), (5, .int v5), (7, .int v7), (8, .int v8)]) hx hb dX12_title_208 hl (k := 6) rfl rfl (by decide) rfl (fun ls hl => ?_)
        refine lv_goto (tgt := 89) hx hb dX12_title_211 (by decide) ?_
        exact hB _ _ _ hw (lv_sub hl [1, 2, 3, 4, 5, 6, 0] rfl)
      · replace hB := hB.2 hc
        refine lv_iload hx hb dX12_title_194 (lv_at hl 7 rfl) ?_
        refine lv_aload_n hx hb dX12_title_196 rfl (lv_at hl 0 rfl) ?_
        refine xr_getr X hw (xf_X12_49 X) 0 xl_B_ShowRingsModel_at rfl dX12_title_197 ?_
        refine lv_iload_n hx hb dX12_title_200 rfl (lv_at hl 3 rfl) ?_
        refine xr_iald X hw 11 xl_B_ShowRingsModel_ruleUnder_at hB.1 dX12_title_201 ?_
        replace hB := hB.2
        refine lv_icmp_lt (tgt := 208) hx hb dX12_title_202 (by decide) (fun hc => ?_) (fun hc => ?_)
        · replace hB := hB.1 hc
          refine lv_iinc (v := (v6 + (1 : Int32))) (lv' := [(6, .int (v6 + (1 : Int32))), (0, .ref (q 0)), (1, .int a1), (2, .int a2), (3, .int v3), (4, .int v4), (5, .int v5), (7, .int v7), (8, .int v8)]) hx hb dX12_title_208 hl (k := 6) rfl rfl (by decide) rfl (fun ls hl => ?_)
          refine lv_goto (tgt := 89) hx hb dX12_title_211 (by decide) ?_
          exact hB _ _ _ hw (lv_sub hl [1, 2, 3, 4, 5, 6, 0] rfl)
        · replace hB := hB.2 hc
          refine lv_iload hx hb dX12_title_205 (lv_at hl 6 rfl) ?_
          exact xr_iret X hw hr hk hB dX12_title_207
    · replace hB := hB.2 hc
      refine lv_iload hx hb dX12_title_165 (lv_at hl 7 rfl) ?_
      refine lv_iload hx hb dX12_title_167 (lv_at hl 5 rfl) ?_
      refine lv_iload hx hb dX12_title_169 (lv_at hl 8 rfl) ?_
      refine lv_ishr hx hb dX12_title_171 ?_
      refine lv_iconst (v := (1 : Int32)) hx hb dX12_title_172 (by decide) ?_
      refine lv_iand hx hb dX12_title_173 ?_
      refine lv_iadd hx hb dX12_title_174 ?_
      refine lv_istore (lv' := [(7, .int (v7 + ((v5 >>> (v8 &&& 31)) &&& (1 : Int32)))), (0, .ref (q 0)), (1, .int a1), (2, .int a2), (3, .int v3), (4, .int v4), (5, .int v5), (6, .int v6), (8, .int v8)]) hx hb dX12_title_175 hl (by decide) rfl (fun ls hl => ?_)
      refine lv_iinc (v := (v8 + (1 : Int32))) (lv' := [(8, .int (v8 + (1 : Int32))), (7, .int (v7 + ((v5 >>> (v8 &&& 31)) &&& (1 : Int32)))), (0, .ref (q 0)), (1, .int a1), (2, .int a2), (3, .int v3), (4, .int v4), (5, .int v5), (6, .int v6)]) hx hb dX12_title_177 hl (k := 8) rfl rfl (by decide) rfl (fun ls hl => ?_)
      refine lv_goto (tgt := 158) hx hb dX12_title_180 (by decide) ?_
      exact hB _ _ _ hw (lv_sub hl [2, 3, 4, 5, 6, 7, 8, 1, 0] rfl))
  unfold xb_X12_title_e at hB
  refine lv_aload_n hx hb dX12_title_0 rfl (lv_at hl 0 rfl) ?_
  refine lv_iload_n hx hb dX12_title_1 rfl (lv_at hl 1 rfl) ?_
  refine xr_i hw (xr_runV (As := [.int a1]) (rest := []) X hw 0 (xc_X12_isDog l D cy q σ a1 hB _) xm_X12_isDog xt_6_50 xt_6_52 xt_p_45 ⟨Nat.le_of_ble_eq_true rfl, Nat.le_of_ble_eq_true rfl⟩ xl_B_ShowRingsModel_at rfl rfl rfl rfl hl.1 (Nat.le_of_ble_eq_true rfl) dX12_title_2 ⟨Nat.zero_le _, Nat.zero_le _⟩) (fun r2 σ1 H locs hB hw => ?_)
  refine lv_if_eq (tgt := 16) hx hb dX12_title_5 (by decide) (fun hc => ?_) (fun hc => ?_)
  · replace hB := hB.1 hc
    refine lv_iconst (v := (-1 : Int32)) hx hb dX12_title_16 (by decide) ?_
    exact xr_iret X hw hr hk hB dX12_title_17
  · replace hB := hB.2 hc
    refine lv_aload_n hx hb dX12_title_8 rfl (lv_at hl 0 rfl) ?_
    refine lv_iload_n hx hb dX12_title_9 rfl (lv_at hl 2 rfl) ?_
    refine xr_i hw (xr_runV (As := [.int a2]) (rest := []) X hw 0 (xc_X12_isKnown l D cy q σ1 a2 hB _) xm_X12_isKnown xt_6_66 xt_6_68 xt_p_47 ⟨Nat.le_of_ble_eq_true rfl, Nat.le_of_ble_eq_true rfl⟩ xl_B_ShowRingsModel_at rfl rfl rfl rfl hl.1 (Nat.le_of_ble_eq_true rfl) dX12_title_10 ⟨Nat.zero_le _, Nat.zero_le _⟩) (fun r4 σ3 H locs hB hw => ?_)
    refine lv_if_ne (tgt := 18) hx hb dX12_title_13 (by decide) (fun hc => ?_) (fun hc => ?_)
    · replace hB := hB.1 hc
      refine lv_iconst (v := (-1 : Int32)) hx hb dX12_title_18 (by decide) ?_
      refine lv_istore_n (lv' := [(3, .int (-1 : Int32)), (0, .ref (q 0)), (1, .int a1), (2, .int a2)]) hx hb dX12_title_19 rfl hl (by decide) rfl (fun ls hl => ?_)
      refine lv_bipush (v := (16 : Int32)) hx hb dX12_title_20 (by decide) ?_
      refine lv_aload_n hx hb dX12_title_22 rfl (lv_at hl 1 rfl) ?_
      refine xr_geti X hw (xf_X12_266 X) 0 xl_B_ShowRingsModel_at rfl dX12_title_23 ?_
      refine lv_imul hx hb dX12_title_26 ?_
      refine lv_aload_n hx hb dX12_title_27 rfl (lv_at hl 1 rfl) ?_
      refine xr_getr X hw (xf_X12_40 X) 0 xl_B_ShowRingsModel_at rfl dX12_title_28 ?_
      refine lv_aload_n hx hb dX12_title_31 rfl (lv_at hl 1 rfl) ?_
      refine xr_geti X hw (xf_X12_266 X) 0 xl_B_ShowRingsModel_at rfl dX12_title_32 ?_
      refine xr_iald X hw 8 xl_B_ShowRingsModel_rules_at hB.1 dX12_title_35 ?_
      replace hB := hB.2
      refine lv_iadd hx hb dX12_title_36 ?_
      refine lv_iconst (v := (1 : Int32)) hx hb dX12_title_37 (by decide) ?_
      refine lv_isub hx hb dX12_title_38 ?_
      refine lv_topi (fun x5 hx5 => ?_)
      replace hB := hB _ hx5
      refine lv_istore (lv' := [(4, .int x5), (3, .int (-1 : Int32)), (0, .ref (q 0)), (1, .int a1), (2, .int a2)]) hx hb dX12_title_39 hl (by decide) rfl (fun ls hl => ?_)
      exact hB _ _ _ hw (lv_sub hl [2, 3, 4, 1, 0] rfl)
    · replace hB := hB.2 hc
      refine lv_iconst (v := (-1 : Int32)) hx hb dX12_title_16 (by decide) ?_
      exact xr_iret X hw hr hk hB dX12_title_17
set_option maxRecDepth 100000 in
set_option maxHeartbeats 4000000 in
theorem xc_X12_changed (l : Launch) (D : va_G) (cy : Nat → ClassId) (q : Nat → Nat) (σ : xw_M) (a1 : Int32) (a2 : Int32) (a3 : Int32) {Z : Int32 → xw_M → Prop} (hU : xu_X12_changed σ a1 a2 a3 Z) : xr_CI l yX12_changed cX12_changed 5 .int { frames := 7, cells := 0, slots := 0, locals := 175 } D cy xl_B q σ [.ref (q 0), .int a1, .int a2, .int a3] Z := by
  refine xr_CI.of RX12 rfl (by decide) (Nat.le_of_ble_eq_true rfl) (fun p e s m below meth c X hw hr hk ls hl => ?_)
  have hx := X.1
  have hb := X.2.1
  have hl : lv_has ls 5 [(0, .ref (q 0)), (1, .int a1), (2, .int a2), (3, .int a3)] := hl
  have hB := hU (fun (σ : xw_M) (v4 : Int32) => ∀ (H : Heap) (locs : List Loc) (ls : Array Slot), xr_H D cy xl_B q s σ H locs → lv_has ls 5 [(0, .ref (q 0)), (1, .int a1), (2, .int a2), (3, .int a3), (4, .int v4)] → W p l e ({ frames := 7, cells := 0, slots := 0, locals := 175 } : Room) s m ([.ref (q 0), .int a1, .int a2, .int a3] : List Value).toArray below meth c H locs 0 0 (MQ below (va_Qi Z (xr_po D cy xl_B q) (xw_A xl_B q s.heap.size)) ([.ref (q 0), .int a1, .int a2, .int a3] : List Value).toArray s 0 0 (xw_A xl_B q s.heap.size)) (F0 m 29 ls []))
    (by
    intro σ v4 hB H locs ls hw hl
    unfold xb_X12_changed_29 at hB
    refine lv_iload hx hb dX12_changed_29 (lv_at hl 4 rfl) ?_
    refine lv_aload_n hx hb dX12_changed_31 rfl (lv_at hl 0 rfl) ?_
    refine xr_geti X hw (xf_X12_302 X) 0 xl_B_ShowRingsModel_at rfl dX12_changed_32 ?_
    refine lv_icmp_ge (tgt := 66) hx hb dX12_changed_35 (by decide) (fun hc => ?_) (fun hc => ?_)
    · replace hB := hB.1 hc
      refine lv_iconst (v := (-1 : Int32)) hx hb dX12_changed_66 (by decide) ?_
      exact xr_iret X hw hr hk hB dX12_changed_67
    · replace hB := hB.2 hc
      refine lv_aload_n hx hb dX12_changed_38 rfl (lv_at hl 0 rfl) ?_
      refine lv_iload_n hx hb dX12_changed_39 rfl (lv_at hl 1 rfl) ?_
      refine lv_iload hx hb dX12_changed_40 (lv_at hl 4 rfl) ?_
      refine lv_iload_n hx hb dX12_changed_42 rfl (lv_at hl 2 rfl) ?_
      refine xr_i hw (xr_runV (As := [.int a1, .int v4, .int a2]) (rest := []) X hw 0 (xc_X12_winnerOf l D cy q σ a1 v4 a2 hB _) xm_X12_winnerOf xt_6_177 xt_6_179 xt_p_65 ⟨Nat.le_of_ble_eq_true rfl, Nat.le_of_ble_eq_true rfl⟩ xl_B_ShowRingsModel_at rfl rfl rfl rfl hl.1 (Nat.le_of_ble_eq_true rfl) dX12_changed_43 ⟨Nat.zero_le _, Nat.zero_le _⟩) (fun r8 σ7 H locs hB hw => ?_)
      refine lv_aload_n hx hb dX12_changed_46 rfl (lv_at hl 0 rfl) ?_
      refine lv_iload_n hx hb dX12_changed_47 rfl (lv_at hl 1 rfl) ?_
      refine lv_iload hx hb dX12_changed_48 (lv_at hl 4 rfl) ?_
      refine lv_iload_n hx hb dX12_changed_50 rfl (lv_at hl 3 rfl) ?_
      refine xr_i hw (xr_runV (As := [.int a1, .int v4, .int a3]) (rest := [.int r8]) X hw 0 (xc_X12_winnerOf l D cy q σ7 a1 v4 a3 hB _) xm_X12_winnerOf xt_6_177 xt_6_179 xt_p_65 ⟨Nat.le_of_ble_eq_true rfl, Nat.le_of_ble_eq_true rfl⟩ xl_B_ShowRingsModel_at rfl rfl rfl rfl hl.1 (Nat.le_of_ble_eq_true rfl) dX12_changed_51 ⟨Nat.zero_le _, Nat.zero_le _⟩) (fun r10 σ9 H locs hB hw => ?_)
      refine lv_icmp_eq (tgt := 60) hx hb dX12_changed_54 (by decide) (fun hc => ?_) (fun hc => ?_)
      · replace hB := hB.1 hc
        refine lv_iinc (v := (v4 + (1 : Int32))) (lv' := [(4, .int (v4 + (1 : Int32))), (0, .ref (q 0)), (1, .int a1), (2, .int a2), (3, .int a3)]) hx hb dX12_changed_60 hl (k := 4) rfl rfl (by decide) rfl (fun ls hl => ?_)
        refine lv_goto (tgt := 29) hx hb dX12_changed_63 (by decide) ?_
        exact hB _ _ _ hw (lv_sub hl [1, 2, 3, 4, 0] rfl)
      · replace hB := hB.2 hc
        refine lv_iload hx hb dX12_changed_57 (lv_at hl 4 rfl) ?_
        exact xr_iret X hw hr hk hB dX12_changed_59)
  unfold xb_X12_changed_e at hB
  refine lv_aload_n hx hb dX12_changed_0 rfl (lv_at hl 0 rfl) ?_
  refine lv_iload_n hx hb dX12_changed_1 rfl (lv_at hl 1 rfl) ?_
  refine xr_i hw (xr_runV (As := [.int a1]) (rest := []) X hw 0 (xc_X12_isShow l D cy q σ a1 hB _) xm_X12_isShow xt_6_46 xt_6_48 xt_p_44 ⟨Nat.le_of_ble_eq_true rfl, Nat.le_of_ble_eq_true rfl⟩ xl_B_ShowRingsModel_at rfl rfl rfl rfl hl.1 (Nat.le_of_ble_eq_true rfl) dX12_changed_2 ⟨Nat.zero_le _, Nat.zero_le _⟩) (fun r2 σ1 H locs hB hw => ?_)
  refine lv_if_eq (tgt := 24) hx hb dX12_changed_5 (by decide) (fun hc => ?_) (fun hc => ?_)
  · replace hB := hB.1 hc
    refine lv_iconst (v := (-1 : Int32)) hx hb dX12_changed_24 (by decide) ?_
    exact xr_iret X hw hr hk hB dX12_changed_25
  · replace hB := hB.2 hc
    refine lv_aload_n hx hb dX12_changed_8 rfl (lv_at hl 0 rfl) ?_
    refine lv_iload_n hx hb dX12_changed_9 rfl (lv_at hl 2 rfl) ?_
    refine xr_i hw (xr_runV (As := [.int a2]) (rest := []) X hw 0 (xc_X12_isKnown l D cy q σ1 a2 hB _) xm_X12_isKnown xt_6_66 xt_6_68 xt_p_47 ⟨Nat.le_of_ble_eq_true rfl, Nat.le_of_ble_eq_true rfl⟩ xl_B_ShowRingsModel_at rfl rfl rfl rfl hl.1 (Nat.le_of_ble_eq_true rfl) dX12_changed_10 ⟨Nat.zero_le _, Nat.zero_le _⟩) (fun r4 σ3 H locs hB hw => ?_)
    refine lv_if_eq (tgt := 24) hx hb dX12_changed_13 (by decide) (fun hc => ?_) (fun hc => ?_)
    · replace hB := hB.1 hc
      refine lv_iconst (v := (-1 : Int32)) hx hb dX12_changed_24 (by decide) ?_
      exact xr_iret X hw hr hk hB dX12_changed_25
    · replace hB := hB.2 hc
      refine lv_aload_n hx hb dX12_changed_16 rfl (lv_at hl 0 rfl) ?_
      refine lv_iload_n hx hb dX12_changed_17 rfl (lv_at hl 3 rfl) ?_
      refine xr_i hw (xr_runV (As := [.int a3]) (rest := []) X hw 0 (xc_X12_isKnown l D cy q σ3 a3 hB _) xm_X12_isKnown xt_6_66 xt_6_68 xt_p_47 ⟨Nat.le_of_ble_eq_true rfl, Nat.le_of_ble_eq_true rfl⟩ xl_B_ShowRingsModel_at rfl rfl rfl rfl hl.1 (Nat.le_of_ble_eq_true rfl) dX12_changed_18 ⟨Nat.zero_le _, Nat.zero_le _⟩) (fun r6 σ5 H locs hB hw => ?_)
      refine lv_if_ne (tgt := 26) hx hb dX12_changed_21 (by decide) (fun hc => ?_) (fun hc => ?_)
      · replace hB := hB.1 hc
        refine lv_iconst (v := (0 : Int32)) hx hb dX12_changed_26 (by decide) ?_
        refine lv_istore (lv' := [(4, .int (0 : Int32)), (0, .ref (q 0)), (1, .int a1), (2, .int a2), (3, .int a3)]) hx hb dX12_changed_27 hl (by decide) rfl (fun ls hl => ?_)
        exact hB _ _ _ hw (lv_sub hl [1, 2, 3, 4, 0] rfl)
      · replace hB := hB.2 hc
        refine lv_iconst (v := (-1 : Int32)) hx hb dX12_changed_24 (by decide) ?_
        exact xr_iret X hw hr hk hB dX12_changed_25
set_option maxRecDepth 100000 in
set_option maxHeartbeats 4000000 in
theorem xc_X12_count (l : Launch) (D : va_G) (cy : Nat → ClassId) (q : Nat → Nat) (σ : xw_M) (a1 : Int32) {Z : Int32 → xw_M → Prop} (hU : xu_X12_count σ a1 Z) : xr_CI l yX12_count cX12_count 4 .int { frames := 1, cells := 0, slots := 0, locals := 21 } D cy xl_B q σ [.ref (q 0), .int a1] Z := by
  refine xr_CI.of RX12 rfl (by decide) (Nat.le_of_ble_eq_true rfl) (fun p e s m below meth c X hw hr hk ls hl => ?_)
  have hx := X.1
  have hb := X.2.1
  have hl : lv_has ls 4 [(0, .ref (q 0)), (1, .int a1)] := hl
  have hB := hU (fun (σ : xw_M) (v2 : Int32) (v3 : Int32) => ∀ (H : Heap) (locs : List Loc) (ls : Array Slot), xr_H D cy xl_B q s σ H locs → lv_has ls 4 [(0, .ref (q 0)), (1, .int a1), (2, .int v2), (3, .int v3)] → W p l e ({ frames := 1, cells := 0, slots := 0, locals := 21 } : Room) s m ([.ref (q 0), .int a1] : List Value).toArray below meth c H locs 0 0 (MQ below (va_Qi Z (xr_po D cy xl_B q) (xw_A xl_B q s.heap.size)) ([.ref (q 0), .int a1] : List Value).toArray s 0 0 (xw_A xl_B q s.heap.size)) (F0 m 15 ls []))
    (by
    intro σ v2 v3 hB H locs ls hw hl
    unfold xb_X12_count_15 at hB
    refine lv_iload_n hx hb dX12_count_15 rfl (lv_at hl 3 rfl) ?_
    refine lv_aload_n hx hb dX12_count_16 rfl (lv_at hl 0 rfl) ?_
    refine xr_geti X hw (xf_X12_305 X) 0 xl_B_ShowRingsModel_at rfl dX12_count_17 ?_
    refine lv_icmp_ge (tgt := 54) hx hb dX12_count_20 (by decide) (fun hc => ?_) (fun hc => ?_)
    · replace hB := hB.1 hc
      refine lv_iload_n hx hb dX12_count_54 rfl (lv_at hl 2 rfl) ?_
      exact xr_iret X hw hr hk hB dX12_count_55
    · replace hB := hB.2 hc
      refine lv_iload_n hx hb dX12_count_23 rfl (lv_at hl 2 rfl) ?_
      refine lv_aload_n hx hb dX12_count_24 rfl (lv_at hl 0 rfl) ?_
      refine xr_getr X hw (xf_X12_128 X) 0 xl_B_ShowRingsModel_at rfl dX12_count_25 ?_
      refine lv_bipush (v := (20 : Int32)) hx hb dX12_count_28 (by decide) ?_
      refine lv_iload_n hx hb dX12_count_30 rfl (lv_at hl 1 rfl) ?_
      refine lv_bipush (v := (10 : Int32)) hx hb dX12_count_31 (by decide) ?_
      refine lv_isub hx hb dX12_count_33 ?_
      refine lv_imul hx hb dX12_count_34 ?_
      refine lv_iload_n hx hb dX12_count_35 rfl (lv_at hl 3 rfl) ?_
      refine lv_iadd hx hb dX12_count_36 ?_
      refine xr_zald X hw 37 xl_B_ShowRingsModel_isEntry_at hB.1 dX12_count_37 ?_
      replace hB := hB.2
      refine lv_if_eq (tgt := 45) hx hb dX12_count_38 (by decide) (fun hc => ?_) (fun hc => ?_)
      · replace hB := hB.1 hc
        refine lv_iconst (v := (0 : Int32)) hx hb dX12_count_45 (by decide) ?_
        refine lv_iadd hx hb dX12_count_46 ?_
        refine lv_istore_n (lv' := [(2, .int (v2 + (0 : Int32))), (0, .ref (q 0)), (1, .int a1), (3, .int v3)]) hx hb dX12_count_47 rfl hl (by decide) rfl (fun ls hl => ?_)
        refine lv_iinc (v := (v3 + (1 : Int32))) (lv' := [(3, .int (v3 + (1 : Int32))), (2, .int (v2 + (0 : Int32))), (0, .ref (q 0)), (1, .int a1)]) hx hb dX12_count_48 hl (k := 3) rfl rfl (by decide) rfl (fun ls hl => ?_)
        refine lv_goto (tgt := 15) hx hb dX12_count_51 (by decide) ?_
        exact hB _ _ _ hw (lv_sub hl [2, 3, 1, 0] rfl)
      · replace hB := hB.2 hc
        refine lv_iconst (v := (1 : Int32)) hx hb dX12_count_41 (by decide) ?_
        refine lv_goto (tgt := 46) hx hb dX12_count_42 (by decide) ?_
        refine lv_iadd hx hb dX12_count_46 ?_
        refine lv_istore_n (lv' := [(2, .int (v2 + (1 : Int32))), (0, .ref (q 0)), (1, .int a1), (3, .int v3)]) hx hb dX12_count_47 rfl hl (by decide) rfl (fun ls hl => ?_)
        refine lv_iinc (v := (v3 + (1 : Int32))) (lv' := [(3, .int (v3 + (1 : Int32))), (2, .int (v2 + (1 : Int32))), (0, .ref (q 0)), (1, .int a1)]) hx hb dX12_count_48 hl (k := 3) rfl rfl (by decide) rfl (fun ls hl => ?_)
        refine lv_goto (tgt := 15) hx hb dX12_count_51 (by decide) ?_
        exact hB _ _ _ hw (lv_sub hl [2, 3, 1, 0] rfl))
  unfold xb_X12_count_e at hB
  refine lv_aload_n hx hb dX12_count_0 rfl (lv_at hl 0 rfl) ?_
  refine lv_iload_n hx hb dX12_count_1 rfl (lv_at hl 1 rfl) ?_
  refine lv_bipush (v := (10 : Int32)) hx hb dX12_count_2 (by decide) ?_
  refine lv_isub hx hb dX12_count_4 ?_
  refine xr_i hw (xr_runV (As := [.int (a1 - (10 : Int32))]) (rest := []) X hw 0 (xc_X12_isShow l D cy q σ (a1 - (10 : Int32)) hB _) xm_X12_isShow xt_6_46 xt_6_48 xt_p_44 ⟨Nat.le_of_ble_eq_true rfl, Nat.le_of_ble_eq_true rfl⟩ xl_B_ShowRingsModel_at rfl rfl rfl rfl hl.1 (Nat.le_of_ble_eq_true rfl) dX12_count_5 ⟨Nat.zero_le _, Nat.zero_le _⟩) (fun r2 σ1 H locs hB hw => ?_)
  refine lv_if_eq (tgt := 56) hx hb dX12_count_8 (by decide) (fun hc => ?_) (fun hc => ?_)
  · replace hB := hB.1 hc
    refine lv_iload_n hx hb dX12_count_56 rfl (lv_at hl 1 rfl) ?_
    by_cases hc0 : a1 = (0 : Int32)
    · replace hB := hB.1 hc0
      refine lv_tableIn (tgt := 100) hx hb dX12_count_57 (by rw [hc0]; decide) (by rw [hc0]; decide) (by rw [hc0]; rfl) (by decide) ?_
      refine lv_aload_n hx hb dX12_count_100 rfl (lv_at hl 0 rfl) ?_
      refine xr_geti X hw (xf_X12_302 X) 0 xl_B_ShowRingsModel_at rfl dX12_count_101 ?_
      exact xr_iret X hw hr hk hB dX12_count_104
    replace hB := hB.2 hc0
    by_cases hc1 : a1 = (1 : Int32)
    · replace hB := hB.1 hc1
      refine lv_tableIn (tgt := 105) hx hb dX12_count_57 (by rw [hc1]; decide) (by rw [hc1]; decide) (by rw [hc1]; rfl) (by decide) ?_
      refine lv_aload_n hx hb dX12_count_105 rfl (lv_at hl 0 rfl) ?_
      refine xr_geti X hw (xf_X12_305 X) 0 xl_B_ShowRingsModel_at rfl dX12_count_106 ?_
      exact xr_iret X hw hr hk hB dX12_count_109
    replace hB := hB.2 hc1
    by_cases hc2 : a1 = (2 : Int32)
    · replace hB := hB.1 hc2
      refine lv_tableIn (tgt := 110) hx hb dX12_count_57 (by rw [hc2]; decide) (by rw [hc2]; decide) (by rw [hc2]; rfl) (by decide) ?_
      refine lv_aload_n hx hb dX12_count_110 rfl (lv_at hl 0 rfl) ?_
      refine xr_geti X hw (xf_X12_308 X) 0 xl_B_ShowRingsModel_at rfl dX12_count_111 ?_
      exact xr_iret X hw hr hk hB dX12_count_114
    replace hB := hB.2 hc2
    by_cases hc3 : a1 = (3 : Int32)
    · replace hB := hB.1 hc3
      refine lv_tableIn (tgt := 115) hx hb dX12_count_57 (by rw [hc3]; decide) (by rw [hc3]; decide) (by rw [hc3]; rfl) (by decide) ?_
      refine lv_aload_n hx hb dX12_count_115 rfl (lv_at hl 0 rfl) ?_
      refine xr_geti X hw (xf_X12_311 X) 0 xl_B_ShowRingsModel_at rfl dX12_count_116 ?_
      exact xr_iret X hw hr hk hB dX12_count_119
    replace hB := hB.2 hc3
    by_cases hc4 : a1 = (4 : Int32)
    · replace hB := hB.1 hc4
      refine lv_tableIn (tgt := 120) hx hb dX12_count_57 (by rw [hc4]; decide) (by rw [hc4]; decide) (by rw [hc4]; rfl) (by decide) ?_
      refine lv_aload_n hx hb dX12_count_120 rfl (lv_at hl 0 rfl) ?_
      refine xr_getr X hw (xf_X12_40 X) 0 xl_B_ShowRingsModel_at rfl dX12_count_121 ?_
      refine lv_aload_n hx hb dX12_count_124 rfl (lv_at hl 0 rfl) ?_
      refine xr_geti X hw (xf_X12_266 X) 0 xl_B_ShowRingsModel_at rfl dX12_count_125 ?_
      refine xr_iald X hw 8 xl_B_ShowRingsModel_rules_at hB.1 dX12_count_128 ?_
      replace hB := hB.2
      exact xr_iret X hw hr hk hB dX12_count_129
    replace hB := hB.2 hc4
    by_cases hc5 : a1 = (5 : Int32)
    · replace hB := hB.1 hc5
      refine lv_tableIn (tgt := 130) hx hb dX12_count_57 (by rw [hc5]; decide) (by rw [hc5]; decide) (by rw [hc5]; rfl) (by decide) ?_
      refine lv_aload_n hx hb dX12_count_130 rfl (lv_at hl 0 rfl) ?_
      refine xr_geti X hw (xf_X12_195 X) 0 xl_B_ShowRingsModel_at rfl dX12_count_131 ?_
      exact xr_iret X hw hr hk hB dX12_count_134
    replace hB := hB.2 hc5
    by_cases hc6 : a1 = (6 : Int32)
    · replace hB := hB.1 hc6
      refine lv_tableIn (tgt := 135) hx hb dX12_count_57 (by rw [hc6]; decide) (by rw [hc6]; decide) (by rw [hc6]; rfl) (by decide) ?_
      refine lv_aload_n hx hb dX12_count_135 rfl (lv_at hl 0 rfl) ?_
      refine xr_geti X hw (xf_X12_198 X) 0 xl_B_ShowRingsModel_at rfl dX12_count_136 ?_
      exact xr_iret X hw hr hk hB dX12_count_139
    replace hB := hB.2 hc6
    refine xr_tdef hx hb (tgt := 140) dX12_count_57 (by decide) (by decide) (by decide) ?_ ?_
    · intro j hj hx2
      match j, hj, hx2 with
      | 0, _, hx2 => exact absurd hx2 hc0
      | 1, _, hx2 => exact absurd hx2 hc1
      | 2, _, hx2 => exact absurd hx2 hc2
      | 3, _, hx2 => exact absurd hx2 hc3
      | 4, _, hx2 => exact absurd hx2 hc4
      | 5, _, hx2 => exact absurd hx2 hc5
      | 6, _, hx2 => exact absurd hx2 hc6
      | j + 7, hj, _ => exact absurd hj (by simp)
    refine lv_iconst (v := (-1 : Int32)) hx hb dX12_count_140 (by decide) ?_
    exact xr_iret X hw hr hk hB dX12_count_141
  · replace hB := hB.2 hc
    refine lv_iconst (v := (0 : Int32)) hx hb dX12_count_11 (by decide) ?_
    refine lv_istore_n (lv' := [(2, .int (0 : Int32)), (0, .ref (q 0)), (1, .int a1)]) hx hb dX12_count_12 rfl hl (by decide) rfl (fun ls hl => ?_)
    refine lv_iconst (v := (0 : Int32)) hx hb dX12_count_13 (by decide) ?_
    refine lv_istore_n (lv' := [(3, .int (0 : Int32)), (2, .int (0 : Int32)), (0, .ref (q 0)), (1, .int a1)]) hx hb dX12_count_14 rfl hl (by decide) rfl (fun ls hl => ?_)
    exact hB _ _ _ hw (lv_sub hl [2, 3, 1, 0] rfl)
