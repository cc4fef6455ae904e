theorem xf_X12_263 {p : Program} {s : State} {m : MethodId} {args : Array Value} {c : Code} {cc : ByteArray} {nL : Nat} {D : va_G} {cy : Nat → ClassId} {lay : List xw_E} {q : Nat → Nat} (X : xr_X p s m args c cc nL RX12 D cy lay q) : xr_F args s RX12 263 12 12 := ⟨RX12, TX12, 77, tyX12, rfl, by decide, fun w h => X.2.2.2.2.1 w (xt_inX12 w h), tyX12_ok, nmX12, Or.inl (X.2.2.2.2.1 _ xt_4_185)⟩
theorem xp_X12_263 {p : Program} {s : State} {m : MethodId} {args : Array Value} {c : Code} {cc : ByteArray} {nL : Nat} {D : va_G} {cy : Nat → ClassId} {lay : List xw_E} {q : Nat → Nat} (X : xr_X p s m args c cc nL RX12 D cy lay q) : xr_P args s RX12 263 12 12 := ⟨RX12, TX12, 77, tyX12, rfl, by decide, fun w h => X.2.2.2.2.1 w (xt_inX12 w h), tyX12_ok, nmX12, Or.inl (X.2.2.2.2.1 _ xt_4_185), rfl, by decide +kernel⟩
theorem xm_X12_comesOut : xr_MW yX12_comesOut cX12_comesOut 3 none 1 := ⟨xt_5_239, xt_1_13, by decide, by decide, by decide +kernel⟩
set_option maxRecDepth 100000 in
set_option maxHeartbeats 4000000 in
theorem xc_X12_expression (l : Launch) (D : va_G) (cy : Nat → ClassId) (q : Nat → Nat) (σ : xw_M)  {Z : xw_M → Prop} (hU : xu_X12_expression σ Z) : xr_CV l yX12_expression cX12_expression 5 { frames := 2, cells := 0, slots := 0, locals := 44 } D cy xl_B q σ [.ref (q 0)] Z := by
  refine xr_CV.of RX12 rfl (by decide) (Nat.le_of_ble_eq_true rfl) (fun p e s m below meth c X hw hr hk ls hl => ?_)
  have hx := X.1
  have hb := X.2.1
  have hl : lv_has ls 5 [(0, .ref (q 0))] := hl
  have hB := hU (fun (σ : xw_M) (v1 : Int32) (v2 : Int32) => ∀ (H : Heap) (locs : List Loc) (ls : Array Slot), xr_H D cy xl_B q s σ H locs → lv_has ls 5 [(0, .ref (q 0)), (1, .int v1), (2, .int v2)] → W p l e ({ frames := 2, cells := 0, slots := 0, locals := 44 } : Room) s m ([.ref (q 0)] : List Value).toArray below meth c H locs 0 0 (MQ below (va_Qv Z (xr_po D cy xl_B q) (xw_A xl_B q s.heap.size)) ([.ref (q 0)] : List Value).toArray s 0 0 (xw_A xl_B q s.heap.size)) (F0 m 12 ls []))
    (fun (σ : xw_M) (v1 : Int32) (v2 : Int32) => ∀ (H : Heap) (locs : List Loc) (ls : Array Slot), xr_H D cy xl_B q s σ H locs → lv_has ls 5 [(0, .ref (q 0)), (1, .int v1), (2, .int v2)] → W p l e ({ frames := 2, cells := 0, slots := 0, locals := 44 } : Room) s m ([.ref (q 0)] : List Value).toArray below meth c H locs 0 0 (MQ below (va_Qv Z (xr_po D cy xl_B q) (xw_A xl_B q s.heap.size)) ([.ref (q 0)] : List Value).toArray s 0 0 (xw_A xl_B q s.heap.size)) (F0 m 46 ls []))
    (fun (σ : xw_M) (s0 : Int32) (v1 : Int32) => ∀ (H : Heap) (locs : List Loc) (ls : Array Slot), xr_H D cy xl_B q s σ H locs → lv_has ls 5 [(0, .ref (q 0)), (1, .int v1)] → W p l e ({ frames := 2, cells := 0, slots := 0, locals := 44 } : Room) s m ([.ref (q 0)] : List Value).toArray below meth c H locs 0 0 (MQ below (va_Qv Z (xr_po D cy xl_B q) (xw_A xl_B q s.heap.size)) ([.ref (q 0)] : List Value).toArray s 0 0 (xw_A xl_B q s.heap.size)) (F0 m 132 ls [.int s0]))
    (fun (σ : xw_M) (v1 : Int32) (v3 : Int32) => ∀ (H : Heap) (locs : List Loc) (ls : Array Slot), xr_H D cy xl_B q s σ H locs → lv_has ls 5 [(0, .ref (q 0)), (1, .int v1), (3, .int v3)] → W p l e ({ frames := 2, cells := 0, slots := 0, locals := 44 } : Room) s m ([.ref (q 0)] : List Value).toArray below meth c H locs 0 0 (MQ below (va_Qv Z (xr_po D cy xl_B q) (xw_A xl_B q s.heap.size)) ([.ref (q 0)] : List Value).toArray s 0 0 (xw_A xl_B q s.heap.size)) (F0 m 150 ls []))
    (fun (σ : xw_M) (v1 : Int32) => ∀ (H : Heap) (locs : List Loc) (ls : Array Slot), xr_H D cy xl_B q s σ H locs → lv_has ls 5 [(0, .ref (q 0)), (1, .int v1)] → W p l e ({ frames := 2, cells := 0, slots := 0, locals := 44 } : Room) s m ([.ref (q 0)] : List Value).toArray below meth c H locs 0 0 (MQ below (va_Qv Z (xr_po D cy xl_B q) (xw_A xl_B q s.heap.size)) ([.ref (q 0)] : List Value).toArray s 0 0 (xw_A xl_B q s.heap.size)) (F0 m 200 ls []))
    (fun (σ : xw_M) (v1 : Int32) => ∀ (H : Heap) (locs : List Loc) (ls : Array Slot), xr_H D cy xl_B q s σ H locs → lv_has ls 5 [(0, .ref (q 0)), (1, .int v1)] → W p l e ({ frames := 2, cells := 0, slots := 0, locals := 44 } : Room) s m ([.ref (q 0)] : List Value).toArray below meth c H locs 0 0 (MQ below (va_Qv Z (xr_po D cy xl_B q) (xw_A xl_B q s.heap.size)) ([.ref (q 0)] : List Value).toArray s 0 0 (xw_A xl_B q s.heap.size)) (F0 m 249 ls []))
    (fun (σ : xw_M) (s0 : Int32) (v1 : Int32) => ∀ (H : Heap) (locs : List Loc) (ls : Array Slot), xr_H D cy xl_B q s σ H locs → lv_has ls 5 [(0, .ref (q 0)), (1, .int v1)] → W p l e ({ frames := 2, cells := 0, slots := 0, locals := 44 } : Room) s m ([.ref (q 0)] : List Value).toArray below meth c H locs 0 0 (MQ below (va_Qv Z (xr_po D cy xl_B q) (xw_A xl_B q s.heap.size)) ([.ref (q 0)] : List Value).toArray s 0 0 (xw_A xl_B q s.heap.size)) (F0 m 281 ls [.int s0]))
    (fun (σ : xw_M) (s0 : Int32) (v1 : Int32) (v2 : Int32) (v4 : Int32) => ∀ (H : Heap) (locs : List Loc) (ls : Array Slot), xr_H D cy xl_B q s σ H locs → lv_has ls 5 [(0, .ref (q 0)), (1, .int v1), (2, .int v2), (4, .int v4)] → W p l e ({ frames := 2, cells := 0, slots := 0, locals := 44 } : Room) s m ([.ref (q 0)] : List Value).toArray below meth c H locs 0 0 (MQ below (va_Qv Z (xr_po D cy xl_B q) (xw_A xl_B q s.heap.size)) ([.ref (q 0)] : List Value).toArray s 0 0 (xw_A xl_B q s.heap.size)) (F0 m 329 ls [.int s0, .ref (q 0)]))
    (by
    intro σ v1 v2 hB H locs ls hw hl
    unfold xb_X12_expression_12 at hB
    refine lv_iload_n hx hb dX12_expression_12 rfl (lv_at hl 2 rfl) ?_
    refine lv_if_eq (tgt := 360) hx hb dX12_expression_13 (by decide) (fun hc => ?_) (fun hc => ?_)
    · replace hB := hB.1 hc
      exact xr_vret X hw hr hk hB dX12_expression_360
    · replace hB := hB.2 hc
      refine lv_aload_n hx hb dX12_expression_16 rfl (lv_at hl 0 rfl) ?_
      refine xr_geti X hw (xf_X12_236 X) 0 xl_B_ShowRingsModel_at rfl dX12_expression_17 ?_
      refine lv_if_ne (tgt := 360) hx hb dX12_expression_20 (by decide) (fun hc => ?_) (fun hc => ?_)
      · replace hB := hB.1 hc
        exact xr_vret X hw hr hk hB dX12_expression_360
      · replace hB := hB.2 hc
        refine lv_aload_n hx hb dX12_expression_23 rfl (lv_at hl 0 rfl) ?_
        refine lv_bipush (v := (6 : Int32)) hx hb dX12_expression_24 (by decide) ?_
        refine xr_i hw (xr_runV (As := [.int (6 : Int32)]) (rest := []) X hw 0 (xc_X12_is l D cy q σ (6 : Int32) hB _) xm_X12_is xt_5_204 xt_5_206 xt_p_33 ⟨Nat.le_of_ble_eq_true rfl, Nat.le_of_ble_eq_true rfl⟩ xl_B_ShowRingsModel_at rfl rfl rfl rfl hl.1 (Nat.le_of_ble_eq_true rfl) dX12_expression_26 ⟨Nat.zero_le _, Nat.zero_le _⟩) (fun r3 σ2 H locs hB hw => ?_)
        refine lv_if_eq (tgt := 92) hx hb dX12_expression_29 (by decide) (fun hc => ?_) (fun hc => ?_)
        · replace hB := hB.1 hc
          refine lv_aload_n hx hb dX12_expression_92 rfl (lv_at hl 0 rfl) ?_
          refine xr_geti X hw (xf_X12_236 X) 0 xl_B_ShowRingsModel_at rfl dX12_expression_93 ?_
          refine lv_if_ne (tgt := 131) hx hb dX12_expression_96 (by decide) (fun hc => ?_) (fun hc => ?_)
          · replace hB := hB.1 hc
            refine lv_iconst (v := (0 : Int32)) hx hb dX12_expression_131 (by decide) ?_
            exact hB _ _ _ hw (lv_sub hl [0, 1] rfl)
          · replace hB := hB.2 hc
            refine lv_aload_n hx hb dX12_expression_99 rfl (lv_at hl 0 rfl) ?_
            refine xr_getr X hw (xf_X12_20 X) 0 xl_B_ShowRingsModel_at rfl dX12_expression_100 ?_
            refine lv_aload_n hx hb dX12_expression_103 rfl (lv_at hl 0 rfl) ?_
            refine xr_geti X hw (xf_X12_239 X) 0 xl_B_ShowRingsModel_at rfl dX12_expression_104 ?_
            refine xr_iald X hw 3 xl_B_ShowRingsModel_tKind_at hB.1 dX12_expression_107 ?_
            replace hB := hB.2
            refine lv_bipush (v := (27 : Int32)) hx hb dX12_expression_108 (by decide) ?_
            refine lv_icmp_lt (tgt := 131) hx hb dX12_expression_110 (by decide) (fun hc => ?_) (fun hc => ?_)
            · replace hB := hB.1 hc
              refine lv_iconst (v := (0 : Int32)) hx hb dX12_expression_131 (by decide) ?_
              exact hB _ _ _ hw (lv_sub hl [0, 1] rfl)
            · replace hB := hB.2 hc
              refine lv_aload_n hx hb dX12_expression_113 rfl (lv_at hl 0 rfl) ?_
              refine xr_getr X hw (xf_X12_20 X) 0 xl_B_ShowRingsModel_at rfl dX12_expression_114 ?_
              refine lv_aload_n hx hb dX12_expression_117 rfl (lv_at hl 0 rfl) ?_
              refine xr_geti X hw (xf_X12_239 X) 0 xl_B_ShowRingsModel_at rfl dX12_expression_118 ?_
              refine xr_iald X hw 3 xl_B_ShowRingsModel_tKind_at hB.1 dX12_expression_121 ?_
              replace hB := hB.2
              refine lv_bipush (v := (35 : Int32)) hx hb dX12_expression_122 (by decide) ?_
              refine lv_icmp_gt (tgt := 131) hx hb dX12_expression_124 (by decide) (fun hc => ?_) (fun hc => ?_)
              · replace hB := hB.1 hc
                refine lv_iconst (v := (0 : Int32)) hx hb dX12_expression_131 (by decide) ?_
                exact hB _ _ _ hw (lv_sub hl [0, 1] rfl)
              · replace hB := hB.2 hc
                refine lv_iconst (v := (1 : Int32)) hx hb dX12_expression_127 (by decide) ?_
                refine lv_goto (tgt := 132) hx hb dX12_expression_128 (by decide) ?_
                exact hB _ _ _ hw (lv_sub hl [0, 1] rfl)
        · replace hB := hB.2 hc
          refine lv_aload_n hx hb dX12_expression_32 rfl (lv_at hl 0 rfl) ?_
          refine xr_geti X hw (xf_X12_263 X) 0 xl_B_ShowRingsModel_at rfl dX12_expression_33 ?_
          refine lv_bipush (v := (6 : Int32)) hx hb dX12_expression_36 (by decide) ?_
          refine lv_icmp_ne (tgt := 46) hx hb dX12_expression_38 (by decide) (fun hc => ?_) (fun hc => ?_)
          · replace hB := hB.1 hc
            exact hB _ _ _ hw (lv_sub hl [0, 1, 2] rfl)
          · replace hB := hB.2 hc
            refine lv_aload_n hx hb dX12_expression_41 rfl (lv_at hl 0 rfl) ?_
            refine lv_iconst (v := (2 : Int32)) hx hb dX12_expression_42 (by decide) ?_
            refine xr_v hw (xr_runV (As := [.int (2 : Int32)]) (rest := []) X hw 0 (xc_X12_fail l D cy q σ2 (2 : Int32) hB _) xm_X12_fail xt_5_212 xt_5_214 xt_p_35 ⟨Nat.le_of_ble_eq_true rfl, Nat.le_of_ble_eq_true rfl⟩ xl_B_ShowRingsModel_at rfl rfl rfl rfl hl.1 (Nat.le_of_ble_eq_true rfl) dX12_expression_43 ⟨Nat.zero_le _, Nat.zero_le _⟩) (fun σ4 H locs hB hw => ?_)
            exact hB _ _ _ hw (lv_sub hl [0, 1, 2] rfl))
    (by
    intro σ v1 v2 hB H locs ls hw hl
    unfold xb_X12_expression_46 at hB
    refine lv_aload_n hx hb dX12_expression_46 rfl (lv_at hl 0 rfl) ?_
    refine xr_geti X hw (xf_X12_236 X) 0 xl_B_ShowRingsModel_at rfl dX12_expression_47 ?_
    refine lv_if_le (tgt := 54) hx hb dX12_expression_50 (by decide) (fun hc => ?_) (fun hc => ?_)
    · replace hB := hB.1 hc
      refine lv_aload_n hx hb dX12_expression_54 rfl (lv_at hl 0 rfl) ?_
      refine lv_dup hx hb dX12_expression_55 rfl ?_
      refine xr_geti X hw (xf_X12_263 X) 0 xl_B_ShowRingsModel_at rfl dX12_expression_56 ?_
      refine lv_iconst (v := (1 : Int32)) hx hb dX12_expression_59 (by decide) ?_
      refine lv_iadd hx hb dX12_expression_60 ?_
      refine xr_puti X hw (xp_X12_263 X) 0 xl_B_ShowRingsModel_at rfl dX12_expression_61 hB (fun σ5 H locs hB hw => ?_)
      refine lv_aload_n hx hb dX12_expression_64 rfl (lv_at hl 0 rfl) ?_
      refine xr_v hw (xr_runV (As := []) (rest := []) X hw 0 (xc_X12_next l D cy q σ5 hB _) xm_X12_next xt_5_216 xt_5_218 xt_p_36 ⟨Nat.le_of_ble_eq_true rfl, Nat.le_of_ble_eq_true rfl⟩ xl_B_ShowRingsModel_at rfl rfl rfl rfl hl.1 (Nat.le_of_ble_eq_true rfl) dX12_expression_65 ⟨Nat.zero_le _, Nat.zero_le _⟩) (fun σ6 H locs hB hw => ?_)
      refine lv_aload_n hx hb dX12_expression_68 rfl (lv_at hl 0 rfl) ?_
      refine xr_getr X hw (xf_X12_89 X) 0 xl_B_ShowRingsModel_at rfl dX12_expression_69 ?_
      refine lv_aload_n hx hb dX12_expression_72 rfl (lv_at hl 0 rfl) ?_
      refine xr_geti X hw (xf_X12_292 X) 0 xl_B_ShowRingsModel_at rfl dX12_expression_73 ?_
      refine lv_bipush (v := (6 : Int32)) hx hb dX12_expression_76 (by decide) ?_
      refine xr_iast X hw 24 xl_B_ShowRingsModel_waits_at hB.1 dX12_expression_78 hB.2 (fun σ7 H locs hB hw => ?_)
      refine lv_aload_n hx hb dX12_expression_79 rfl (lv_at hl 0 rfl) ?_
      refine lv_dup hx hb dX12_expression_80 rfl ?_
      refine xr_geti X hw (xf_X12_292 X) 0 xl_B_ShowRingsModel_at rfl dX12_expression_81 ?_
      refine lv_iconst (v := (1 : Int32)) hx hb dX12_expression_84 (by decide) ?_
      refine lv_iadd hx hb dX12_expression_85 ?_
      refine xr_puti X hw (xp_X12_292 X) 0 xl_B_ShowRingsModel_at rfl dX12_expression_86 hB (fun σ8 H locs hB hw => ?_)
      refine lv_goto (tgt := 12) hx hb dX12_expression_89 (by decide) ?_
      exact hB _ _ _ hw (lv_sub hl [0, 1, 2] rfl)
    · replace hB := hB.2 hc
      exact xr_vret X hw hr hk hB dX12_expression_53)
    (by
    intro σ s0 v1 hB H locs ls hw hl
    unfold xb_X12_expression_132 at hB
    refine lv_istore_n (lv' := [(3, .int s0), (0, .ref (q 0)), (1, .int v1)]) hx hb dX12_expression_132 rfl hl (by decide) rfl (fun ls hl => ?_)
    refine lv_aload_n hx hb dX12_expression_133 rfl (lv_at hl 1 rfl) ?_
    refine lv_iconst (v := (2 : Int32)) hx hb dX12_expression_134 (by decide) ?_
    refine xr_i hw (xr_runV (As := [.int (2 : Int32)]) (rest := []) X hw 0 (xc_X12_is l D cy q σ (2 : Int32) hB _) xm_X12_is xt_5_204 xt_5_206 xt_p_33 ⟨Nat.le_of_ble_eq_true rfl, Nat.le_of_ble_eq_true rfl⟩ xl_B_ShowRingsModel_at rfl rfl rfl rfl hl.1 (Nat.le_of_ble_eq_true rfl) dX12_expression_135 ⟨Nat.zero_le _, Nat.zero_le _⟩) (fun r10 σ9 H locs hB hw => ?_)
    refine lv_if_ne (tgt := 150) hx hb dX12_expression_138 (by decide) (fun hc => ?_) (fun hc => ?_)
    · replace hB := hB.1 hc
      exact hB _ _ _ hw (lv_sub hl [1, 2, 0] rfl)
    · replace hB := hB.2 hc
      refine lv_iload_n hx hb dX12_expression_141 rfl (lv_at hl 0 rfl) ?_
      refine lv_if_ne (tgt := 150) hx hb dX12_expression_142 (by decide) (fun hc => ?_) (fun hc => ?_)
      · replace hB := hB.1 hc
        exact hB _ _ _ hw (lv_sub hl [1, 2, 0] rfl)
      · replace hB := hB.2 hc
        refine lv_aload_n hx hb dX12_expression_145 rfl (lv_at hl 1 rfl) ?_
        refine lv_iconst (v := (1 : Int32)) hx hb dX12_expression_146 (by decide) ?_
        refine xr_v hw (xr_runV (As := [.int (1 : Int32)]) (rest := []) X hw 0 (xc_X12_fail l D cy q σ9 (1 : Int32) hB _) xm_X12_fail xt_5_212 xt_5_214 xt_p_35 ⟨Nat.le_of_ble_eq_true rfl, Nat.le_of_ble_eq_true rfl⟩ xl_B_ShowRingsModel_at rfl rfl rfl rfl hl.1 (Nat.le_of_ble_eq_true rfl) dX12_expression_147 ⟨Nat.zero_le _, Nat.zero_le _⟩) (fun σ11 H locs hB hw => ?_)
        exact hB _ _ _ hw (lv_sub hl [1, 2, 0] rfl))
    (by
    intro σ v1 v3 hB H locs ls hw hl
    unfold xb_X12_expression_150 at hB
    refine lv_aload_n hx hb dX12_expression_150 rfl (lv_at hl 0 rfl) ?_
    refine xr_geti X hw (xf_X12_236 X) 0 xl_B_ShowRingsModel_at rfl dX12_expression_151 ?_
    refine lv_if_le (tgt := 158) hx hb dX12_expression_154 (by decide) (fun hc => ?_) (fun hc => ?_)
    · replace hB := hB.1 hc
      refine lv_iload_n hx hb dX12_expression_158 rfl (lv_at hl 2 rfl) ?_
      refine lv_if_eq (tgt := 182) hx hb dX12_expression_159 (by decide) (fun hc => ?_) (fun hc => ?_)
      · replace hB := hB.1 hc
        refine lv_aload_n hx hb dX12_expression_182 rfl (lv_at hl 0 rfl) ?_
        refine lv_iconst (v := (0 : Int32)) hx hb dX12_expression_183 (by decide) ?_
        refine lv_aload_n hx hb dX12_expression_184 rfl (lv_at hl 0 rfl) ?_
        refine xr_getr X hw (xf_X12_27 X) 0 xl_B_ShowRingsModel_at rfl dX12_expression_185 ?_
        refine lv_aload_n hx hb dX12_expression_188 rfl (lv_at hl 0 rfl) ?_
        refine xr_geti X hw (xf_X12_239 X) 0 xl_B_ShowRingsModel_at rfl dX12_expression_189 ?_
        refine xr_iald X hw 5 xl_B_ShowRingsModel_tValue_at hB.1 dX12_expression_192 ?_
        replace hB := hB.2
        refine xr_v hw (xr_runV (As := [.int (0 : Int32), .int (σ.1 5 (Int32.toNatClampNeg (σ.1 0 11)))]) (rest := []) X hw 0 (xc_X12_emit l D cy q σ (0 : Int32) (σ.1 5 (Int32.toNatClampNeg (σ.1 0 11))) hB _) xm_X12_emit xt_5_232 xt_5_234 xt_p_40 ⟨Nat.le_of_ble_eq_true rfl, Nat.le_of_ble_eq_true rfl⟩ xl_B_ShowRingsModel_at rfl rfl rfl rfl hl.1 (Nat.le_of_ble_eq_true rfl) dX12_expression_193 ⟨Nat.zero_le _, Nat.zero_le _⟩) (fun σ12 H locs hB hw => ?_)
        refine lv_aload_n hx hb dX12_expression_196 rfl (lv_at hl 0 rfl) ?_
        refine xr_v hw (xr_runV (As := []) (rest := []) X hw 0 (xc_X12_next l D cy q σ12 hB _) xm_X12_next xt_5_216 xt_5_218 xt_p_36 ⟨Nat.le_of_ble_eq_true rfl, Nat.le_of_ble_eq_true rfl⟩ xl_B_ShowRingsModel_at rfl rfl rfl rfl hl.1 (Nat.le_of_ble_eq_true rfl) dX12_expression_197 ⟨Nat.zero_le _, Nat.zero_le _⟩) (fun σ13 H locs hB hw => ?_)
        exact hB _ _ _ hw (lv_sub hl [0, 1] rfl)
      · replace hB := hB.2 hc
        refine lv_aload_n hx hb dX12_expression_162 rfl (lv_at hl 0 rfl) ?_
        refine lv_iconst (v := (1 : Int32)) hx hb dX12_expression_163 (by decide) ?_
        refine lv_aload_n hx hb dX12_expression_164 rfl (lv_at hl 0 rfl) ?_
        refine xr_getr X hw (xf_X12_20 X) 0 xl_B_ShowRingsModel_at rfl dX12_expression_165 ?_
        refine lv_aload_n hx hb dX12_expression_168 rfl (lv_at hl 0 rfl) ?_
        refine xr_geti X hw (xf_X12_239 X) 0 xl_B_ShowRingsModel_at rfl dX12_expression_169 ?_
        refine xr_iald X hw 3 xl_B_ShowRingsModel_tKind_at hB.1 dX12_expression_172 ?_
        replace hB := hB.2
        refine lv_bipush (v := (27 : Int32)) hx hb dX12_expression_173 (by decide) ?_
        refine lv_isub hx hb dX12_expression_175 ?_
        refine xr_v hw (xr_runV (As := [.int (1 : Int32), .int ((σ.1 3 (Int32.toNatClampNeg (σ.1 0 11))) - (27 : Int32))]) (rest := []) X hw 0 (xc_X12_emit l D cy q σ (1 : Int32) ((σ.1 3 (Int32.toNatClampNeg (σ.1 0 11))) - (27 : Int32)) hB _) xm_X12_emit xt_5_232 xt_5_234 xt_p_40 ⟨Nat.le_of_ble_eq_true rfl, Nat.le_of_ble_eq_true rfl⟩ xl_B_ShowRingsModel_at rfl rfl rfl rfl hl.1 (Nat.le_of_ble_eq_true rfl) dX12_expression_176 ⟨Nat.zero_le _, Nat.zero_le _⟩) (fun σ14 H locs hB hw => ?_)
        refine lv_goto (tgt := 196) hx hb dX12_expression_179 (by decide) ?_
        refine lv_aload_n hx hb dX12_expression_196 rfl (lv_at hl 0 rfl) ?_
        refine xr_v hw (xr_runV (As := []) (rest := []) X hw 0 (xc_X12_next l D cy q σ14 hB _) xm_X12_next xt_5_216 xt_5_218 xt_p_36 ⟨Nat.le_of_ble_eq_true rfl, Nat.le_of_ble_eq_true rfl⟩ xl_B_ShowRingsModel_at rfl rfl rfl rfl hl.1 (Nat.le_of_ble_eq_true rfl) dX12_expression_197 ⟨Nat.zero_le _, Nat.zero_le _⟩) (fun σ15 H locs hB hw => ?_)
        exact hB _ _ _ hw (lv_sub hl [0, 1] rfl)
    · replace hB := hB.2 hc
      exact xr_vret X hw hr hk hB dX12_expression_157)
    (by
    intro σ v1 hB H locs ls hw hl
    unfold xb_X12_expression_200 at hB
    refine lv_aload_n hx hb dX12_expression_200 rfl (lv_at hl 0 rfl) ?_
    refine lv_bipush (v := (7 : Int32)) hx hb dX12_expression_201 (by decide) ?_
    refine xr_i hw (xr_runV (As := [.int (7 : Int32)]) (rest := []) X hw 0 (xc_X12_is l D cy q σ (7 : Int32) hB _) xm_X12_is xt_5_204 xt_5_206 xt_p_33 ⟨Nat.le_of_ble_eq_true rfl, Nat.le_of_ble_eq_true rfl⟩ xl_B_ShowRingsModel_at rfl rfl rfl rfl hl.1 (Nat.le_of_ble_eq_true rfl) dX12_expression_203 ⟨Nat.zero_le _, Nat.zero_le _⟩) (fun r17 σ16 H locs hB hw => ?_)
    refine lv_if_eq (tgt := 249) hx hb dX12_expression_206 (by decide) (fun hc => ?_) (fun hc => ?_)
    · replace hB := hB.1 hc
      exact hB _ _ _ hw (lv_sub hl [0, 1] rfl)
    · replace hB := hB.2 hc
      refine lv_aload_n hx hb dX12_expression_209 rfl (lv_at hl 0 rfl) ?_
      refine xr_geti X hw (xf_X12_263 X) 0 xl_B_ShowRingsModel_at rfl dX12_expression_210 ?_
      refine lv_iload_n hx hb dX12_expression_213 rfl (lv_at hl 1 rfl) ?_
      refine lv_icmp_le (tgt := 249) hx hb dX12_expression_214 (by decide) (fun hc => ?_) (fun hc => ?_)
      · replace hB := hB.1 hc
        exact hB _ _ _ hw (lv_sub hl [0, 1] rfl)
      · replace hB := hB.2 hc
        refine lv_aload_n hx hb dX12_expression_217 rfl (lv_at hl 0 rfl) ?_
        refine lv_iconst (v := (0 : Int32)) hx hb dX12_expression_218 (by decide) ?_
        refine xr_v hw (xr_runV (As := [.int (0 : Int32)]) (rest := []) X hw 0 (xc_X12_comesOut l D cy q σ16 (0 : Int32) hB _) xm_X12_comesOut xt_5_236 xt_5_238 xt_p_41 ⟨Nat.le_of_ble_eq_true rfl, Nat.le_of_ble_eq_true rfl⟩ xl_B_ShowRingsModel_at rfl rfl rfl rfl hl.1 (Nat.le_of_ble_eq_true rfl) dX12_expression_219 ⟨Nat.zero_le _, Nat.zero_le _⟩) (fun σ18 H locs hB hw => ?_)
        refine lv_aload_n hx hb dX12_expression_222 rfl (lv_at hl 0 rfl) ?_
        refine lv_dup hx hb dX12_expression_223 rfl ?_
        refine xr_geti X hw (xf_X12_292 X) 0 xl_B_ShowRingsModel_at rfl dX12_expression_224 ?_
        refine lv_iconst (v := (1 : Int32)) hx hb dX12_expression_227 (by decide) ?_
        refine lv_isub hx hb dX12_expression_228 ?_
        refine xr_puti X hw (xp_X12_292 X) 0 xl_B_ShowRingsModel_at rfl dX12_expression_229 hB (fun σ19 H locs hB hw => ?_)
        refine lv_aload_n hx hb dX12_expression_232 rfl (lv_at hl 0 rfl) ?_
        refine lv_dup hx hb dX12_expression_233 rfl ?_
        refine xr_geti X hw (xf_X12_263 X) 0 xl_B_ShowRingsModel_at rfl dX12_expression_234 ?_
        refine lv_iconst (v := (1 : Int32)) hx hb dX12_expression_237 (by decide) ?_
        refine lv_isub hx hb dX12_expression_238 ?_
        refine xr_puti X hw (xp_X12_263 X) 0 xl_B_ShowRingsModel_at rfl dX12_expression_239 hB (fun σ20 H locs hB hw => ?_)
        refine lv_aload_n hx hb dX12_expression_242 rfl (lv_at hl 0 rfl) ?_
        refine xr_v hw (xr_runV (As := []) (rest := []) X hw 0 (xc_X12_next l D cy q σ20 hB _) xm_X12_next xt_5_216 xt_5_218 xt_p_36 ⟨Nat.le_of_ble_eq_true rfl, Nat.le_of_ble_eq_true rfl⟩ xl_B_ShowRingsModel_at rfl rfl rfl rfl hl.1 (Nat.le_of_ble_eq_true rfl) dX12_expression_243 ⟨Nat.zero_le _, Nat.zero_le _⟩) (fun σ21 H locs hB hw => ?_)
        refine lv_goto (tgt := 200) hx hb dX12_expression_246 (by decide) ?_
        exact hB _ _ _ hw (lv_sub hl [0, 1] rfl))
    (by
    intro σ v1 hB H locs ls hw hl
    unfold xb_X12_expression_249 at hB
    refine lv_aload_n hx hb dX12_expression_249 rfl (lv_at hl 0 rfl) ?_
    refine lv_bipush (v := (8 : Int32)) hx hb dX12_expression_250 (by decide) ?_
    refine xr_i hw (xr_runV (As := [.int (8 : Int32)]) (rest := []) X hw 0 (xc_X12_is l D cy q σ (8 : Int32) hB _) xm_X12_is xt_5_204 xt_5_206 xt_p_33 ⟨Nat.le_of_ble_eq_true rfl, Nat.le_of_ble_eq_true rfl⟩ xl_B_ShowRingsModel_at rfl rfl rfl rfl hl.1 (Nat.le_of_ble_eq_true rfl) dX12_expression_252 ⟨Nat.zero_le _, Nat.zero_le _⟩) (fun r23 σ22 H locs hB hw => ?_)
    refine lv_if_ne (tgt := 276) hx hb dX12_expression_255 (by decide) (fun hc => ?_) (fun hc => ?_)
    · replace hB := hB.1 hc
      refine lv_iconst (v := (1 : Int32)) hx hb dX12_expression_276 (by decide) ?_
      refine lv_goto (tgt := 281) hx hb dX12_expression_277 (by decide) ?_
      exact hB _ _ _ hw (lv_sub hl [0, 1] rfl)
    · replace hB := hB.2 hc
      refine lv_aload_n hx hb dX12_expression_258 rfl (lv_at hl 0 rfl) ?_
      refine lv_bipush (v := (9 : Int32)) hx hb dX12_expression_259 (by decide) ?_
      refine xr_i hw (xr_runV (As := [.int (9 : Int32)]) (rest := []) X hw 0 (xc_X12_is l D cy q σ22 (9 : Int32) hB _) xm_X12_is xt_5_204 xt_5_206 xt_p_33 ⟨Nat.le_of_ble_eq_true rfl, Nat.le_of_ble_eq_true rfl⟩ xl_B_ShowRingsModel_at rfl rfl rfl rfl hl.1 (Nat.le_of_ble_eq_true rfl) dX12_expression_261 ⟨Nat.zero_le _, Nat.zero_le _⟩) (fun r25 σ24 H locs hB hw => ?_)
      refine lv_if_ne (tgt := 276) hx hb dX12_expression_264 (by decide) (fun hc => ?_) (fun hc => ?_)
      · replace hB := hB.1 hc
        refine lv_iconst (v := (1 : Int32)) hx hb dX12_expression_276 (by decide) ?_
        refine lv_goto (tgt := 281) hx hb dX12_expression_277 (by decide) ?_
        exact hB _ _ _ hw (lv_sub hl [0, 1] rfl)
      · replace hB := hB.2 hc
        refine lv_aload_n hx hb dX12_expression_267 rfl (lv_at hl 0 rfl) ?_
        refine lv_bipush (v := (10 : Int32)) hx hb dX12_expression_268 (by decide) ?_
        refine xr_i hw (xr_runV (As := [.int (10 : Int32)]) (rest := []) X hw 0 (xc_X12_is l D cy q σ24 (10 : Int32) hB _) xm_X12_is xt_5_204 xt_5_206 xt_p_33 ⟨Nat.le_of_ble_eq_true rfl, Nat.le_of_ble_eq_true rfl⟩ xl_B_ShowRingsModel_at rfl rfl rfl rfl hl.1 (Nat.le_of_ble_eq_true rfl) dX12_expression_270 ⟨Nat.zero_le _, Nat.zero_le _⟩) (fun r27 σ26 H locs hB hw => ?_)
        refine lv_if_eq (tgt := 280) hx hb dX12_expression_273 (by decide) (fun hc => ?_) (fun hc => ?_)
        · replace hB := hB.1 hc
          refine lv_iconst (v := (0 : Int32)) hx hb dX12_expression_280 (by decide) ?_
          exact hB _ _ _ hw (lv_sub hl [0, 1] rfl)
        · replace hB := hB.2 hc
          refine lv_iconst (v := (1 : Int32)) hx hb dX12_expression_276 (by decide) ?_
          refine lv_goto (tgt := 281) hx hb dX12_expression_277 (by decide) ?_
          exact hB _ _ _ hw (lv_sub hl [0, 1] rfl))
    (by
    intro σ s0 v1 hB H locs ls hw hl
    unfold xb_X12_expression_281 at hB
    refine lv_istore_n (lv' := [(2, .int s0), (0, .ref (q 0)), (1, .int v1)]) hx hb dX12_expression_281 rfl hl (by decide) rfl (fun ls hl => ?_)
    refine lv_iload_n hx hb dX12_expression_282 rfl (lv_at hl 0 rfl) ?_
    refine lv_if_ne (tgt := 305) hx hb dX12_expression_283 (by decide) (fun hc => ?_) (fun hc => ?_)
    · replace hB := hB.1 hc
      refine lv_aload_n hx hb dX12_expression_305 rfl (lv_at hl 1 rfl) ?_
      refine xr_getr X hw (xf_X12_20 X) 0 xl_B_ShowRingsModel_at rfl dX12_expression_306 ?_
      refine lv_aload_n hx hb dX12_expression_309 rfl (lv_at hl 1 rfl) ?_
      refine xr_geti X hw (xf_X12_239 X) 0 xl_B_ShowRingsModel_at rfl dX12_expression_310 ?_
      refine xr_iald X hw 3 xl_B_ShowRingsModel_tKind_at hB.1 dX12_expression_313 ?_
      replace hB := hB.2
      refine lv_istore (lv' := [(4, .int (σ.1 3 (Int32.toNatClampNeg (σ.1 0 11)))), (2, .int s0), (0, .ref (q 0)), (1, .int v1)]) hx hb dX12_expression_314 hl (by decide) rfl (fun ls hl => ?_)
      refine lv_aload_n hx hb dX12_expression_316 rfl (lv_at hl 2 rfl) ?_
      refine lv_iload hx hb dX12_expression_317 (lv_at hl 0 rfl) ?_
      refine lv_bipush (v := (10 : Int32)) hx hb dX12_expression_319 (by decide) ?_
      refine lv_icmp_ne (tgt := 328) hx hb dX12_expression_321 (by decide) (fun hc => ?_) (fun hc => ?_)
      · replace hB := hB.1 hc
        refine lv_iconst (v := (0 : Int32)) hx hb dX12_expression_328 (by decide) ?_
        exact hB _ _ _ hw (lv_sub hl [2, 3, 1, 0] rfl)
      · replace hB := hB.2 hc
        refine lv_iconst (v := (1 : Int32)) hx hb dX12_expression_324 (by decide) ?_
        refine lv_goto (tgt := 329) hx hb dX12_expression_325 (by decide) ?_
        exact hB _ _ _ hw (lv_sub hl [2, 3, 1, 0] rfl)
    · replace hB := hB.2 hc
      refine lv_aload_n hx hb dX12_expression_286 rfl (lv_at hl 1 rfl) ?_
      refine xr_geti X hw (xf_X12_263 X) 0 xl_B_ShowRingsModel_at rfl dX12_expression_287 ?_
      refine lv_iload_n hx hb dX12_expression_290 rfl (lv_at hl 2 rfl) ?_
      refine lv_icmp_le (tgt := 299) hx hb dX12_expression_291 (by decide) (fun hc => ?_) (fun hc => ?_)
      · replace hB := hB.1 hc
        refine lv_aload_n hx hb dX12_expression_299 rfl (lv_at hl 1 rfl) ?_
        refine lv_iconst (v := (0 : Int32)) hx hb dX12_expression_300 (by decide) ?_
        refine xr_v hw (xr_runV (As := [.int (0 : Int32)]) (rest := []) X hw 0 (xc_X12_comesOut l D cy q σ (0 : Int32) hB _) xm_X12_comesOut xt_5_236 xt_5_238 xt_p_41 ⟨Nat.le_of_ble_eq_true rfl, Nat.le_of_ble_eq_true rfl⟩ xl_B_ShowRingsModel_at rfl rfl rfl rfl hl.1 (Nat.le_of_ble_eq_true rfl) dX12_expression_301 ⟨Nat.zero_le _, Nat.zero_le _⟩) (fun σ28 H locs hB hw => ?_)
        exact xr_vret X hw hr hk hB dX12_expression_304
      · replace hB := hB.2 hc
        refine lv_aload_n hx hb dX12_expression_294 rfl (lv_at hl 1 rfl) ?_
        refine lv_iconst (v := (1 : Int32)) hx hb dX12_expression_295 (by decide) ?_
        refine xr_v hw (xr_runV (As := [.int (1 : Int32)]) (rest := []) X hw 0 (xc_X12_fail l D cy q σ (1 : Int32) hB _) xm_X12_fail xt_5_212 xt_5_214 xt_p_35 ⟨Nat.le_of_ble_eq_true rfl, Nat.le_of_ble_eq_true rfl⟩ xl_B_ShowRingsModel_at rfl rfl rfl rfl hl.1 (Nat.le_of_ble_eq_true rfl) dX12_expression_296 ⟨Nat.zero_le _, Nat.zero_le _⟩) (fun σ29 H locs hB hw => ?_)
        refine lv_aload_n hx hb dX12_expression_299 rfl (lv_at hl 1 rfl) ?_
        refine lv_iconst (v := (0 : Int32)) hx hb dX12_expression_300 (by decide) ?_
        refine xr_v hw (xr_runV (As := [.int (0 : Int32)]) (rest := []) X hw 0 (xc_X12_comesOut l D cy q σ29 (0 : Int32) hB _) xm_X12_comesOut xt_5_236 xt_5_238 xt_p_41 ⟨Nat.le_of_ble_eq_true rfl, Nat.le_of_ble_eq_true rfl⟩ xl_B_ShowRingsModel_at rfl rfl rfl rfl hl.1 (Nat.le_of_ble_eq_true rfl) dX12_expression_301 ⟨Nat.zero_le _, Nat.zero_le _⟩) (fun σ30 H locs hB hw => ?_)
        exact xr_vret X hw hr hk hB dX12_expression_304)
    (by
    intro σ s0 v1 v2 v4 hB H locs ls hw hl
    unfold xb_X12_expression_329 at hB
    refine xr_v hw (xr_runV (As := [.int s0]) (rest := []) X hw 0 (xc_X12_comesOut l D cy q σ s0 hB _) xm_X12_comesOut xt_5_236 xt_5_238 xt_p_41 ⟨Nat.le_of_ble_eq_true rfl, Nat.le_of_ble_eq_true rfl⟩ xl_B_ShowRingsModel_at rfl rfl rfl rfl hl.1 (Nat.le_of_ble_eq_true rfl) dX12_expression_329 ⟨Nat.zero_le _, Nat.zero_le _⟩) (fun σ31 H locs hB hw => ?_)
    refine lv_aload_n hx hb dX12_expression_332 rfl (lv_at hl 0 rfl) ?_
    refine xr_getr X hw (xf_X12_89 X) 0 xl_B_ShowRingsModel_at rfl dX12_expression_333 ?_
    refine lv_aload_n hx hb dX12_expression_336 rfl (lv_at hl 0 rfl) ?_
    refine xr_geti X hw (xf_X12_292 X) 0 xl_B_ShowRingsModel_at rfl dX12_expression_337 ?_
    refine lv_iload hx hb dX12_expression_340 (lv_at hl 3 rfl) ?_
    refine xr_iast X hw 24 xl_B_ShowRingsModel_waits_at hB.1 dX12_expression_342 hB.2 (fun σ32 H locs hB hw => ?_)
    refine lv_aload_n hx hb dX12_expression_343 rfl (lv_at hl 0 rfl) ?_
    refine lv_dup hx hb dX12_expression_344 rfl ?_
    refine xr_geti X hw (xf_X12_292 X) 0 xl_B_ShowRingsModel_at rfl dX12_expression_345 ?_
    refine lv_iconst (v := (1 : Int32)) hx hb dX12_expression_348 (by decide) ?_
    refine lv_iadd hx hb dX12_expression_349 ?_
    refine xr_puti X hw (xp_X12_292 X) 0 xl_B_ShowRingsModel_at rfl dX12_expression_350 hB (fun σ33 H locs hB hw => ?_)
    refine lv_aload_n hx hb dX12_expression_353 rfl (lv_at hl 0 rfl) ?_
    refine xr_v hw (xr_runV (As := []) (rest := []) X hw 0 (xc_X12_next l D cy q σ33 hB _) xm_X12_next xt_5_216 xt_5_218 xt_p_36 ⟨Nat.le_of_ble_eq_true rfl, Nat.le_of_ble_eq_true rfl⟩ xl_B_ShowRingsModel_at rfl rfl rfl rfl hl.1 (Nat.le_of_ble_eq_true rfl) dX12_expression_354 ⟨Nat.zero_le _, Nat.zero_le _⟩) (fun σ34 H locs hB hw => ?_)
    refine lv_goto (tgt := 12) hx hb dX12_expression_357 (by decide) ?_
    exact hB _ _ _ hw (lv_sub hl [0, 1, 2] rfl))
  unfold xb_X12_expression_e at hB
  refine lv_aload_n hx hb dX12_expression_0 rfl (lv_at hl 0 rfl) ?_
  refine lv_iconst (v := (0 : Int32)) hx hb dX12_expression_1 (by decide) ?_
  refine xr_puti X hw (xp_X12_292 X) 0 xl_B_ShowRingsModel_at rfl dX12_expression_2 hB (fun σ1 H locs hB hw => ?_)
  refine lv_aload_n hx hb dX12_expression_5 rfl (lv_at hl 0 rfl) ?_
  refine xr_geti X hw (xf_X12_263 X) 0 xl_B_ShowRingsModel_at rfl dX12_expression_6 ?_
  refine lv_istore_n (lv' := [(1, .int (σ1.1 0 12)), (0, .ref (q 0))]) hx hb dX12_expression_9 rfl hl (by decide) rfl (fun ls hl => ?_)
  refine lv_iconst (v := (1 : Int32)) hx hb dX12_expression_10 (by decide) ?_
  refine lv_istore_n (lv' := [(2, .int (1 : Int32)), (1, .int (σ1.1 0 12)), (0, .ref (q 0))]) hx hb dX12_expression_11 rfl hl (by decide) rfl (fun ls hl => ?_)
  exact hB _ _ _ hw (lv_sub hl [2, 1, 0] rfl)
theorem xm_X12_must : xr_MW yX12_must cX12_must 2 none 1 := ⟨xt_5_227, xt_1_13, by decide, by decide, by decide +kernel⟩
set_option maxRecDepth 100000 in
set_option maxHeartbeats 4000000 in
theorem xc_X12_number (l : Launch) (D : va_G) (cy : Nat → ClassId) (q : Nat → Nat) (σ : xw_M)  {Z : Int32 → xw_M → Prop} (hU : xu_X12_number σ Z) : xr_CI l yX12_number cX12_number 2 .int { frames := 3, cells := 0, slots := 0, locals := 62 } D cy xl_B q σ [.ref (q 0)] Z := by
  refine xr_CI.of RX12 rfl (by decide) (Nat.le_of_ble_eq_true rfl) (fun p e s m below meth c X hw hr hk ls hl => ?_)
  have hx := X.1
  have hb := X.2.1
  have hl : lv_has ls 2 [(0, .ref (q 0))] := hl
  unfold xu_X12_number at hU
  have hB := hU
  refine lv_aload_n hx hb dX12_number_0 rfl (lv_at hl 0 rfl) ?_
  refine lv_iconst (v := (2 : Int32)) hx hb dX12_number_1 (by decide) ?_
  refine xr_i hw (xr_runV (As := [.int (2 : Int32)]) (rest := []) X hw 0 (xc_X12_is l D cy q σ (2 : Int32) hB _) xm_X12_is xt_5_204 xt_5_206 xt_p_33 ⟨Nat.le_of_ble_eq_true rfl, Nat.le_of_ble_eq_true rfl⟩ xl_B_ShowRingsModel_at rfl rfl rfl rfl hl.1 (Nat.le_of_ble_eq_true rfl) dX12_number_2 ⟨Nat.zero_le _, Nat.zero_le _⟩) (fun r2 σ1 H locs hB hw => ?_)
  refine lv_if_eq (tgt := 20) hx hb dX12_number_5 (by decide) (fun hc => ?_) (fun hc => ?_)
  · replace hB := hB.1 hc
    refine lv_iconst (v := (0 : Int32)) hx hb dX12_number_20 (by decide) ?_
    refine lv_istore_n (lv' := [(1, .int (0 : Int32)), (0, .ref (q 0))]) hx hb dX12_number_21 rfl hl (by decide) rfl (fun ls hl => ?_)
    refine lv_aload_n hx hb dX12_number_22 rfl (lv_at hl 1 rfl) ?_
    refine lv_iconst (v := (2 : Int32)) hx hb dX12_number_23 (by decide) ?_
    refine xr_v hw (xr_runV (As := [.int (2 : Int32)]) (rest := []) X hw 0 (xc_X12_must l D cy q σ1 (2 : Int32) hB _) xm_X12_must xt_5_224 xt_5_226 xt_p_38 ⟨Nat.le_of_ble_eq_true rfl, Nat.le_of_ble_eq_true rfl⟩ xl_B_ShowRingsModel_at rfl rfl rfl rfl hl.1 (Nat.le_of_ble_eq_true rfl) dX12_number_24 ⟨Nat.zero_le _, Nat.zero_le _⟩) (fun σ3 H locs hB hw => ?_)
    refine lv_iload_n hx hb dX12_number_27 rfl (lv_at hl 0 rfl) ?_
    exact xr_iret X hw hr hk hB dX12_number_28
  · replace hB := hB.2 hc
    refine lv_aload_n hx hb dX12_number_8 rfl (lv_at hl 0 rfl) ?_
    refine xr_getr X hw (xf_X12_27 X) 0 xl_B_ShowRingsModel_at rfl dX12_number_9 ?_
    refine lv_aload_n hx hb dX12_number_12 rfl (lv_at hl 0 rfl) ?_
    refine xr_geti X hw (xf_X12_239 X) 0 xl_B_ShowRingsModel_at rfl dX12_number_13 ?_
    refine xr_iald X hw 5 xl_B_ShowRingsModel_tValue_at hB.1 dX12_number_16 ?_
    replace hB := hB.2
    refine lv_goto (tgt := 21) hx hb dX12_number_17 (by decide) ?_
    refine lv_istore_n (lv' := [(1, .int (σ1.1 5 (Int32.toNatClampNeg (σ1.1 0 11)))), (0, .ref (q 0))]) hx hb dX12_number_21 rfl hl (by decide) rfl (fun ls hl => ?_)
    refine lv_aload_n hx hb dX12_number_22 rfl (lv_at hl 1 rfl) ?_
    refine lv_iconst (v := (2 : Int32)) hx hb dX12_number_23 (by decide) ?_
    refine xr_v hw (xr_runV (As := [.int (2 : Int32)]) (rest := []) X hw 0 (xc_X12_must l D cy q σ1 (2 : Int32) hB _) xm_X12_must xt_5_224 xt_5_226 xt_p_38 ⟨Nat.le_of_ble_eq_true rfl, Nat.le_of_ble_eq_true rfl⟩ xl_B_ShowRingsModel_at rfl rfl rfl rfl hl.1 (Nat.le_of_ble_eq_true rfl) dX12_number_24 ⟨Nat.zero_le _, Nat.zero_le _⟩) (fun σ4 H locs hB hw => ?_)
    refine lv_iload_n hx hb dX12_number_27 rfl (lv_at hl 0 rfl) ?_
    exact xr_iret X hw hr hk hB dX12_number_28
