set_option maxRecDepth 100000 in
set_option maxHeartbeats 4000000 in
theorem xc_X12_isOut (l : Launch) (D : va_G) (cy : Nat → ClassId) (q : Nat → Nat) (σ : xw_M) (a1 : Int32) (a2 : Int32) (a3 : Int32) {Z : Int32 → xw_M → Prop} (hU : xu_X12_isOut σ a1 a2 a3 Z) : xr_CI l yX12_isOut cX12_isOut 11 .boolean { frames := 0, cells := 0, slots := 0, locals := 0 } D cy xl_B q σ [.ref (q 0), .int a1, .int a2, .int a3] Z := by
  refine xr_CI.of RX12 rfl (by decide) (Nat.le_of_ble_eq_true rfl) (fun p e s m below meth c X hw hr hk ls hl => ?_)
  have hx := X.1
  have hb := X.2.1
  have hl : lv_has ls 11 [(0, .ref (q 0)), (1, .int a1), (2, .int a2), (3, .int a3)] := hl
  have hB := hU (fun (σ : xw_M) (v4 : Int32) (v5 : Int32) (v6 : Int32) (v7 : Int32) (v8 : Int32) => ∀ (H : Heap) (locs : List Loc) (ls : Array Slot), xr_H D cy xl_B q s σ H locs → lv_has ls 11 [(0, .ref (q 0)), (1, .int a1), (2, .int a2), (4, .int v4), (5, .int v5), (6, .int v6), (7, .int v7), (8, .int v8)] → W p l e ({ frames := 0, cells := 0, slots := 0, locals := 0 } : Room) s m ([.ref (q 0), .int a1, .int a2, .int a3] : List Value).toArray below meth c H locs 0 0 (MQ below (va_Qi Z (xr_po D cy xl_B q) (xw_A xl_B q s.heap.size)) ([.ref (q 0), .int a1, .int a2, .int a3] : List Value).toArray s 0 0 (xw_A xl_B q s.heap.size)) (F0 m 17 ls []))
    (fun (σ : xw_M) (v4 : Int32) (v5 : Int32) (v6 : Int32) (v7 : Int32) (v8 : Int32) => ∀ (H : Heap) (locs : List Loc) (ls : Array Slot), xr_H D cy xl_B q s σ H locs → lv_has ls 11 [(0, .ref (q 0)), (1, .int a1), (2, .int a2), (4, .int v4), (5, .int v5), (6, .int v6), (7, .int v7), (8, .int v8)] → W p l e ({ frames := 0, cells := 0, slots := 0, locals := 0 } : Room) s m ([.ref (q 0), .int a1, .int a2, .int a3] : List Value).toArray below meth c H locs 0 0 (MQ below (va_Qi Z (xr_po D cy xl_B q) (xw_A xl_B q s.heap.size)) ([.ref (q 0), .int a1, .int a2, .int a3] : List Value).toArray s 0 0 (xw_A xl_B q s.heap.size)) (F0 m 93 ls []))
    (fun (σ : xw_M) (v4 : Int32) (v5 : Int32) (v6 : Int32) (v7 : Int32) => ∀ (H : Heap) (locs : List Loc) (ls : Array Slot), xr_H D cy xl_B q s σ H locs → lv_has ls 11 [(0, .ref (q 0)), (2, .int a2), (4, .int v4), (5, .int v5), (6, .int v6), (7, .int v7)] → W p l e ({ frames := 0, cells := 0, slots := 0, locals := 0 } : Room) s m ([.ref (q 0), .int a1, .int a2, .int a3] : List Value).toArray below meth c H locs 0 0 (MQ below (va_Qi Z (xr_po D cy xl_B q) (xw_A xl_B q s.heap.size)) ([.ref (q 0), .int a1, .int a2, .int a3] : List Value).toArray s 0 0 (xw_A xl_B q s.heap.size)) (F0 m 117 ls []))
    (fun (σ : xw_M) (v4 : Int32) (v5 : Int32) (v6 : Int32) (v7 : Int32) (v8 : Int32) => ∀ (H : Heap) (locs : List Loc) (ls : Array Slot), xr_H D cy xl_B q s σ H locs → lv_has ls 11 [(0, .ref (q 0)), (2, .int a2), (4, .int v4), (5, .int v5), (6, .int v6), (7, .int v7), (8, .int v8)] → W p l e ({ frames := 0, cells := 0, slots := 0, locals := 0 } : Room) s m ([.ref (q 0), .int a1, .int a2, .int a3] : List Value).toArray below meth c H locs 0 0 (MQ below (va_Qi Z (xr_po D cy xl_B q) (xw_A xl_B q s.heap.size)) ([.ref (q 0), .int a1, .int a2, .int a3] : List Value).toArray s 0 0 (xw_A xl_B q s.heap.size)) (F0 m 150 ls []))
    (fun (σ : xw_M) (s0 : Int32) (v7 : Int32) (v9 : Int32) => ∀ (H : Heap) (locs : List Loc) (ls : Array Slot), xr_H D cy xl_B q s σ H locs → lv_has ls 11 [(0, .ref (q 0)), (2, .int a2), (7, .int v7), (9, .int v9)] → W p l e ({ frames := 0, cells := 0, slots := 0, locals := 0 } : Room) s m ([.ref (q 0), .int a1, .int a2, .int a3] : List Value).toArray below meth c H locs 0 0 (MQ below (va_Qi Z (xr_po D cy xl_B q) (xw_A xl_B q s.heap.size)) ([.ref (q 0), .int a1, .int a2, .int a3] : List Value).toArray s 0 0 (xw_A xl_B q s.heap.size)) (F0 m 186 ls [.int s0]))
    (fun (σ : xw_M) (v8 : Int32) => ∀ (H : Heap) (locs : List Loc) (ls : Array Slot), xr_H D cy xl_B q s σ H locs → lv_has ls 11 [(0, .ref (q 0)), (2, .int a2), (8, .int v8)] → W p l e ({ frames := 0, cells := 0, slots := 0, locals := 0 } : Room) s m ([.ref (q 0), .int a1, .int a2, .int a3] : List Value).toArray below meth c H locs 0 0 (MQ below (va_Qi Z (xr_po D cy xl_B q) (xw_A xl_B q s.heap.size)) ([.ref (q 0), .int a1, .int a2, .int a3] : List Value).toArray s 0 0 (xw_A xl_B q s.heap.size)) (F0 m 216 ls []))
    (by
    intro σ v4 v5 v6 v7 v8 hB H locs ls hw hl
    unfold xb_X12_isOut_17 at hB
    refine lv_iload hx hb dX12_isOut_17 (lv_at hl 7 rfl) ?_
    refine lv_if_lt (tgt := 117) hx hb dX12_isOut_19 (by decide) (fun hc => ?_) (fun hc => ?_)
    · replace hB := hB.1 hc
      exact hB _ _ _ hw (lv_sub hl [0, 2, 3, 4, 5, 6] rfl)
    · replace hB := hB.2 hc
      refine lv_iload hx hb dX12_isOut_22 (lv_at hl 3 rfl) ?_
      refine lv_iconst (v := (3 : Int32)) hx hb dX12_isOut_24 (by decide) ?_
      refine lv_icmp_ge (tgt := 117) hx hb dX12_isOut_25 (by decide) (fun hc => ?_) (fun hc => ?_)
      · replace hB := hB.1 hc
        exact hB _ _ _ hw (lv_sub hl [0, 2, 3, 4, 5, 6] rfl)
      · replace hB := hB.2 hc
        refine lv_aload_n hx hb dX12_isOut_28 rfl (lv_at hl 0 rfl) ?_
        refine xr_getr X hw (xf_X12_131 X) 0 xl_B_ShowRingsModel_at rfl dX12_isOut_29 ?_
        refine lv_iload hx hb dX12_isOut_32 (lv_at hl 7 rfl) ?_
        refine xr_iald X hw 38 xl_B_ShowRingsModel_factSort_at hB.1 dX12_isOut_34 ?_
        replace hB := hB.2
        refine lv_iconst (v := (3 : Int32)) hx hb dX12_isOut_35 (by decide) ?_
        refine lv_icmp_ne (tgt := 111) hx hb dX12_isOut_36 (by decide) (fun hc => ?_) (fun hc => ?_)
        · replace hB := hB.1 hc
          refine lv_iinc (v := (v8 + (-1 : Int32))) (lv' := [(8, .int (v8 + (-1 : Int32))), (0, .ref (q 0)), (1, .int a1), (2, .int a2), (4, .int v4), (5, .int v5), (6, .int v6), (7, .int v7)]) hx hb dX12_isOut_111 hl (k := 7) rfl rfl (by decide) rfl (fun ls hl => ?_)
          refine lv_goto (tgt := 17) hx hb dX12_isOut_114 (by decide) ?_
          exact hB _ _ _ hw (lv_sub hl [1, 2, 3, 4, 5, 6, 7, 0] rfl)
        · replace hB := hB.2 hc
          refine lv_aload_n hx hb dX12_isOut_39 rfl (lv_at hl 0 rfl) ?_
          refine xr_getr X hw (xf_X12_134 X) 0 xl_B_ShowRingsModel_at rfl dX12_isOut_40 ?_
          refine lv_iload hx hb dX12_isOut_43 (lv_at hl 7 rfl) ?_
          refine xr_iald X hw 39 xl_B_ShowRingsModel_factIn_at hB.1 dX12_isOut_45 ?_
          replace hB := hB.2
          refine lv_iload_n hx hb dX12_isOut_46 rfl (lv_at hl 1 rfl) ?_
          refine lv_icmp_ne (tgt := 111) hx hb dX12_isOut_47 (by decide) (fun hc => ?_) (fun hc => ?_)
          · replace hB := hB.1 hc
            refine lv_iinc (v := (v8 + (-1 : Int32))) (lv' := [(8, .int (v8 + (-1 : Int32))), (0, .ref (q 0)), (1, .int a1), (2, .int a2), (4, .int v4), (5, .int v5), (6, .int v6), (7, .int v7)]) hx hb dX12_isOut_111 hl (k := 7) rfl rfl (by decide) rfl (fun ls hl => ?_)
            refine lv_goto (tgt := 17) hx hb dX12_isOut_114 (by decide) ?_
            exact hB _ _ _ hw (lv_sub hl [1, 2, 3, 4, 5, 6, 7, 0] rfl)
          · replace hB := hB.2 hc
            refine lv_aload_n hx hb dX12_isOut_50 rfl (lv_at hl 0 rfl) ?_
            refine xr_getr X hw (xf_X12_137 X) 0 xl_B_ShowRingsModel_at rfl dX12_isOut_51 ?_
            refine lv_iload hx hb dX12_isOut_54 (lv_at hl 7 rfl) ?_
            refine xr_iald X hw 40 xl_B_ShowRingsModel_factDog_at hB.1 dX12_isOut_56 ?_
            replace hB := hB.2
            refine lv_iload_n hx hb dX12_isOut_57 rfl (lv_at hl 2 rfl) ?_
            refine lv_icmp_eq (tgt := 64) hx hb dX12_isOut_58 (by decide) (fun hc => ?_) (fun hc => ?_)
            · replace hB := hB.1 hc
              refine lv_iload hx hb dX12_isOut_64 (lv_at hl 3 rfl) ?_
              refine lv_if_ne (tgt := 78) hx hb dX12_isOut_66 (by decide) (fun hc => ?_) (fun hc => ?_)
              · replace hB := hB.1 hc
                refine lv_iload hx hb dX12_isOut_78 (lv_at hl 3 rfl) ?_
                refine lv_iconst (v := (1 : Int32)) hx hb dX12_isOut_80 (by decide) ?_
                refine lv_icmp_ne (tgt := 93) hx hb dX12_isOut_81 (by decide) (fun hc => ?_) (fun hc => ?_)
                · replace hB := hB.1 hc
                  exact hB _ _ _ hw (lv_sub hl [0, 1, 2, 3, 4, 5, 6, 7] rfl)
                · replace hB := hB.2 hc
                  refine lv_aload_n hx hb dX12_isOut_84 rfl (lv_at hl 0 rfl) ?_
                  refine xr_getr X hw (xf_X12_140 X) 0 xl_B_ShowRingsModel_at rfl dX12_isOut_85 ?_
                  refine lv_iload hx hb dX12_isOut_88 (lv_at hl 7 rfl) ?_
                  refine xr_iald X hw 41 xl_B_ShowRingsModel_factV_at hB.1 dX12_isOut_90 ?_
                  replace hB := hB.2
                  refine lv_istore (lv' := [(6, .int (σ.1 41 (Int32.toNatClampNeg v8))), (0, .ref (q 0)), (1, .int a1), (2, .int a2), (4, .int v4), (5, .int v5), (7, .int v7), (8, .int v8)]) hx hb dX12_isOut_91 hl (by decide) rfl (fun ls hl => ?_)
                  exact hB _ _ _ hw (lv_sub hl [1, 2, 3, 4, 5, 0, 6, 7] rfl)
              · replace hB := hB.2 hc
                refine lv_aload_n hx hb dX12_isOut_69 rfl (lv_at hl 0 rfl) ?_
                refine xr_getr X hw (xf_X12_140 X) 0 xl_B_ShowRingsModel_at rfl dX12_isOut_70 ?_
                refine lv_iload hx hb dX12_isOut_73 (lv_at hl 7 rfl) ?_
                refine xr_iald X hw 41 xl_B_ShowRingsModel_factV_at hB.1 dX12_isOut_75 ?_
                replace hB := hB.2
                refine lv_istore (lv' := [(5, .int (σ.1 41 (Int32.toNatClampNeg v8))), (0, .ref (q 0)), (1, .int a1), (2, .int a2), (4, .int v4), (6, .int v6), (7, .int v7), (8, .int v8)]) hx hb dX12_isOut_76 hl (by decide) rfl (fun ls hl => ?_)
                refine lv_iload hx hb dX12_isOut_78 (lv_at hl 4 rfl) ?_
                refine lv_iconst (v := (1 : Int32)) hx hb dX12_isOut_80 (by decide) ?_
                refine lv_icmp_ne (tgt := 93) hx hb dX12_isOut_81 (by decide) (fun hc => ?_) (fun hc => ?_)
                · replace hB := hB.1 hc
                  exact hB _ _ _ hw (lv_sub hl [1, 2, 3, 4, 0, 5, 6, 7] rfl)
                · replace hB := hB.2 hc
                  refine lv_aload_n hx hb dX12_isOut_84 rfl (lv_at hl 1 rfl) ?_
                  refine xr_getr X hw (xf_X12_140 X) 0 xl_B_ShowRingsModel_at rfl dX12_isOut_85 ?_
                  refine lv_iload hx hb dX12_isOut_88 (lv_at hl 7 rfl) ?_
                  refine xr_iald X hw 41 xl_B_ShowRingsModel_factV_at hB.1 dX12_isOut_90 ?_
                  replace hB := hB.2
                  refine lv_istore (lv' := [(6, .int (σ.1 41 (Int32.toNatClampNeg v8))), (5, .int (σ.1 41 (Int32.toNatClampNeg v8))), (0, .ref (q 0)), (1, .int a1), (2, .int a2), (4, .int v4), (7, .int v7), (8, .int v8)]) hx hb dX12_isOut_91 hl (by decide) rfl (fun ls hl => ?_)
                  exact hB _ _ _ hw (lv_sub hl [2, 3, 4, 5, 1, 0, 6, 7] rfl)
            · replace hB := hB.2 hc
              refine lv_goto (tgt := 111) hx hb dX12_isOut_61 (by decide) ?_
              refine lv_iinc (v := (v8 + (-1 : Int32))) (lv' := [(8, .int (v8 + (-1 : Int32))), (0, .ref (q 0)), (1, .int a1), (2, .int a2), (4, .int v4), (5, .int v5), (6, .int v6), (7, .int v7)]) hx hb dX12_isOut_111 hl (k := 7) rfl rfl (by decide) rfl (fun ls hl => ?_)
              refine lv_goto (tgt := 17) hx hb dX12_isOut_114 (by decide) ?_
              exact hB _ _ _ hw (lv_sub hl [1, 2, 3, 4, 5, 6, 7, 0] rfl))
    (by
    intro σ v4 v5 v6 v7 v8 hB H locs ls hw hl
    unfold xb_X12_isOut_93 at hB
    refine lv_iload hx hb dX12_isOut_93 (lv_at hl 3 rfl) ?_
    refine lv_iconst (v := (2 : Int32)) hx hb dX12_isOut_95 (by decide) ?_
    refine lv_icmp_ne (tgt := 108) hx hb dX12_isOut_96 (by decide) (fun hc => ?_) (fun hc => ?_)
    · replace hB := hB.1 hc
      refine lv_iinc (v := (v4 + (1 : Int32))) (lv' := [(4, .int (v4 + (1 : Int32))), (0, .ref (q 0)), (1, .int a1), (2, .int a2), (5, .int v5), (6, .int v6), (7, .int v7), (8, .int v8)]) hx hb dX12_isOut_108 hl (k := 3) rfl rfl (by decide) rfl (fun ls hl => ?_)
      refine lv_iinc (v := (v8 + (-1 : Int32))) (lv' := [(8, .int (v8 + (-1 : Int32))), (4, .int (v4 + (1 : Int32))), (0, .ref (q 0)), (1, .int a1), (2, .int a2), (5, .int v5), (6, .int v6), (7, .int v7)]) hx hb dX12_isOut_111 hl (k := 7) rfl rfl (by decide) rfl (fun ls hl => ?_)
      refine lv_goto (tgt := 17) hx hb dX12_isOut_114 (by decide) ?_
      exact hB _ _ _ hw (lv_sub hl [2, 3, 4, 1, 5, 6, 7, 0] rfl)
    · replace hB := hB.2 hc
      refine lv_aload_n hx hb dX12_isOut_99 rfl (lv_at hl 0 rfl) ?_
      refine xr_getr X hw (xf_X12_140 X) 0 xl_B_ShowRingsModel_at rfl dX12_isOut_100 ?_
      refine lv_iload hx hb dX12_isOut_103 (lv_at hl 7 rfl) ?_
      refine xr_iald X hw 41 xl_B_ShowRingsModel_factV_at hB.1 dX12_isOut_105 ?_
      replace hB := hB.2
      refine lv_istore (lv' := [(7, .int (σ.1 41 (Int32.toNatClampNeg v8))), (0, .ref (q 0)), (1, .int a1), (2, .int a2), (4, .int v4), (5, .int v5), (6, .int v6), (8, .int v8)]) hx hb dX12_isOut_106 hl (by decide) rfl (fun ls hl => ?_)
      refine lv_iinc (v := (v4 + (1 : Int32))) (lv' := [(4, .int (v4 + (1 : Int32))), (7, .int (σ.1 41 (Int32.toNatClampNeg v8))), (0, .ref (q 0)), (1, .int a1), (2, .int a2), (5, .int v5), (6, .int v6), (8, .int v8)]) hx hb dX12_isOut_108 hl (k := 4) rfl rfl (by decide) rfl (fun ls hl => ?_)
      refine lv_iinc (v := (v8 + (-1 : Int32))) (lv' := [(8, .int (v8 + (-1 : Int32))), (4, .int (v4 + (1 : Int32))), (7, .int (σ.1 41 (Int32.toNatClampNeg v8))), (0, .ref (q 0)), (1, .int a1), (2, .int a2), (5, .int v5), (6, .int v6)]) hx hb dX12_isOut_111 hl (k := 7) rfl rfl (by decide) rfl (fun ls hl => ?_)
      refine lv_goto (tgt := 17) hx hb dX12_isOut_114 (by decide) ?_
      exact hB _ _ _ hw (lv_sub hl [3, 4, 5, 1, 6, 7, 2, 0] rfl))
    (by
    intro σ v4 v5 v6 v7 hB H locs ls hw hl
    unfold xb_X12_isOut_117 at hB
    refine lv_iload hx hb dX12_isOut_117 (lv_at hl 2 rfl) ?_
    refine lv_if_ne (tgt := 124) hx hb dX12_isOut_119 (by decide) (fun hc => ?_) (fun hc => ?_)
    · replace hB := hB.1 hc
      refine lv_iload hx hb dX12_isOut_124 (lv_at hl 3 rfl) ?_
      refine lv_istore (lv' := [(8, .int v5), (0, .ref (q 0)), (2, .int a2), (4, .int v4), (5, .int v5), (6, .int v6), (7, .int v7)]) hx hb dX12_isOut_126 hl (by decide) rfl (fun ls hl => ?_)
      refine lv_iload hx hb dX12_isOut_128 (lv_at hl 3 rfl) ?_
      refine lv_iconst (v := (2 : Int32)) hx hb dX12_isOut_130 (by decide) ?_
      refine lv_icmp_ne (tgt := 150) hx hb dX12_isOut_131 (by decide) (fun hc => ?_) (fun hc => ?_)
      · replace hB := hB.1 hc
        exact hB _ _ _ hw (lv_sub hl [1, 2, 3, 4, 5, 6, 0] rfl)
      · replace hB := hB.2 hc
        refine lv_iload hx hb dX12_isOut_134 (lv_at hl 4 rfl) ?_
        refine lv_iload hx hb dX12_isOut_136 (lv_at hl 5 rfl) ?_
        refine lv_icmp_ge (tgt := 146) hx hb dX12_isOut_138 (by decide) (fun hc => ?_) (fun hc => ?_)
        · replace hB := hB.1 hc
          refine lv_iload hx hb dX12_isOut_146 (lv_at hl 5 rfl) ?_
          refine lv_istore (lv' := [(8, .int v6), (0, .ref (q 0)), (2, .int a2), (4, .int v4), (5, .int v5), (6, .int v6), (7, .int v7)]) hx hb dX12_isOut_148 hl (by decide) rfl (fun ls hl => ?_)
          exact hB _ _ _ hw (lv_sub hl [1, 2, 3, 4, 5, 6, 0] rfl)
        · replace hB := hB.2 hc
          refine lv_iload hx hb dX12_isOut_141 (lv_at hl 4 rfl) ?_
          refine lv_goto (tgt := 148) hx hb dX12_isOut_143 (by decide) ?_
          refine lv_istore (lv' := [(8, .int v5), (0, .ref (q 0)), (2, .int a2), (4, .int v4), (5, .int v5), (6, .int v6), (7, .int v7)]) hx hb dX12_isOut_148 hl (by decide) rfl (fun ls hl => ?_)
          exact hB _ _ _ hw (lv_sub hl [1, 2, 3, 4, 5, 6, 0] rfl)
    · replace hB := hB.2 hc
      refine lv_iconst (v := (0 : Int32)) hx hb dX12_isOut_122 (by decide) ?_
      exact xr_zret X hw hr hk hB dX12_isOut_123)
    (by
    intro σ v4 v5 v6 v7 v8 hB H locs ls hw hl
    unfold xb_X12_isOut_150 at hB
    refine lv_iload hx hb dX12_isOut_150 (lv_at hl 2 rfl) ?_
    refine lv_iconst (v := (3 : Int32)) hx hb dX12_isOut_152 (by decide) ?_
    refine lv_icmp_ne (tgt := 216) hx hb dX12_isOut_153 (by decide) (fun hc => ?_) (fun hc => ?_)
    · replace hB := hB.1 hc
      exact hB _ _ _ hw (lv_sub hl [0, 1, 6] rfl)
    · replace hB := hB.2 hc
      refine lv_iload hx hb dX12_isOut_156 (lv_at hl 3 rfl) ?_
      refine lv_iload hx hb dX12_isOut_158 (lv_at hl 4 rfl) ?_
      refine lv_icmp_ge (tgt := 168) hx hb dX12_isOut_160 (by decide) (fun hc => ?_) (fun hc => ?_)
      · replace hB := hB.1 hc
        refine lv_iload hx hb dX12_isOut_168 (lv_at hl 4 rfl) ?_
        refine lv_istore (lv' := [(9, .int v6), (0, .ref (q 0)), (2, .int a2), (4, .int v4), (5, .int v5), (6, .int v6), (7, .int v7), (8, .int v8)]) hx hb dX12_isOut_170 hl (by decide) rfl (fun ls hl => ?_)
        refine lv_iload hx hb dX12_isOut_172 (lv_at hl 4 rfl) ?_
        refine lv_iload hx hb dX12_isOut_174 (lv_at hl 5 rfl) ?_
        refine lv_icmp_ge (tgt := 184) hx hb dX12_isOut_176 (by decide) (fun hc => ?_) (fun hc => ?_)
        · replace hB := hB.1 hc
          refine lv_iload hx hb dX12_isOut_184 (lv_at hl 4 rfl) ?_
          exact hB _ _ _ hw (lv_sub hl [1, 2, 6, 0] rfl)
        · replace hB := hB.2 hc
          refine lv_iload hx hb dX12_isOut_179 (lv_at hl 5 rfl) ?_
          refine lv_goto (tgt := 186) hx hb dX12_isOut_181 (by decide) ?_
          exact hB _ _ _ hw (lv_sub hl [1, 2, 6, 0] rfl)
      · replace hB := hB.2 hc
        refine lv_iload hx hb dX12_isOut_163 (lv_at hl 3 rfl) ?_
        refine lv_goto (tgt := 170) hx hb dX12_isOut_165 (by decide) ?_
        refine lv_istore (lv' := [(9, .int v5), (0, .ref (q 0)), (2, .int a2), (4, .int v4), (5, .int v5), (6, .int v6), (7, .int v7), (8, .int v8)]) hx hb dX12_isOut_170 hl (by decide) rfl (fun ls hl => ?_)
        refine lv_iload hx hb dX12_isOut_172 (lv_at hl 4 rfl) ?_
        refine lv_iload hx hb dX12_isOut_174 (lv_at hl 5 rfl) ?_
        refine lv_icmp_ge (tgt := 184) hx hb dX12_isOut_176 (by decide) (fun hc => ?_) (fun hc => ?_)
        · replace hB := hB.1 hc
          refine lv_iload hx hb dX12_isOut_184 (lv_at hl 4 rfl) ?_
          exact hB _ _ _ hw (lv_sub hl [1, 2, 6, 0] rfl)
        · replace hB := hB.2 hc
          refine lv_iload hx hb dX12_isOut_179 (lv_at hl 5 rfl) ?_
          refine lv_goto (tgt := 186) hx hb dX12_isOut_181 (by decide) ?_
          exact hB _ _ _ hw (lv_sub hl [1, 2, 6, 0] rfl))
    (by
    intro σ s0 v7 v9 hB H locs ls hw hl
    unfold xb_X12_isOut_186 at hB
    refine lv_istore (lv' := [(10, .int s0), (0, .ref (q 0)), (2, .int a2), (7, .int v7), (9, .int v9)]) hx hb dX12_isOut_186 hl (by decide) rfl (fun ls hl => ?_)
    refine lv_iload hx hb dX12_isOut_188 (lv_at hl 3 rfl) ?_
    refine lv_iload hx hb dX12_isOut_190 (lv_at hl 4 rfl) ?_
    refine lv_icmp_ge (tgt := 200) hx hb dX12_isOut_192 (by decide) (fun hc => ?_) (fun hc => ?_)
    · replace hB := hB.1 hc
      refine lv_iload hx hb dX12_isOut_200 (lv_at hl 3 rfl) ?_
      refine lv_iload hx hb dX12_isOut_202 (lv_at hl 0 rfl) ?_
      refine lv_icmp_le (tgt := 212) hx hb dX12_isOut_204 (by decide) (fun hc => ?_) (fun hc => ?_)
      · replace hB := hB.1 hc
        refine lv_iload hx hb dX12_isOut_212 (lv_at hl 3 rfl) ?_
        refine lv_istore (lv' := [(8, .int v7), (10, .int s0), (0, .ref (q 0)), (2, .int a2), (7, .int v7), (9, .int v9)]) hx hb dX12_isOut_214 hl (by decide) rfl (fun ls hl => ?_)
        exact hB _ _ _ hw (lv_sub hl [2, 3, 0] rfl)
      · replace hB := hB.2 hc
        refine lv_iload hx hb dX12_isOut_207 (lv_at hl 0 rfl) ?_
        refine lv_goto (tgt := 214) hx hb dX12_isOut_209 (by decide) ?_
        refine lv_istore (lv' := [(8, .int s0), (10, .int s0), (0, .ref (q 0)), (2, .int a2), (7, .int v7), (9, .int v9)]) hx hb dX12_isOut_214 hl (by decide) rfl (fun ls hl => ?_)
        exact hB _ _ _ hw (lv_sub hl [2, 3, 0] rfl)
    · replace hB := hB.2 hc
      refine lv_iload hx hb dX12_isOut_195 (lv_at hl 4 rfl) ?_
      refine lv_goto (tgt := 214) hx hb dX12_isOut_197 (by decide) ?_
      refine lv_istore (lv' := [(8, .int v9), (10, .int s0), (0, .ref (q 0)), (2, .int a2), (7, .int v7), (9, .int v9)]) hx hb dX12_isOut_214 hl (by decide) rfl (fun ls hl => ?_)
      exact hB _ _ _ hw (lv_sub hl [2, 3, 0] rfl))
    (by
    intro σ v8 hB H locs ls hw hl
    unfold xb_X12_isOut_216 at hB
    refine lv_iload hx hb dX12_isOut_216 (lv_at hl 2 rfl) ?_
    refine lv_aload_n hx hb dX12_isOut_218 rfl (lv_at hl 0 rfl) ?_
    refine xr_getr X hw (xf_X12_104 X) 0 xl_B_ShowRingsModel_at rfl dX12_isOut_219 ?_
    refine lv_aload_n hx hb dX12_isOut_222 rfl (lv_at hl 0 rfl) ?_
    refine xr_getr X hw (xf_X12_110 X) 0 xl_B_ShowRingsModel_at rfl dX12_isOut_223 ?_
    refine lv_iload_n hx hb dX12_isOut_226 rfl (lv_at hl 1 rfl) ?_
    refine xr_iald X hw 31 xl_B_ShowRingsModel_breedOf_at hB.1 dX12_isOut_227 ?_
    replace hB := hB.2
    refine xr_iald X hw 29 xl_B_ShowRingsModel_heightFrom_at hB.1 dX12_isOut_228 ?_
    replace hB := hB.2
    refine lv_icmp_lt (tgt := 248) hx hb dX12_isOut_229 (by decide) (fun hc => ?_) (fun hc => ?_)
    · replace hB := hB.1 hc
      refine lv_iconst (v := (1 : Int32)) hx hb dX12_isOut_248 (by decide) ?_
      refine lv_goto (tgt := 253) hx hb dX12_isOut_249 (by decide) ?_
      exact xr_zret X hw hr hk hB dX12_isOut_253
    · replace hB := hB.2 hc
      refine lv_iload hx hb dX12_isOut_232 (lv_at hl 2 rfl) ?_
      refine lv_aload_n hx hb dX12_isOut_234 rfl (lv_at hl 0 rfl) ?_
      refine xr_getr X hw (xf_X12_107 X) 0 xl_B_ShowRingsModel_at rfl dX12_isOut_235 ?_
      refine lv_aload_n hx hb dX12_isOut_238 rfl (lv_at hl 0 rfl) ?_
      refine xr_getr X hw (xf_X12_110 X) 0 xl_B_ShowRingsModel_at rfl dX12_isOut_239 ?_
      refine lv_iload_n hx hb dX12_isOut_242 rfl (lv_at hl 1 rfl) ?_
      refine xr_iald X hw 31 xl_B_ShowRingsModel_breedOf_at hB.1 dX12_isOut_243 ?_
      replace hB := hB.2
      refine xr_iald X hw 30 xl_B_ShowRingsModel_heightTo_at hB.1 dX12_isOut_244 ?_
      replace hB := hB.2
      refine lv_icmp_le (tgt := 252) hx hb dX12_isOut_245 (by decide) (fun hc => ?_) (fun hc => ?_)
      · replace hB := hB.1 hc
        refine lv_iconst (v := (0 : Int32)) hx hb dX12_isOut_252 (by decide) ?_
        exact xr_zret X hw hr hk hB dX12_isOut_253
      · replace hB := hB.2 hc
        refine lv_iconst (v := (1 : Int32)) hx hb dX12_isOut_248 (by decide) ?_
        refine lv_goto (tgt := 253) hx hb dX12_isOut_249 (by decide) ?_
        exact xr_zret X hw hr hk hB dX12_isOut_253)
  unfold xb_X12_isOut_e at hB
  refine lv_iconst (v := (0 : Int32)) hx hb dX12_isOut_0 (by decide) ?_
  refine lv_istore (lv' := [(4, .int (0 : Int32)), (0, .ref (q 0)), (1, .int a1), (2, .int a2), (3, .int a3)]) hx hb dX12_isOut_1 hl (by decide) rfl (fun ls hl => ?_)
  refine lv_iconst (v := (0 : Int32)) hx hb dX12_isOut_3 (by decide) ?_
  refine lv_istore (lv' := [(5, .int (0 : Int32)), (4, .int (0 : Int32)), (0, .ref (q 0)), (1, .int a1), (2, .int a2), (3, .int a3)]) hx hb dX12_isOut_4 hl (by decide) rfl (fun ls hl => ?_)
  refine lv_iconst (v := (0 : Int32)) hx hb dX12_isOut_6 (by decide) ?_
  refine lv_istore (lv' := [(6, .int (0 : Int32)), (5, .int (0 : Int32)), (4, .int (0 : Int32)), (0, .ref (q 0)), (1, .int a1), (2, .int a2), (3, .int a3)]) hx hb dX12_isOut_7 hl (by decide) rfl (fun ls hl => ?_)
  refine lv_iconst (v := (0 : Int32)) hx hb dX12_isOut_9 (by decide) ?_
  refine lv_istore (lv' := [(7, .int (0 : Int32)), (6, .int (0 : Int32)), (5, .int (0 : Int32)), (4, .int (0 : Int32)), (0, .ref (q 0)), (1, .int a1), (2, .int a2), (3, .int a3)]) hx hb dX12_isOut_10 hl (by decide) rfl (fun ls hl => ?_)
  refine lv_iload_n hx hb dX12_isOut_12 rfl (lv_at hl 7 rfl) ?_
  refine lv_iconst (v := (1 : Int32)) hx hb dX12_isOut_13 (by decide) ?_
  refine lv_isub hx hb dX12_isOut_14 ?_
  refine lv_istore (lv' := [(8, .int (a3 - (1 : Int32))), (7, .int (0 : Int32)), (6, .int (0 : Int32)), (5, .int (0 : Int32)), (4, .int (0 : Int32)), (0, .ref (q 0)), (1, .int a1), (2, .int a2), (3, .int a3)]) hx hb dX12_isOut_15 hl (by decide) rfl (fun ls hl => ?_)
  exact hB _ _ _ hw (lv_sub hl [5, 6, 7, 4, 3, 2, 1, 0] rfl)
theorem xm_X12_isTold : xr_MW yX12_isTold cX12_isTold 6 (some .boolean) 4 := ⟨xt_6_168, xt_1_13, by decide, by decide, by decide +kernel⟩
theorem xm_X12_isOut : xr_MW yX12_isOut cX12_isOut 11 (some .boolean) 3 := ⟨xt_6_172, xt_1_13, by decide, by decide, by decide +kernel⟩
set_option maxRecDepth 100000 in
set_option maxHeartbeats 4000000 in
theorem xc_X12_whyOf (l : Launch) (D : va_G) (cy : Nat → ClassId) (q : Nat → Nat) (σ : xw_M) (a1 : Int32) (a2 : Int32) (a3 : Int32) {Z : Int32 → xw_M → Prop} (hU : xu_X12_whyOf σ a1 a2 a3 Z) : xr_CI l yX12_whyOf cX12_whyOf 5 .int { frames := 5, cells := 0, slots := 0, locals := 123 } D cy xl_B q σ [.ref (q 0), .int a1, .int a2, .int a3] Z := by
  refine xr_CI.of RX12 rfl (by decide) (Nat.le_of_ble_eq_true rfl) (fun p e s m below meth c X hw hr hk ls hl => ?_)
  have hx := X.1
  have hb := X.2.1
  have hl : lv_has ls 5 [(0, .ref (q 0)), (1, .int a1), (2, .int a2), (3, .int a3)] := hl
  unfold xu_X12_whyOf at hU
  have hB := hU
  refine lv_aload_n hx hb dX12_whyOf_0 rfl (lv_at hl 0 rfl) ?_
  refine xr_getr X hw (xf_X12_128 X) 0 xl_B_ShowRingsModel_at rfl dX12_whyOf_1 ?_
  refine lv_bipush (v := (20 : Int32)) hx hb dX12_whyOf_4 (by decide) ?_
  refine lv_iload_n hx hb dX12_whyOf_6 rfl (lv_at hl 1 rfl) ?_
  refine lv_imul hx hb dX12_whyOf_7 ?_
  refine lv_iload_n hx hb dX12_whyOf_8 rfl (lv_at hl 2 rfl) ?_
  refine lv_iadd hx hb dX12_whyOf_9 ?_
  refine xr_zald X hw 37 xl_B_ShowRingsModel_isEntry_at hB.1 dX12_whyOf_10 ?_
  replace hB := hB.2
  refine lv_if_ne (tgt := 16) hx hb dX12_whyOf_11 (by decide) (fun hc => ?_) (fun hc => ?_)
  · replace hB := hB.1 hc
    refine lv_aload_n hx hb dX12_whyOf_16 rfl (lv_at hl 0 rfl) ?_
    refine lv_iconst (v := (1 : Int32)) hx hb dX12_whyOf_17 (by decide) ?_
    refine lv_iload_n hx hb dX12_whyOf_18 rfl (lv_at hl 1 rfl) ?_
    refine lv_iload_n hx hb dX12_whyOf_19 rfl (lv_at hl 2 rfl) ?_
    refine lv_iload_n hx hb dX12_whyOf_20 rfl (lv_at hl 3 rfl) ?_
    refine xr_i hw (xr_runV (As := [.int (1 : Int32), .int a1, .int a2, .int a3]) (rest := []) X hw 0 (xc_X12_isTold l D cy q σ (1 : Int32) a1 a2 a3 hB _) xm_X12_isTold xt_6_165 xt_6_167 xt_p_63 ⟨Nat.le_of_ble_eq_true rfl, Nat.le_of_ble_eq_true rfl⟩ xl_B_ShowRingsModel_at rfl rfl rfl rfl hl.1 (Nat.le_of_ble_eq_true rfl) dX12_whyOf_21 ⟨Nat.zero_le _, Nat.zero_le _⟩) (fun r2 σ1 H locs hB hw => ?_)
    refine lv_if_eq (tgt := 29) hx hb dX12_whyOf_24 (by decide) (fun hc => ?_) (fun hc => ?_)
    · replace hB := hB.1 hc
      refine lv_aload_n hx hb dX12_whyOf_29 rfl (lv_at hl 0 rfl) ?_
      refine lv_iconst (v := (2 : Int32)) hx hb dX12_whyOf_30 (by decide) ?_
      refine lv_iload_n hx hb dX12_whyOf_31 rfl (lv_at hl 1 rfl) ?_
      refine lv_iload_n hx hb dX12_whyOf_32 rfl (lv_at hl 2 rfl) ?_
      refine lv_iload_n hx hb dX12_whyOf_33 rfl (lv_at hl 3 rfl) ?_
      refine xr_i hw (xr_runV (As := [.int (2 : Int32), .int a1, .int a2, .int a3]) (rest := []) X hw 0 (xc_X12_isTold l D cy q σ1 (2 : Int32) a1 a2 a3 hB _) xm_X12_isTold xt_6_165 xt_6_167 xt_p_63 ⟨Nat.le_of_ble_eq_true rfl, Nat.le_of_ble_eq_true rfl⟩ xl_B_ShowRingsModel_at rfl rfl rfl rfl hl.1 (Nat.le_of_ble_eq_true rfl) dX12_whyOf_34 ⟨Nat.zero_le _, Nat.zero_le _⟩) (fun r4 σ3 H locs hB hw => ?_)
      refine lv_if_eq (tgt := 42) hx hb dX12_whyOf_37 (by decide) (fun hc => ?_) (fun hc => ?_)
      · replace hB := hB.1 hc
        refine lv_aload_n hx hb dX12_whyOf_42 rfl (lv_at hl 0 rfl) ?_
        refine lv_iload_n hx hb dX12_whyOf_43 rfl (lv_at hl 1 rfl) ?_
        refine lv_iload_n hx hb dX12_whyOf_44 rfl (lv_at hl 2 rfl) ?_
        refine lv_iload_n hx hb dX12_whyOf_45 rfl (lv_at hl 3 rfl) ?_
        refine xr_i hw (xr_runV (As := [.int a1, .int a2, .int a3]) (rest := []) X hw 0 (xc_X12_isOut l D cy q σ3 a1 a2 a3 hB _) xm_X12_isOut xt_6_169 xt_6_171 xt_p_64 ⟨Nat.le_of_ble_eq_true rfl, Nat.le_of_ble_eq_true rfl⟩ xl_B_ShowRingsModel_at rfl rfl rfl rfl hl.1 (Nat.le_of_ble_eq_true rfl) dX12_whyOf_46 ⟨Nat.zero_le _, Nat.zero_le _⟩) (fun r6 σ5 H locs hB hw => ?_)
        refine lv_if_eq (tgt := 54) hx hb dX12_whyOf_49 (by decide) (fun hc => ?_) (fun hc => ?_)
        · replace hB := hB.1 hc
          refine lv_aload_n hx hb dX12_whyOf_54 rfl (lv_at hl 0 rfl) ?_
          refine xr_getr X hw (xf_X12_152 X) 0 xl_B_ShowRingsModel_at rfl dX12_whyOf_55 ?_
          refine lv_bipush (v := (6 : Int32)) hx hb dX12_whyOf_58 (by decide) ?_
          refine lv_iload_n hx hb dX12_whyOf_60 rfl (lv_at hl 1 rfl) ?_
          refine lv_imul hx hb dX12_whyOf_61 ?_
          refine lv_aload_n hx hb dX12_whyOf_62 rfl (lv_at hl 0 rfl) ?_
          refine xr_getr X hw (xf_X12_110 X) 0 xl_B_ShowRingsModel_at rfl dX12_whyOf_63 ?_
          refine lv_iload_n hx hb dX12_whyOf_66 rfl (lv_at hl 2 rfl) ?_
          refine xr_iald X hw 31 xl_B_ShowRingsModel_breedOf_at hB.1 dX12_whyOf_67 ?_
          replace hB := hB.2
          refine lv_iadd hx hb dX12_whyOf_68 ?_
          refine xr_iald X hw 45 xl_B_ShowRingsModel_plannedJudge_at hB.1 dX12_whyOf_69 ?_
          replace hB := hB.2
          refine lv_topi (fun x7 hx7 => ?_)
          replace hB := hB _ hx7
          refine lv_istore (lv' := [(4, .int x7), (0, .ref (q 0)), (1, .int a1), (2, .int a2), (3, .int a3)]) hx hb dX12_whyOf_70 hl (by decide) rfl (fun ls hl => ?_)
          refine lv_iload hx hb dX12_whyOf_72 (lv_at hl 0 rfl) ?_
          refine lv_iconst (v := (-1 : Int32)) hx hb dX12_whyOf_74 (by decide) ?_
          refine lv_icmp_ne (tgt := 80) hx hb dX12_whyOf_75 (by decide) (fun hc => ?_) (fun hc => ?_)
          · replace hB := hB.1 hc
            refine lv_aload_n hx hb dX12_whyOf_80 rfl (lv_at hl 1 rfl) ?_
            refine lv_iload hx hb dX12_whyOf_81 (lv_at hl 0 rfl) ?_
            refine lv_iload_n hx hb dX12_whyOf_83 rfl (lv_at hl 2 rfl) ?_
            refine lv_iload_n hx hb dX12_whyOf_84 rfl (lv_at hl 3 rfl) ?_
            refine lv_iload_n hx hb dX12_whyOf_85 rfl (lv_at hl 4 rfl) ?_
            refine xr_i hw (xr_runV (As := [.int x7, .int a1, .int a2, .int a3]) (rest := []) X hw 0 (xc_X12_barOf l D cy q σ5 x7 a1 a2 a3 hB _) xm_X12_barOf xt_6_90 xt_6_92 xt_p_51 ⟨Nat.le_of_ble_eq_true rfl, Nat.le_of_ble_eq_true rfl⟩ xl_B_ShowRingsModel_at rfl rfl rfl rfl hl.1 (Nat.le_of_ble_eq_true rfl) dX12_whyOf_86 ⟨Nat.zero_le _, Nat.zero_le _⟩) (fun r9 σ8 H locs hB hw => ?_)
            refine lv_iconst (v := (-1 : Int32)) hx hb dX12_whyOf_89 (by decide) ?_
            refine lv_icmp_eq (tgt := 98) hx hb dX12_whyOf_90 (by decide) (fun hc => ?_) (fun hc => ?_)
            · replace hB := hB.1 hc
              refine lv_iconst (v := (0 : Int32)) hx hb dX12_whyOf_98 (by decide) ?_
              exact xr_iret X hw hr hk hB dX12_whyOf_99
            · replace hB := hB.2 hc
              refine lv_bipush (v := (6 : Int32)) hx hb dX12_whyOf_93 (by decide) ?_
              refine lv_goto (tgt := 99) hx hb dX12_whyOf_95 (by decide) ?_
              exact xr_iret X hw hr hk hB dX12_whyOf_99
          · replace hB := hB.2 hc
            refine lv_iconst (v := (5 : Int32)) hx hb dX12_whyOf_78 (by decide) ?_
            exact xr_iret X hw hr hk hB dX12_whyOf_79
        · replace hB := hB.2 hc
          refine lv_iconst (v := (4 : Int32)) hx hb dX12_whyOf_52 (by decide) ?_
          exact xr_iret X hw hr hk hB dX12_whyOf_53
      · replace hB := hB.2 hc
        refine lv_iconst (v := (3 : Int32)) hx hb dX12_whyOf_40 (by decide) ?_
        exact xr_iret X hw hr hk hB dX12_whyOf_41
    · replace hB := hB.2 hc
      refine lv_iconst (v := (2 : Int32)) hx hb dX12_whyOf_27 (by decide) ?_
      exact xr_iret X hw hr hk hB dX12_whyOf_28
  · replace hB := hB.2 hc
    refine lv_iconst (v := (1 : Int32)) hx hb dX12_whyOf_14 (by decide) ?_
    exact xr_iret X hw hr hk hB dX12_whyOf_15
theorem xm_X12_whyOf : xr_MW yX12_whyOf cX12_whyOf 5 (some .int) 3 := ⟨xt_6_164, xt_1_13, by decide, by decide, by decide +kernel⟩
set_option maxRecDepth 100000 in
set_option maxHeartbeats 4000000 in
theorem xc_X12_counts (l : Launch) (D : va_G) (cy : Nat → ClassId) (q : Nat → Nat) (σ : xw_M) (a1 : Int32) (a2 : Int32) (a3 : Int32) {Z : Int32 → xw_M → Prop} (hU : xu_X12_counts σ a1 a2 a3 Z) : xr_CI l yX12_counts cX12_counts 4 .int { frames := 6, cells := 0, slots := 0, locals := 147 } D cy xl_B q σ [.ref (q 0), .int a1, .int a2, .int a3] Z := by
  refine xr_CI.of RX12 rfl (by decide) (Nat.le_of_ble_eq_true rfl) (fun p e s m below meth c X hw hr hk ls hl => ?_)
  have hx := X.1
  have hb := X.2.1
  have hl : lv_has ls 4 [(0, .ref (q 0)), (1, .int a1), (2, .int a2), (3, .int a3)] := hl
  unfold xu_X12_counts at hU
  have hB := hU
  refine lv_aload_n hx hb dX12_counts_0 rfl (lv_at hl 0 rfl) ?_
  refine lv_iload_n hx hb dX12_counts_1 rfl (lv_at hl 1 rfl) ?_
  refine xr_i hw (xr_runV (As := [.int a1]) (rest := []) X hw 0 (xc_X12_isShow l D cy q σ a1 hB _) xm_X12_isShow xt_6_46 xt_6_48 xt_p_44 ⟨Nat.le_of_ble_eq_true rfl, Nat.le_of_ble_eq_true rfl⟩ xl_B_ShowRingsModel_at rfl rfl rfl rfl hl.1 (Nat.le_of_ble_eq_true rfl) dX12_counts_2 ⟨Nat.zero_le _, Nat.zero_le _⟩) (fun r2 σ1 H locs hB hw => ?_)
  refine lv_if_eq (tgt := 34) hx hb dX12_counts_5 (by decide) (fun hc => ?_) (fun hc => ?_)
  · replace hB := hB.1 hc
    refine lv_iconst (v := (-1 : Int32)) hx hb dX12_counts_34 (by decide) ?_
    exact xr_iret X hw hr hk hB dX12_counts_35
  · replace hB := hB.2 hc
    refine lv_aload_n hx hb dX12_counts_8 rfl (lv_at hl 0 rfl) ?_
    refine lv_iload_n hx hb dX12_counts_9 rfl (lv_at hl 2 rfl) ?_
    refine xr_i hw (xr_runV (As := [.int a2]) (rest := []) X hw 0 (xc_X12_isDog l D cy q σ1 a2 hB _) xm_X12_isDog xt_6_50 xt_6_52 xt_p_45 ⟨Nat.le_of_ble_eq_true rfl, Nat.le_of_ble_eq_true rfl⟩ xl_B_ShowRingsModel_at rfl rfl rfl rfl hl.1 (Nat.le_of_ble_eq_true rfl) dX12_counts_10 ⟨Nat.zero_le _, Nat.zero_le _⟩) (fun r4 σ3 H locs hB hw => ?_)
    refine lv_if_eq (tgt := 34) hx hb dX12_counts_13 (by decide) (fun hc => ?_) (fun hc => ?_)
    · replace hB := hB.1 hc
      refine lv_iconst (v := (-1 : Int32)) hx hb dX12_counts_34 (by decide) ?_
      exact xr_iret X hw hr hk hB dX12_counts_35
    · replace hB := hB.2 hc
      refine lv_aload_n hx hb dX12_counts_16 rfl (lv_at hl 0 rfl) ?_
      refine lv_iload_n hx hb dX12_counts_17 rfl (lv_at hl 3 rfl) ?_
      refine xr_i hw (xr_runV (As := [.int a3]) (rest := []) X hw 0 (xc_X12_isKnown l D cy q σ3 a3 hB _) xm_X12_isKnown xt_6_66 xt_6_68 xt_p_47 ⟨Nat.le_of_ble_eq_true rfl, Nat.le_of_ble_eq_true rfl⟩ xl_B_ShowRingsModel_at rfl rfl rfl rfl hl.1 (Nat.le_of_ble_eq_true rfl) dX12_counts_18 ⟨Nat.zero_le _, Nat.zero_le _⟩) (fun r6 σ5 H locs hB hw => ?_)
      refine lv_if_eq (tgt := 34) hx hb dX12_counts_21 (by decide) (fun hc => ?_) (fun hc => ?_)
      · replace hB := hB.1 hc
        refine lv_iconst (v := (-1 : Int32)) hx hb dX12_counts_34 (by decide) ?_
        exact xr_iret X hw hr hk hB dX12_counts_35
      · replace hB := hB.2 hc
        refine lv_aload_n hx hb dX12_counts_24 rfl (lv_at hl 0 rfl) ?_
        refine lv_iload_n hx hb dX12_counts_25 rfl (lv_at hl 1 rfl) ?_
        refine lv_iload_n hx hb dX12_counts_26 rfl (lv_at hl 2 rfl) ?_
        refine lv_iload_n hx hb dX12_counts_27 rfl (lv_at hl 3 rfl) ?_
        refine xr_i hw (xr_runV (As := [.int a1, .int a2, .int a3]) (rest := []) X hw 0 (xc_X12_whyOf l D cy q σ5 a1 a2 a3 hB _) xm_X12_whyOf xt_6_161 xt_6_163 xt_p_62 ⟨Nat.le_of_ble_eq_true rfl, Nat.le_of_ble_eq_true rfl⟩ xl_B_ShowRingsModel_at rfl rfl rfl rfl hl.1 (Nat.le_of_ble_eq_true rfl) dX12_counts_28 ⟨Nat.zero_le _, Nat.zero_le _⟩) (fun r8 σ7 H locs hB hw => ?_)
        refine lv_goto (tgt := 35) hx hb dX12_counts_31 (by decide) ?_
        exact xr_iret X hw hr hk hB dX12_counts_35
