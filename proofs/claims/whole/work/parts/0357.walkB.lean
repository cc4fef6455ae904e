set_option maxRecDepth 100000 in
set_option maxHeartbeats 4000000 in
theorem xc_X12_winnerOf (l : Launch) (D : va_G) (cy : Nat → ClassId) (q : Nat → Nat) (σ : xw_M) (a1 : Int32) (a2 : Int32) (a3 : Int32) {Z : Int32 → xw_M → Prop} (hU : xu_X12_winnerOf σ a1 a2 a3 Z) : xr_CI l yX12_winnerOf cX12_winnerOf 9 .int { frames := 6, cells := 0, slots := 0, locals := 147 } D cy xl_B q σ [.ref (q 0), .int a1, .int a2, .int a3] Z := by
  refine xr_CI.of RX12 rfl (by decide) (Nat.le_of_ble_eq_true rfl) (fun p e s m below meth c X hw hr hk ls hl => ?_)
  have hx := X.1
  have hb := X.2.1
  have hl : lv_has ls 9 [(0, .ref (q 0)), (1, .int a1), (2, .int a2), (3, .int a3)] := hl
  have hB := hU (fun (σ : xw_M) (v4 : Int32) (v5 : Int32) (v6 : Int32) => ∀ (H : Heap) (locs : List Loc) (ls : Array Slot), xr_H D cy xl_B q s σ H locs → lv_has ls 9 [(0, .ref (q 0)), (1, .int a1), (2, .int a2), (3, .int a3), (4, .int v4), (5, .int v5), (6, .int v6)] → W p l e ({ frames := 6, cells := 0, slots := 0, locals := 147 } : Room) s m ([.ref (q 0), .int a1, .int a2, .int a3] : List Value).toArray below meth c H locs 0 0 (MQ below (va_Qi Z (xr_po D cy xl_B q) (xw_A xl_B q s.heap.size)) ([.ref (q 0), .int a1, .int a2, .int a3] : List Value).toArray s 0 0 (xw_A xl_B q s.heap.size)) (F0 m 9 ls []))
    (fun (σ : xw_M) (v4 : Int32) (v5 : Int32) (v6 : Int32) (v7 : Int32) (v8 : Int32) => ∀ (H : Heap) (locs : List Loc) (ls : Array Slot), xr_H D cy xl_B q s σ H locs → lv_has ls 9 [(0, .ref (q 0)), (1, .int a1), (2, .int a2), (3, .int a3), (4, .int v4), (5, .int v5), (6, .int v6), (7, .int v7), (8, .int v8)] → W p l e ({ frames := 6, cells := 0, slots := 0, locals := 147 } : Room) s m ([.ref (q 0), .int a1, .int a2, .int a3] : List Value).toArray below meth c H locs 0 0 (MQ below (va_Qi Z (xr_po D cy xl_B q) (xw_A xl_B q s.heap.size)) ([.ref (q 0), .int a1, .int a2, .int a3] : List Value).toArray s 0 0 (xw_A xl_B q s.heap.size)) (F0 m 49 ls []))
    (by
    intro σ v4 v5 v6 hB H locs ls hw hl
    unfold xb_X12_winnerOf_9 at hB
    refine lv_iload hx hb dX12_winnerOf_9 (lv_at hl 6 rfl) ?_
    refine lv_aload_n hx hb dX12_winnerOf_11 rfl (lv_at hl 0 rfl) ?_
    refine xr_geti X hw (xf_X12_305 X) 0 xl_B_ShowRingsModel_at rfl dX12_winnerOf_12 ?_
    refine lv_icmp_ge (tgt := 168) hx hb dX12_winnerOf_15 (by decide) (fun hc => ?_) (fun hc => ?_)
    · replace hB := hB.1 hc
      refine lv_iload hx hb dX12_winnerOf_168 (lv_at hl 4 rfl) ?_
      exact xr_iret X hw hr hk hB dX12_winnerOf_170
    · replace hB := hB.2 hc
      refine lv_aload_n hx hb dX12_winnerOf_18 rfl (lv_at hl 0 rfl) ?_
      refine xr_getr X hw (xf_X12_110 X) 0 xl_B_ShowRingsModel_at rfl dX12_winnerOf_19 ?_
      refine lv_iload hx hb dX12_winnerOf_22 (lv_at hl 6 rfl) ?_
      refine xr_iald X hw 31 xl_B_ShowRingsModel_breedOf_at hB.1 dX12_winnerOf_24 ?_
      replace hB := hB.2
      refine lv_iload_n hx hb dX12_winnerOf_25 rfl (lv_at hl 2 rfl) ?_
      refine lv_icmp_ne (tgt := 162) hx hb dX12_winnerOf_26 (by decide) (fun hc => ?_) (fun hc => ?_)
      · replace hB := hB.1 hc
        refine lv_iinc (v := (v6 + (1 : Int32))) (lv' := [(6, .int (v6 + (1 : Int32))), (0, .ref (q 0)), (1, .int a1), (2, .int a2), (3, .int a3), (4, .int v4), (5, .int v5)]) hx hb dX12_winnerOf_162 hl (k := 6) rfl rfl (by decide) rfl (fun ls hl => ?_)
        refine lv_goto (tgt := 9) hx hb dX12_winnerOf_165 (by decide) ?_
        exact hB _ _ _ hw (lv_sub hl [1, 2, 3, 4, 5, 6, 0] rfl)
      · replace hB := hB.2 hc
        refine lv_aload_n hx hb dX12_winnerOf_29 rfl (lv_at hl 0 rfl) ?_
        refine lv_iload_n hx hb dX12_winnerOf_30 rfl (lv_at hl 1 rfl) ?_
        refine lv_iload hx hb dX12_winnerOf_31 (lv_at hl 6 rfl) ?_
        refine lv_iload_n hx hb dX12_winnerOf_33 rfl (lv_at hl 3 rfl) ?_
        refine xr_i hw (xr_runV (As := [.int a1, .int v6, .int a3]) (rest := []) X hw 0 (xc_X12_whyOf l D cy q σ a1 v6 a3 hB _) xm_X12_whyOf xt_6_161 xt_6_163 xt_p_62 ⟨Nat.le_of_ble_eq_true rfl, Nat.le_of_ble_eq_true rfl⟩ xl_B_ShowRingsModel_at rfl rfl rfl rfl hl.1 (Nat.le_of_ble_eq_true rfl) dX12_winnerOf_34 ⟨Nat.zero_le _, Nat.zero_le _⟩) (fun r2 σ1 H locs hB hw => ?_)
        refine lv_if_eq (tgt := 43) hx hb dX12_winnerOf_37 (by decide) (fun hc => ?_) (fun hc => ?_)
        · replace hB := hB.1 hc
          refine lv_iconst (v := (-1 : Int32)) hx hb dX12_winnerOf_43 (by decide) ?_
          refine lv_istore (lv' := [(7, .int (-1 : Int32)), (0, .ref (q 0)), (1, .int a1), (2, .int a2), (3, .int a3), (4, .int v4), (5, .int v5), (6, .int v6)]) hx hb dX12_winnerOf_44 hl (by decide) rfl (fun ls hl => ?_)
          refine lv_iconst (v := (0 : Int32)) hx hb dX12_winnerOf_46 (by decide) ?_
          refine lv_istore (lv' := [(8, .int (0 : Int32)), (7, .int (-1 : Int32)), (0, .ref (q 0)), (1, .int a1), (2, .int a2), (3, .int a3), (4, .int v4), (5, .int v5), (6, .int v6)]) hx hb dX12_winnerOf_47 hl (by decide) rfl (fun ls hl => ?_)
          exact hB _ _ _ hw (lv_sub hl [2, 3, 4, 5, 6, 7, 8, 1, 0] rfl)
        · replace hB := hB.2 hc
          refine lv_goto (tgt := 162) hx hb dX12_winnerOf_40 (by decide) ?_
          refine lv_iinc (v := (v6 + (1 : Int32))) (lv' := [(6, .int (v6 + (1 : Int32))), (0, .ref (q 0)), (1, .int a1), (2, .int a2), (3, .int a3), (4, .int v4), (5, .int v5)]) hx hb dX12_winnerOf_162 hl (k := 6) rfl rfl (by decide) rfl (fun ls hl => ?_)
          refine lv_goto (tgt := 9) hx hb dX12_winnerOf_165 (by decide) ?_
          exact hB _ _ _ hw (lv_sub hl [1, 2, 3, 4, 5, 6, 0] rfl))
    (by
    intro σ v4 v5 v6 v7 v8 hB H locs ls hw hl
    unfold xb_X12_winnerOf_49 at hB
    refine lv_iload hx hb dX12_winnerOf_49 (lv_at hl 8 rfl) ?_
    refine lv_iload_n hx hb dX12_winnerOf_51 rfl (lv_at hl 3 rfl) ?_
    refine lv_icmp_ge (tgt := 98) hx hb dX12_winnerOf_52 (by decide) (fun hc => ?_) (fun hc => ?_)
    · replace hB := hB.1 hc
      refine lv_iload hx hb dX12_winnerOf_98 (lv_at hl 7 rfl) ?_
      refine lv_iconst (v := (-1 : Int32)) hx hb dX12_winnerOf_100 (by decide) ?_
      refine lv_icmp_eq (tgt := 162) hx hb dX12_winnerOf_101 (by decide) (fun hc => ?_) (fun hc => ?_)
      · replace hB := hB.1 hc
        refine lv_iinc (v := (v6 + (1 : Int32))) (lv' := [(6, .int (v6 + (1 : Int32))), (0, .ref (q 0)), (1, .int a1), (2, .int a2), (3, .int a3), (4, .int v4), (5, .int v5), (7, .int v7), (8, .int v8)]) hx hb dX12_winnerOf_162 hl (k := 6) rfl rfl (by decide) rfl (fun ls hl => ?_)
        refine lv_goto (tgt := 9) hx hb dX12_winnerOf_165 (by decide) ?_
        exact hB _ _ _ hw (lv_sub hl [1, 2, 3, 4, 5, 6, 0] rfl)
      · replace hB := hB.2 hc
        refine lv_iload hx hb dX12_winnerOf_104 (lv_at hl 4 rfl) ?_
        refine lv_iconst (v := (-1 : Int32)) hx hb dX12_winnerOf_106 (by decide) ?_
        refine lv_icmp_eq (tgt := 154) hx hb dX12_winnerOf_107 (by decide) (fun hc => ?_) (fun hc => ?_)
        · replace hB := hB.1 hc
          refine lv_iload hx hb dX12_winnerOf_154 (lv_at hl 6 rfl) ?_
          refine lv_istore (lv' := [(4, .int v6), (0, .ref (q 0)), (1, .int a1), (2, .int a2), (3, .int a3), (5, .int v5), (6, .int v6), (7, .int v7), (8, .int v8)]) hx hb dX12_winnerOf_156 hl (by decide) rfl (fun ls hl => ?_)
          refine lv_iload hx hb dX12_winnerOf_158 (lv_at hl 7 rfl) ?_
          refine lv_istore (lv' := [(5, .int v7), (4, .int v6), (0, .ref (q 0)), (1, .int a1), (2, .int a2), (3, .int a3), (6, .int v6), (7, .int v7), (8, .int v8)]) hx hb dX12_winnerOf_160 hl (by decide) rfl (fun ls hl => ?_)
          refine lv_iinc (v := (v6 + (1 : Int32))) (lv' := [(6, .int (v6 + (1 : Int32))), (5, .int v7), (4, .int v6), (0, .ref (q 0)), (1, .int a1), (2, .int a2), (3, .int a3), (7, .int v7), (8, .int v8)]) hx hb dX12_winnerOf_162 hl (k := 6) rfl rfl (by decide) rfl (fun ls hl => ?_)
          refine lv_goto (tgt := 9) hx hb dX12_winnerOf_165 (by decide) ?_
          exact hB _ _ _ hw (lv_sub hl [3, 4, 5, 6, 2, 1, 0] rfl)
        · replace hB := hB.2 hc
          refine lv_aload_n hx hb dX12_winnerOf_110 rfl (lv_at hl 0 rfl) ?_
          refine xr_getr X hw (xf_X12_140 X) 0 xl_B_ShowRingsModel_at rfl dX12_winnerOf_111 ?_
          refine lv_iload hx hb dX12_winnerOf_114 (lv_at hl 7 rfl) ?_
          refine xr_iald X hw 41 xl_B_ShowRingsModel_factV_at hB.1 dX12_winnerOf_116 ?_
          replace hB := hB.2
          refine lv_aload_n hx hb dX12_winnerOf_117 rfl (lv_at hl 0 rfl) ?_
          refine xr_getr X hw (xf_X12_140 X) 0 xl_B_ShowRingsModel_at rfl dX12_winnerOf_118 ?_
          refine lv_iload hx hb dX12_winnerOf_121 (lv_at hl 5 rfl) ?_
          refine xr_iald X hw 41 xl_B_ShowRingsModel_factV_at hB.1 dX12_winnerOf_123 ?_
          replace hB := hB.2
          refine lv_icmp_gt (tgt := 162) hx hb dX12_winnerOf_124 (by decide) (fun hc => ?_) (fun hc => ?_)
          · replace hB := hB.1 hc
            refine lv_iinc (v := (v6 + (1 : Int32))) (lv' := [(6, .int (v6 + (1 : Int32))), (0, .ref (q 0)), (1, .int a1), (2, .int a2), (3, .int a3), (4, .int v4), (5, .int v5), (7, .int v7), (8, .int v8)]) hx hb dX12_winnerOf_162 hl (k := 6) rfl rfl (by decide) rfl (fun ls hl => ?_)
            refine lv_goto (tgt := 9) hx hb dX12_winnerOf_165 (by decide) ?_
            exact hB _ _ _ hw (lv_sub hl [1, 2, 3, 4, 5, 6, 0] rfl)
          · replace hB := hB.2 hc
            refine lv_aload_n hx hb dX12_winnerOf_127 rfl (lv_at hl 0 rfl) ?_
            refine xr_getr X hw (xf_X12_140 X) 0 xl_B_ShowRingsModel_at rfl dX12_winnerOf_128 ?_
            refine lv_iload hx hb dX12_winnerOf_131 (lv_at hl 7 rfl) ?_
            refine xr_iald X hw 41 xl_B_ShowRingsModel_factV_at hB.1 dX12_winnerOf_133 ?_
            replace hB := hB.2
            refine lv_aload_n hx hb dX12_winnerOf_134 rfl (lv_at hl 0 rfl) ?_
            refine xr_getr X hw (xf_X12_140 X) 0 xl_B_ShowRingsModel_at rfl dX12_winnerOf_135 ?_
            refine lv_iload hx hb dX12_winnerOf_138 (lv_at hl 5 rfl) ?_
            refine xr_iald X hw 41 xl_B_ShowRingsModel_factV_at hB.1 dX12_winnerOf_140 ?_
            replace hB := hB.2
            refine lv_icmp_ne (tgt := 154) hx hb dX12_winnerOf_141 (by decide) (fun hc => ?_) (fun hc => ?_)
            · replace hB := hB.1 hc
              refine lv_iload hx hb dX12_winnerOf_154 (lv_at hl 6 rfl) ?_
              refine lv_istore (lv' := [(4, .int v6), (0, .ref (q 0)), (1, .int a1), (2, .int a2), (3, .int a3), (5, .int v5), (6, .int v6), (7, .int v7), (8, .int v8)]) hx hb dX12_winnerOf_156 hl (by decide) rfl (fun ls hl => ?_)
              refine lv_iload hx hb dX12_winnerOf_158 (lv_at hl 7 rfl) ?_
              refine lv_istore (lv' := [(5, .int v7), (4, .int v6), (0, .ref (q 0)), (1, .int a1), (2, .int a2), (3, .int a3), (6, .int v6), (7, .int v7), (8, .int v8)]) hx hb dX12_winnerOf_160 hl (by decide) rfl (fun ls hl => ?_)
              refine lv_iinc (v := (v6 + (1 : Int32))) (lv' := [(6, .int (v6 + (1 : Int32))), (5, .int v7), (4, .int v6), (0, .ref (q 0)), (1, .int a1), (2, .int a2), (3, .int a3), (7, .int v7), (8, .int v8)]) hx hb dX12_winnerOf_162 hl (k := 6) rfl rfl (by decide) rfl (fun ls hl => ?_)
              refine lv_goto (tgt := 9) hx hb dX12_winnerOf_165 (by decide) ?_
              exact hB _ _ _ hw (lv_sub hl [3, 4, 5, 6, 2, 1, 0] rfl)
            · replace hB := hB.2 hc
              refine lv_iload hx hb dX12_winnerOf_144 (lv_at hl 7 rfl) ?_
              refine lv_iload hx hb dX12_winnerOf_146 (lv_at hl 5 rfl) ?_
              refine lv_icmp_le (tgt := 154) hx hb dX12_winnerOf_148 (by decide) (fun hc => ?_) (fun hc => ?_)
              · replace hB := hB.1 hc
                refine lv_iload hx hb dX12_winnerOf_154 (lv_at hl 6 rfl) ?_
                refine lv_istore (lv' := [(4, .int v6), (0, .ref (q 0)), (1, .int a1), (2, .int a2), (3, .int a3), (5, .int v5), (6, .int v6), (7, .int v7), (8, .int v8)]) hx hb dX12_winnerOf_156 hl (by decide) rfl (fun ls hl => ?_)
                refine lv_iload hx hb dX12_winnerOf_158 (lv_at hl 7 rfl) ?_
                refine lv_istore (lv' := [(5, .int v7), (4, .int v6), (0, .ref (q 0)), (1, .int a1), (2, .int a2), (3, .int a3), (6, .int v6), (7, .int v7), (8, .int v8)]) hx hb dX12_winnerOf_160 hl (by decide) rfl (fun ls hl => ?_)
                refine lv_iinc (v := (v6 + (1 : Int32))) (lv' := [(6, .int (v6 + (1 : Int32))), (5, .int v7), (4, .int v6), (0, .ref (q 0)), (1, .int a1), (2, .int a2), (3, .int a3), (7, .int v7), (8, .int v8)]) hx hb dX12_winnerOf_162 hl (k := 6) rfl rfl (by decide) rfl (fun ls hl => ?_)
                refine lv_goto (tgt := 9) hx hb dX12_winnerOf_165 (by decide) ?_
                exact hB _ _ _ hw (lv_sub hl [3, 4, 5, 6, 2, 1, 0] rfl)
              · replace hB := hB.2 hc
                refine lv_goto (tgt := 162) hx hb dX12_winnerOf_151 (by decide) ?_
                refine lv_iinc (v := (v6 + (1 : Int32))) (lv' := [(6, .int (v6 + (1 : Int32))), (0, .ref (q 0)), (1, .int a1), (2, .int a2), (3, .int a3), (4, .int v4), (5, .int v5), (7, .int v7), (8, .int v8)]) hx hb dX12_winnerOf_162 hl (k := 6) rfl rfl (by decide) rfl (fun ls hl => ?_)
                refine lv_goto (tgt := 9) hx hb dX12_winnerOf_165 (by decide) ?_
                exact hB _ _ _ hw (lv_sub hl [1, 2, 3, 4, 5, 6, 0] rfl)
    · replace hB := hB.2 hc
      refine lv_aload_n hx hb dX12_winnerOf_55 rfl (lv_at hl 0 rfl) ?_
      refine xr_getr X hw (xf_X12_131 X) 0 xl_B_ShowRingsModel_at rfl dX12_winnerOf_56 ?_
      refine lv_iload hx hb dX12_winnerOf_59 (lv_at hl 8 rfl) ?_
      refine xr_iald X hw 38 xl_B_ShowRingsModel_factSort_at hB.1 dX12_winnerOf_61 ?_
      replace hB := hB.2
      refine lv_if_ne (tgt := 92) hx hb dX12_winnerOf_62 (by decide) (fun hc => ?_) (fun hc => ?_)
      · replace hB := hB.1 hc
        refine lv_iinc (v := (v8 + (1 : Int32))) (lv' := [(8, .int (v8 + (1 : Int32))), (0, .ref (q 0)), (1, .int a1), (2, .int a2), (3, .int a3), (4, .int v4), (5, .int v5), (6, .int v6), (7, .int v7)]) hx hb dX12_winnerOf_92 hl (k := 8) rfl rfl (by decide) rfl (fun ls hl => ?_)
        refine lv_goto (tgt := 49) hx hb dX12_winnerOf_95 (by decide) ?_
        exact hB _ _ _ hw (lv_sub hl [1, 2, 3, 4, 5, 6, 7, 8, 0] rfl)
      · replace hB := hB.2 hc
        refine lv_aload_n hx hb dX12_winnerOf_65 rfl (lv_at hl 0 rfl) ?_
        refine xr_getr X hw (xf_X12_134 X) 0 xl_B_ShowRingsModel_at rfl dX12_winnerOf_66 ?_
        refine lv_iload hx hb dX12_winnerOf_69 (lv_at hl 8 rfl) ?_
        refine xr_iald X hw 39 xl_B_ShowRingsModel_factIn_at hB.1 dX12_winnerOf_71 ?_
        replace hB := hB.2
        refine lv_iload_n hx hb dX12_winnerOf_72 rfl (lv_at hl 1 rfl) ?_
        refine lv_icmp_ne (tgt := 92) hx hb dX12_winnerOf_73 (by decide) (fun hc => ?_) (fun hc => ?_)
        · replace hB := hB.1 hc
          refine lv_iinc (v := (v8 + (1 : Int32))) (lv' := [(8, .int (v8 + (1 : Int32))), (0, .ref (q 0)), (1, .int a1), (2, .int a2), (3, .int a3), (4, .int v4), (5, .int v5), (6, .int v6), (7, .int v7)]) hx hb dX12_winnerOf_92 hl (k := 8) rfl rfl (by decide) rfl (fun ls hl => ?_)
          refine lv_goto (tgt := 49) hx hb dX12_winnerOf_95 (by decide) ?_
          exact hB _ _ _ hw (lv_sub hl [1, 2, 3, 4, 5, 6, 7, 8, 0] rfl)
        · replace hB := hB.2 hc
          refine lv_aload_n hx hb dX12_winnerOf_76 rfl (lv_at hl 0 rfl) ?_
          refine xr_getr X hw (xf_X12_137 X) 0 xl_B_ShowRingsModel_at rfl dX12_winnerOf_77 ?_
          refine lv_iload hx hb dX12_winnerOf_80 (lv_at hl 8 rfl) ?_
          refine xr_iald X hw 40 xl_B_ShowRingsModel_factDog_at hB.1 dX12_winnerOf_82 ?_
          replace hB := hB.2
          refine lv_iload hx hb dX12_winnerOf_83 (lv_at hl 6 rfl) ?_
          refine lv_icmp_ne (tgt := 92) hx hb dX12_winnerOf_85 (by decide) (fun hc => ?_) (fun hc => ?_)
          · replace hB := hB.1 hc
            refine lv_iinc (v := (v8 + (1 : Int32))) (lv' := [(8, .int (v8 + (1 : Int32))), (0, .ref (q 0)), (1, .int a1), (2, .int a2), (3, .int a3), (4, .int v4), (5, .int v5), (6, .int v6), (7, .int v7)]) hx hb dX12_winnerOf_92 hl (k := 8) rfl rfl (by decide) rfl (fun ls hl => ?_)
            refine lv_goto (tgt := 49) hx hb dX12_winnerOf_95 (by decide) ?_
            exact hB _ _ _ hw (lv_sub hl [1, 2, 3, 4, 5, 6, 7, 8, 0] rfl)
          · replace hB := hB.2 hc
            refine lv_iload hx hb dX12_winnerOf_88 (lv_at hl 8 rfl) ?_
            refine lv_istore (lv' := [(7, .int v8), (0, .ref (q 0)), (1, .int a1), (2, .int a2), (3, .int a3), (4, .int v4), (5, .int v5), (6, .int v6), (8, .int v8)]) hx hb dX12_winnerOf_90 hl (by decide) rfl (fun ls hl => ?_)
            refine lv_iinc (v := (v8 + (1 : Int32))) (lv' := [(8, .int (v8 + (1 : Int32))), (7, .int v8), (0, .ref (q 0)), (1, .int a1), (2, .int a2), (3, .int a3), (4, .int v4), (5, .int v5), (6, .int v6)]) hx hb dX12_winnerOf_92 hl (k := 8) rfl rfl (by decide) rfl (fun ls hl => ?_)
            refine lv_goto (tgt := 49) hx hb dX12_winnerOf_95 (by decide) ?_
            exact hB _ _ _ hw (lv_sub hl [2, 3, 4, 5, 6, 7, 8, 1, 0] rfl))
  unfold xb_X12_winnerOf_e at hB
  refine lv_iconst (v := (-1 : Int32)) hx hb dX12_winnerOf_0 (by decide) ?_
  refine lv_istore (lv' := [(4, .int (-1 : Int32)), (0, .ref (q 0)), (1, .int a1), (2, .int a2), (3, .int a3)]) hx hb dX12_winnerOf_1 hl (by decide) rfl (fun ls hl => ?_)
  refine lv_iconst (v := (0 : Int32)) hx hb dX12_winnerOf_3 (by decide) ?_
  refine lv_istore (lv' := [(5, .int (0 : Int32)), (4, .int (-1 : Int32)), (0, .ref (q 0)), (1, .int a1), (2, .int a2), (3, .int a3)]) hx hb dX12_winnerOf_4 hl (by decide) rfl (fun ls hl => ?_)
  refine lv_iconst (v := (0 : Int32)) hx hb dX12_winnerOf_6 (by decide) ?_
  refine lv_istore (lv' := [(6, .int (0 : Int32)), (5, .int (0 : Int32)), (4, .int (-1 : Int32)), (0, .ref (q 0)), (1, .int a1), (2, .int a2), (3, .int a3)]) hx hb dX12_winnerOf_7 hl (by decide) rfl (fun ls hl => ?_)
  exact hB _ _ _ hw (lv_sub hl [3, 4, 5, 6, 2, 1, 0] rfl)
theorem xm_X12_winnerOf : xr_MW yX12_winnerOf cX12_winnerOf 9 (some .int) 3 := ⟨xt_6_180, xt_1_13, by decide, by decide, by decide +kernel⟩
set_option maxRecDepth 100000 in
set_option maxHeartbeats 4000000 in
theorem xc_X12_winner (l : Launch) (D : va_G) (cy : Nat → ClassId) (q : Nat → Nat) (σ : xw_M) (a1 : Int32) (a2 : Int32) (a3 : Int32) {Z : Int32 → xw_M → Prop} (hU : xu_X12_winner σ a1 a2 a3 Z) : xr_CI l yX12_winner cX12_winner 4 .int { frames := 7, cells := 0, slots := 0, locals := 175 } D cy xl_B q σ [.ref (q 0), .int a1, .int a2, .int a3] Z := by
  refine xr_CI.of RX12 rfl (by decide) (Nat.le_of_ble_eq_true rfl) (fun p e s m below meth c X hw hr hk ls hl => ?_)
  have hx := X.1
  have hb := X.2.1
  have hl : lv_has ls 4 [(0, .ref (q 0)), (1, .int a1), (2, .int a2), (3, .int a3)] := hl
  unfold xu_X12_winner at hU
  have hB := hU
  refine lv_aload_n hx hb dX12_winner_0 rfl (lv_at hl 0 rfl) ?_
  refine lv_iload_n hx hb dX12_winner_1 rfl (lv_at hl 1 rfl) ?_
  refine xr_i hw (xr_runV (As := [.int a1]) (rest := []) X hw 0 (xc_X12_isShow l D cy q σ a1 hB _) xm_X12_isShow xt_6_46 xt_6_48 xt_p_44 ⟨Nat.le_of_ble_eq_true rfl, Nat.le_of_ble_eq_true rfl⟩ xl_B_ShowRingsModel_at rfl rfl rfl rfl hl.1 (Nat.le_of_ble_eq_true rfl) dX12_winner_2 ⟨Nat.zero_le _, Nat.zero_le _⟩) (fun r2 σ1 H locs hB hw => ?_)
  refine lv_if_eq (tgt := 34) hx hb dX12_winner_5 (by decide) (fun hc => ?_) (fun hc => ?_)
  · replace hB := hB.1 hc
    refine lv_iconst (v := (-1 : Int32)) hx hb dX12_winner_34 (by decide) ?_
    exact xr_iret X hw hr hk hB dX12_winner_35
  · replace hB := hB.2 hc
    refine lv_aload_n hx hb dX12_winner_8 rfl (lv_at hl 0 rfl) ?_
    refine lv_iload_n hx hb dX12_winner_9 rfl (lv_at hl 2 rfl) ?_
    refine xr_i hw (xr_runV (As := [.int a2]) (rest := []) X hw 0 (xc_X12_isBreed l D cy q σ1 a2 hB _) xm_X12_isBreed xt_6_23 xt_6_25 xt_p_43 ⟨Nat.le_of_ble_eq_true rfl, Nat.le_of_ble_eq_true rfl⟩ xl_B_ShowRingsModel_at rfl rfl rfl rfl hl.1 (Nat.le_of_ble_eq_true rfl) dX12_winner_10 ⟨Nat.zero_le _, Nat.zero_le _⟩) (fun r4 σ3 H locs hB hw => ?_)
    refine lv_if_eq (tgt := 34) hx hb dX12_winner_13 (by decide) (fun hc => ?_) (fun hc => ?_)
    · replace hB := hB.1 hc
      refine lv_iconst (v := (-1 : Int32)) hx hb dX12_winner_34 (by decide) ?_
      exact xr_iret X hw hr hk hB dX12_winner_35
    · replace hB := hB.2 hc
      refine lv_aload_n hx hb dX12_winner_16 rfl (lv_at hl 0 rfl) ?_
      refine lv_iload_n hx hb dX12_winner_17 rfl (lv_at hl 3 rfl) ?_
      refine xr_i hw (xr_runV (As := [.int a3]) (rest := []) X hw 0 (xc_X12_isKnown l D cy q σ3 a3 hB _) xm_X12_isKnown xt_6_66 xt_6_68 xt_p_47 ⟨Nat.le_of_ble_eq_true rfl, Nat.le_of_ble_eq_true rfl⟩ xl_B_ShowRingsModel_at rfl rfl rfl rfl hl.1 (Nat.le_of_ble_eq_true rfl) dX12_winner_18 ⟨Nat.zero_le _, Nat.zero_le _⟩) (fun r6 σ5 H locs hB hw => ?_)
      refine lv_if_eq (tgt := 34) hx hb dX12_winner_21 (by decide) (fun hc => ?_) (fun hc => ?_)
      · replace hB := hB.1 hc
        refine lv_iconst (v := (-1 : Int32)) hx hb dX12_winner_34 (by decide) ?_
        exact xr_iret X hw hr hk hB dX12_winner_35
      · replace hB := hB.2 hc
        refine lv_aload_n hx hb dX12_winner_24 rfl (lv_at hl 0 rfl) ?_
        refine lv_iload_n hx hb dX12_winner_25 rfl (lv_at hl 1 rfl) ?_
        refine lv_iload_n hx hb dX12_winner_26 rfl (lv_at hl 2 rfl) ?_
        refine lv_iload_n hx hb dX12_winner_27 rfl (lv_at hl 3 rfl) ?_
        refine xr_i hw (xr_runV (As := [.int a1, .int a2, .int a3]) (rest := []) X hw 0 (xc_X12_winnerOf l D cy q σ5 a1 a2 a3 hB _) xm_X12_winnerOf xt_6_177 xt_6_179 xt_p_65 ⟨Nat.le_of_ble_eq_true rfl, Nat.le_of_ble_eq_true rfl⟩ xl_B_ShowRingsModel_at rfl rfl rfl rfl hl.1 (Nat.le_of_ble_eq_true rfl) dX12_winner_28 ⟨Nat.zero_le _, Nat.zero_le _⟩) (fun r8 σ7 H locs hB hw => ?_)
        refine lv_goto (tgt := 35) hx hb dX12_winner_31 (by decide) ?_
        exact xr_iret X hw hr hk hB dX12_winner_35
set_option maxRecDepth 100000 in
set_option maxHeartbeats 4000000 in
theorem xc_X12_pointsOf (l : Launch) (D : va_G) (cy : Nat → ClassId) (q : Nat → Nat) (σ : xw_M) (a1 : Int32) (a2 : Int32) (a3 : Int32) {Z : Int32 → xw_M → Prop} (hU : xu_X12_pointsOf σ a1 a2 a3 Z) : xr_CI l yX12_pointsOf cX12_pointsOf 7 .int { frames := 7, cells := 0, slots := 0, locals := 175 } D cy xl_B q σ [.ref (q 0), .int a1, .int a2, .int a3] Z := by
  refine xr_CI.of RX12 rfl (by decide) (Nat.le_of_ble_eq_true rfl) (fun p e s m below meth c X hw hr hk ls hl => ?_)
  have hx := X.1
  have hb := X.2.1
  have hl : lv_has ls 7 [(0, .ref (q 0)), (1, .int a1), (2, .int a2), (3, .int a3)] := hl
  have hB := hU (fun (σ : xw_M) (v4 : Int32) (v5 : Int32) => ∀ (H : Heap) (locs : List Loc) (ls : Array Slot), xr_H D cy xl_B q s σ H locs → lv_has ls 7 [(0, .ref (q 0)), (1, .int a1), (2, .int a2), (3, .int a3), (4, .int v4), (5, .int v5)] → W p l e ({ frames := 7, cells := 0, slots := 0, locals := 175 } : Room) s m ([.ref (q 0), .int a1, .int a2, .int a3] : List Value).toArray below meth c H locs 0 0 (MQ below (va_Qi Z (xr_po D cy xl_B q) (xw_A xl_B q s.heap.size)) ([.ref (q 0), .int a1, .int a2, .int a3] : List Value).toArray s 0 0 (xw_A xl_B q s.heap.size)) (F0 m 24 ls []))
    (by
    intro σ v4 v5 hB H locs ls hw hl
    unfold xb_X12_pointsOf_24 at hB
    refine lv_iload hx hb dX12_pointsOf_24 (lv_at hl 5 rfl) ?_
    refine lv_aload_n hx hb dX12_pointsOf_26 rfl (lv_at hl 0 rfl) ?_
    refine xr_geti X hw (xf_X12_305 X) 0 xl_B_ShowRingsModel_at rfl dX12_pointsOf_27 ?_
    refine lv_icmp_ge (tgt := 75) hx hb dX12_pointsOf_30 (by decide) (fun hc => ?_) (fun hc => ?_)
    · replace hB := hB.1 hc
      refine lv_aload_n hx hb dX12_pointsOf_75 rfl (lv_at hl 0 rfl) ?_
      refine lv_iload_n hx hb dX12_pointsOf_76 rfl (lv_at hl 1 rfl) ?_
      refine lv_iload_n hx hb dX12_pointsOf_77 rfl (lv_at hl 2 rfl) ?_
      refine xr_i hw (xr_runV (As := [.int a1, .int a2]) (rest := []) X hw 0 (xc_X12_classOf l D cy q σ a1 a2 hB _) xm_X12_classOf xt_6_94 xt_6_96 xt_p_52 ⟨Nat.le_of_ble_eq_true rfl, Nat.le_of_ble_eq_true rfl⟩ xl_B_ShowRingsModel_at rfl rfl rfl rfl hl.1 (Nat.le_of_ble_eq_true rfl) dX12_pointsOf_78 ⟨Nat.zero_le _, Nat.zero_le _⟩) (fun r4 σ3 H locs hB hw => ?_)
      refine lv_istore (lv' := [(5, .int r4), (0, .ref (q 0)), (1, .int a1), (2, .int a2), (3, .int a3), (4, .int v4)]) hx hb dX12_pointsOf_81 hl (by decide) rfl (fun ls hl => ?_)
      refine lv_aload_n hx hb dX12_pointsOf_83 rfl (lv_at hl 1 rfl) ?_
      refine lv_iload_n hx hb dX12_pointsOf_84 rfl (lv_at hl 2 rfl) ?_
      refine lv_iload_n hx hb dX12_pointsOf_85 rfl (lv_at hl 3 rfl) ?_
      refine xr_v hw (xr_runV (As := [.int a1, .int a2]) (rest := []) X hw 0 (xc_X12_asks l D cy q σ3 a1 a2 hB _) xm_X12_asks xt_6_98 xt_6_100 xt_p_53 ⟨Nat.le_of_ble_eq_true rfl, Nat.le_of_ble_eq_true rfl⟩ xl_B_ShowRingsModel_at rfl rfl rfl rfl hl.1 (Nat.le_of_ble_eq_true rfl) dX12_pointsOf_86 ⟨Nat.zero_le _, Nat.zero_le _⟩) (fun σ5 H locs hB hw => ?_)
      refine lv_aload_n hx hb dX12_pointsOf_89 rfl (lv_at hl 1 rfl) ?_
      refine xr_getr X hw (xf_X12_143 X) 0 xl_B_ShowRingsModel_at rfl dX12_pointsOf_90 ?_
      refine lv_iconst (v := (4 : Int32)) hx hb dX12_pointsOf_93 (by decide) ?_
      refine lv_iload hx hb dX12_pointsOf_94 (lv_at hl 0 rfl) ?_
      refine xr_iast X hw 42 xl_B_ShowRingsModel_variables_at hB.1 dX12_pointsOf_96 hB.2 (fun σ6 H locs hB hw => ?_)
      refine lv_aload_n hx hb dX12_pointsOf_97 rfl (lv_at hl 1 rfl) ?_
      refine xr_getr X hw (xf_X12_143 X) 0 xl_B_ShowRingsModel_at rfl dX12_pointsOf_98 ?_
      refine lv_bipush (v := (8 : Int32)) hx hb dX12_pointsOf_101 (by decide) ?_
      refine lv_iload hx hb dX12_pointsOf_103 (lv_at hl 5 rfl) ?_
      refine xr_iast X hw 42 xl_B_ShowRingsModel_variables_at hB.1 dX12_pointsOf_105 hB.2 (fun σ7 H locs hB hw => ?_)
      refine lv_aload_n hx hb dX12_pointsOf_106 rfl (lv_at hl 1 rfl) ?_
      refine lv_iconst (v := (2 : Int32)) hx hb dX12_pointsOf_107 (by decide) ?_
      refine xr_i hw (xr_runV (As := [.int (2 : Int32)]) (rest := []) X hw 0 (xc_X12_ruleOf l D cy q σ7 (2 : Int32) hB _) xm_X12_ruleOf xt_6_102 xt_6_104 xt_p_54 ⟨Nat.le_of_ble_eq_true rfl, Nat.le_of_ble_eq_true rfl⟩ xl_B_ShowRingsModel_at rfl rfl rfl rfl hl.1 (Nat.le_of_ble_eq_true rfl) dX12_pointsOf_108 ⟨Nat.zero_le _, Nat.zero_le _⟩) (fun r9 σ8 H locs hB hw => ?_)
      refine lv_istore (lv' := [(6, .int r9), (5, .int r4), (0, .ref (q 0)), (1, .int a1), (2, .int a2), (3, .int a3), (4, .int v4)]) hx hb dX12_pointsOf_111 hl (by decide) rfl (fun ls hl => ?_)
      refine lv_iload hx hb dX12_pointsOf_113 (lv_at hl 0 rfl) ?_
      refine lv_iconst (v := (-1 : Int32)) hx hb dX12_pointsOf_115 (by decide) ?_
      refine lv_icmp_ne (tgt := 123) hx hb dX12_pointsOf_116 (by decide) (fun hc => ?_) (fun hc => ?_)
      · replace hB := hB.1 hc
        refine lv_aload_n hx hb dX12_pointsOf_123 rfl (lv_at hl 2 rfl) ?_
        refine lv_aload_n hx hb dX12_pointsOf_124 rfl (lv_at hl 2 rfl) ?_
        refine xr_getr X hw (xf_X12_52 X) 0 xl_B_ShowRingsModel_at rfl dX12_pointsOf_125 ?_
        refine lv_bipush (v := (16 : Int32)) hx hb dX12_pointsOf_128 (by decide) ?_
        refine lv_aload_n hx hb dX12_pointsOf_130 rfl (lv_at hl 2 rfl) ?_
        refine xr_geti X hw (xf_X12_266 X) 0 xl_B_ShowRingsModel_at rfl dX12_pointsOf_131 ?_
        refine lv_imul hx hb dX12_pointsOf_134 ?_
        refine lv_iload hx hb dX12_pointsOf_135 (lv_at hl 0 rfl) ?_
        refine lv_iadd hx hb dX12_pointsOf_137 ?_
        refine xr_iald X hw 12 xl_B_ShowRingsModel_ruleFrom_at hB.1 dX12_pointsOf_138 ?_
        replace hB := hB.2
        refine lv_aload_n hx hb dX12_pointsOf_139 rfl (lv_at hl 2 rfl) ?_
        refine xr_getr X hw (xf_X12_55 X) 0 xl_B_ShowRingsModel_at rfl dX12_pointsOf_140 ?_
        refine lv_bipush (v := (16 : Int32)) hx hb dX12_pointsOf_143 (by decide) ?_
        refine lv_aload_n hx hb dX12_pointsOf_145 rfl (lv_at hl 2 rfl) ?_
        refine xr_geti X hw (xf_X12_266 X) 0 xl_B_ShowRingsModel_at rfl dX12_pointsOf_146 ?_
        refine lv_imul hx hb dX12_pointsOf_149 ?_
        refine lv_iload hx hb dX12_pointsOf_150 (lv_at hl 0 rfl) ?_
        refine lv_iadd hx hb dX12_pointsOf_152 ?_
        refine xr_iald X hw 13 xl_B_ShowRingsModel_ruleTo_at hB.1 dX12_pointsOf_153 ?_
        replace hB := hB.2
        refine xr_i hw (xr_runV (As := [.int (σ8.1 12 (Int32.toNatClampNeg (((16 : Int32) * (σ8.1 0 18)) + r9))), .int (σ8.1 13 (Int32.toNatClampNeg (((16 : Int32) * (σ8.1 0 18)) + r9)))]) (rest := []) X hw 0 (xc_X12_value l D cy q σ8 (σ8.1 12 (Int32.toNatClampNeg (((16 : Int32) * (σ8.1 0 18)) + r9))) (σ8.1 13 (Int32.toNatClampNeg (((16 : Int32) * (σ8.1 0 18)) + r9))) hB _) xm_X12_value xt_6_110 xt_6_112 xt_p_56 ⟨Nat.le_of_ble_eq_true rfl, Nat.le_of_ble_eq_true rfl⟩ xl_B_ShowRingsModel_at rfl rfl rfl rfl hl.1 (Nat.le_of_ble_eq_true rfl) dX12_pointsOf_154 ⟨Nat.zero_le _, Nat.zero_le _⟩) (fun r11 σ10 H locs hB hw => ?_)
        exact xr_iret X hw hr hk hB dX12_pointsOf_157
      · replace hB := hB.2 hc
        refine lv_iconst (v := (0 : Int32)) hx hb dX12_pointsOf_119 (by decide) ?_
        refine lv_goto (tgt := 157) hx hb dX12_pointsOf_120 (by decide) ?_
        exact xr_iret X hw hr hk hB dX12_pointsOf_157
    · replace hB := hB.2 hc
      refine lv_iload hx hb dX12_pointsOf_33 (lv_at hl 5 rfl) ?_
      refine lv_iload_n hx hb dX12_pointsOf_35 rfl (lv_at hl 2 rfl) ?_
      refine lv_icmp_eq (tgt := 69) hx hb dX12_pointsOf_36 (by decide) (fun hc => ?_) (fun hc => ?_)
      · replace hB := hB.1 hc
        refine lv_iinc (v := (v5 + (1 : Int32))) (lv' := [(5, .int (v5 + (1 : Int32))), (0, .ref (q 0)), (1, .int a1), (2, .int a2), (3, .int a3), (4, .int v4)]) hx hb dX12_pointsOf_69 hl (k := 5) rfl rfl (by decide) rfl (fun ls hl => ?_)
        refine lv_goto (tgt := 24) hx hb dX12_pointsOf_72 (by decide) ?_
        exact hB _ _ _ hw (lv_sub hl [1, 2, 3, 4, 5, 0] rfl)
      · replace hB := hB.2 hc
        refine lv_aload_n hx hb dX12_pointsOf_39 rfl (lv_at hl 0 rfl) ?_
        refine xr_getr X hw (xf_X12_110 X) 0 xl_B_ShowRingsModel_at rfl dX12_pointsOf_40 ?_
        refine lv_iload hx hb dX12_pointsOf_43 (lv_at hl 5 rfl) ?_
        refine xr_iald X hw 31 xl_B_ShowRingsModel_breedOf_at hB.1 dX12_pointsOf_45 ?_
        replace hB := hB.2
        refine lv_aload_n hx hb dX12_pointsOf_46 rfl (lv_at hl 0 rfl) ?_
        refine xr_getr X hw (xf_X12_110 X) 0 xl_B_ShowRingsModel_at rfl dX12_pointsOf_47 ?_
        refine lv_iload_n hx hb dX12_pointsOf_50 rfl (lv_at hl 2 rfl) ?_
        refine xr_iald X hw 31 xl_B_ShowRingsModel_breedOf_at hB.1 dX12_pointsOf_51 ?_
        replace hB := hB.2
        refine lv_icmp_ne (tgt := 69) hx hb dX12_pointsOf_52 (by decide) (fun hc => ?_) (fun hc => ?_)
        · replace hB := hB.1 hc
          refine lv_iinc (v := (v5 + (1 : Int32))) (lv' := [(5, .int (v5 + (1 : Int32))), (0, .ref (q 0)), (1, .int a1), (2, .int a2), (3, .int a3), (4, .int v4)]) hx hb dX12_pointsOf_69 hl (k := 5) rfl rfl (by decide) rfl (fun ls hl => ?_)
          refine lv_goto (tgt := 24) hx hb dX12_pointsOf_72 (by decide) ?_
          exact hB _ _ _ hw (lv_sub hl [1, 2, 3, 4, 5, 0] rfl)
        · replace hB := hB.2 hc
          refine lv_aload_n hx hb dX12_pointsOf_55 rfl (lv_at hl 0 rfl) ?_
          refine lv_iload_n hx hb dX12_pointsOf_56 rfl (lv_at hl 1 rfl) ?_
          refine lv_iload hx hb dX12_pointsOf_57 (lv_at hl 5 rfl) ?_
          refine lv_iload_n hx hb dX12_pointsOf_59 rfl (lv_at hl 3 rfl) ?_
          refine xr_i hw (xr_runV (As := [.int a1, .int v5, .int a3]) (rest := []) X hw 0 (xc_X12_whyOf l D cy q σ a1 v5 a3 hB _) xm_X12_whyOf xt_6_161 xt_6_163 xt_p_62 ⟨Nat.le_of_ble_eq_true rfl, Nat.le_of_ble_eq_true rfl⟩ xl_B_ShowRingsModel_at rfl rfl rfl rfl hl.1 (Nat.le_of_ble_eq_true rfl) dX12_pointsOf_60 ⟨Nat.zero_le _, Nat.zero_le _⟩) (fun r13 σ12 H locs hB hw => ?_)
          refine lv_if_ne (tgt := 69) hx hb dX12_pointsOf_63 (by decide) (fun hc => ?_) (fun hc => ?_)
          · replace hB := hB.1 hc
            refine lv_iinc (v := (v5 + (1 : Int32))) (lv' := [(5, .int (v5 + (1 : Int32))), (0, .ref (q 0)), (1, .int a1), (2, .int a2), (3, .int a3), (4, .int v4)]) hx hb dX12_pointsOf_69 hl (k := 5) rfl rfl (by decide) rfl (fun ls hl => ?_)
            refine lv_goto (tgt := 24) hx hb dX12_pointsOf_72 (by decide) ?_
            exact hB _ _ _ hw (lv_sub hl [1, 2, 3, 4, 5, 0] rfl)
          · replace hB := hB.2 hc
            refine lv_iinc (v := (v4 + (1 : Int32))) (lv' := [(4, .int (v4 + (1 : Int32))), (0, .ref (q 0)), (1, .int a1), (2, .int a2), (3, .int a3), (5, .int v5)]) hx hb dX12_pointsOf_66 hl (k := 4) rfl rfl (by decide) rfl (fun ls hl => ?_)
            refine lv_iinc (v := (v5 + (1 : Int32))) (lv' := [(5, .int (v5 + (1 : Int32))), (4, .int (v4 + (1 : Int32))), (0, .ref (q 0)), (1, .int a1), (2, .int a2), (3, .int a3)]) hx hb dX12_pointsOf_69 hl (k := 5) rfl rfl (by decide) rfl (fun ls hl => ?_)
            refine lv_goto (tgt := 24) hx hb dX12_pointsOf_72 (by decide) ?_
            exact hB _ _ _ hw (lv_sub hl [2, 3, 4, 5, 1, 0] rfl))
  unfold xb_X12_pointsOf_e at hB
  refine lv_aload_n hx hb dX12_pointsOf_0 rfl (lv_at hl 0 rfl) ?_
  refine lv_iload_n hx hb dX12_pointsOf_1 rfl (lv_at hl 1 rfl) ?_
  refine lv_aload_n hx hb dX12_pointsOf_2 rfl (lv_at hl 0 rfl) ?_
  refine xr_getr X hw (xf_X12_110 X) 0 xl_B_ShowRingsModel_at rfl dX12_pointsOf_3 ?_
  refine lv_iload_n hx hb dX12_pointsOf_6 rfl (lv_at hl 2 rfl) ?_
  refine xr_iald X hw 31 xl_B_ShowRingsModel_breedOf_at hB.1 dX12_pointsOf_7 ?_
  replace hB := hB.2
  refine lv_iload_n hx hb dX12_pointsOf_8 rfl (lv_at hl 3 rfl) ?_
  refine xr_i hw (xr_runV (As := [.int a1, .int (σ.1 31 (Int32.toNatClampNeg a2)), .int a3]) (rest := []) X hw 0 (xc_X12_winnerOf l D cy q σ a1 (σ.1 31 (Int32.toNatClampNeg a2)) a3 hB _) xm_X12_winnerOf xt_6_177 xt_6_179 xt_p_65 ⟨Nat.le_of_ble_eq_true rfl, Nat.le_of_ble_eq_true rfl⟩ xl_B_ShowRingsModel_at rfl rfl rfl rfl hl.1 (Nat.le_of_ble_eq_true rfl) dX12_pointsOf_9 ⟨Nat.zero_le _, Nat.zero_le _⟩) (fun r2 σ1 H locs hB hw => ?_)
  refine lv_iload_n hx hb dX12_pointsOf_12 rfl (lv_at hl 2 rfl) ?_
  refine lv_icmp_eq (tgt := 18) hx hb dX12_pointsOf_13 (by decide) (fun hc => ?_) (fun hc => ?_)
  · replace hB := hB.1 hc
    refine lv_iconst (v := (0 : Int32)) hx hb dX12_pointsOf_18 (by decide) ?_
    refine lv_istore (lv' := [(4, .int (0 : Int32)), (0, .ref (q 0)), (1, .int a1), (2, .int a2), (3, .int a3)]) hx hb dX12_pointsOf_19 hl (by decide) rfl (fun ls hl => ?_)
    refine lv_iconst (v := (0 : Int32)) hx hb dX12_pointsOf_21 (by decide) ?_
    refine lv_istore (lv' := [(5, .int (0 : Int32)), (4, .int (0 : Int32)), (0, .ref (q 0)), (1, .int a1), (2, .int a2), (3, .int a3)]) hx hb dX12_pointsOf_22 hl (by decide) rfl (fun ls hl => ?_)
    exact hB _ _ _ hw (lv_sub hl [2, 3, 4, 5, 1, 0] rfl)
  · replace hB := hB.2 hc
    refine lv_iconst (v := (0 : Int32)) hx hb dX12_pointsOf_16 (by decide) ?_
    exact xr_iret X hw hr hk hB dX12_pointsOf_17
