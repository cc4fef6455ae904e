theorem xm_X12_at : xr_MW yX12_at cX12_at 2 (some .int) 1 := ⟨xt_5_189, xt_1_13, by decide, by decide, by decide +kernel⟩
theorem xm_X12_isLetter : xr_MW yX12_isLetter cX12_isLetter 1 (some .boolean) 1 := ⟨xt_5_196, xt_1_13, by decide, by decide, by decide +kernel⟩
theorem xm_X12_isDigit : xr_MW yX12_isDigit cX12_isDigit 1 (some .boolean) 1 := ⟨xt_5_199, xt_1_13, by decide, by decide, by decide +kernel⟩
theorem xm_X12_sign : xr_MW yX12_sign cX12_sign 6 (some .int) 3 := ⟨xt_5_203, xt_1_13, by decide, by decide, by decide +kernel⟩
theorem xf_X12_34 {p : Program} {s : State} {m : MethodId} {args : Array Value} {c : Code} {cc : ByteArray} {nL : Nat} {D : va_G} {cy : Nat → ClassId} {lay : List xw_E} {q : Nat → Nat} (X : xr_X p s m args c cc nL RX12 D cy lay q) : xr_F args s RX12 34 12 9 := ⟨RX12, TX12, 77, tyX12, rfl, by decide, fun w h => X.2.2.2.2.1 w (xt_inX12 w h), tyX12_ok, nmX12, Or.inl (X.2.2.2.2.1 _ xt_4_182)⟩
set_option maxRecDepth 100000 in
set_option maxHeartbeats 4000000 in
theorem xc_X12_cut (l : Launch) (D : va_G) (cy : Nat → ClassId) (q : Nat → Nat) (σ : xw_M)  {Z : xw_M → Prop} (hU : xu_X12_cut σ Z) : xr_CV l yX12_cut cX12_cut 8 { frames := 2, cells := 0, slots := 0, locals := 50 } D cy xl_B q σ [.ref (q 0)] Z := by
  refine xr_CV.of RX12 rfl (by decide) (Nat.le_of_ble_eq_true rfl) (fun p e s m below meth c X hw hr hk ls hl => ?_)
  have hx := X.1
  have hb := X.2.1
  have hl : lv_has ls 8 [(0, .ref (q 0))] := hl
  have hB := hU (fun (σ : xw_M) (v1 : Int32) => ∀ (H : Heap) (locs : List Loc) (ls : Array Slot), xr_H D cy xl_B q s σ H locs → lv_has ls 8 [(0, .ref (q 0)), (1, .int v1)] → W p l e ({ frames := 2, cells := 0, slots := 0, locals := 50 } : Room) s m ([.ref (q 0)] : List Value).toArray below meth c H locs 0 0 (MQ below (va_Qv Z (xr_po D cy xl_B q) (xw_A xl_B q s.heap.size)) ([.ref (q 0)] : List Value).toArray s 0 0 (xw_A xl_B q s.heap.size)) (F0 m 7 ls []))
    (fun (σ : xw_M) (v1 : Int32) (v3 : Int32) (v4 : Int64) => ∀ (H : Heap) (locs : List Loc) (ls : Array Slot), xr_H D cy xl_B q s σ H locs → lv_has ls 8 [(0, .ref (q 0)), (1, .int v1), (3, .int v3), (4, .long v4)] → W p l e ({ frames := 2, cells := 0, slots := 0, locals := 50 } : Room) s m ([.ref (q 0)] : List Value).toArray below meth c H locs 0 0 (MQ below (va_Qv Z (xr_po D cy xl_B q) (xw_A xl_B q s.heap.size)) ([.ref (q 0)] : List Value).toArray s 0 0 (xw_A xl_B q s.heap.size)) (F0 m 85 ls []))
    (fun (σ : xw_M) (v1 : Int32) (v3 : Int32) (v4 : Int64) (v6 : Int32) (v7 : Int32) => ∀ (H : Heap) (locs : List Loc) (ls : Array Slot), xr_H D cy xl_B q s σ H locs → lv_has ls 8 [(0, .ref (q 0)), (1, .int v1), (3, .int v3), (4, .long v4), (6, .int v6), (7, .int v7)] → W p l e ({ frames := 2, cells := 0, slots := 0, locals := 50 } : Room) s m ([.ref (q 0)] : List Value).toArray below meth c H locs 0 0 (MQ below (va_Qv Z (xr_po D cy xl_B q) (xw_A xl_B q s.heap.size)) ([.ref (q 0)] : List Value).toArray s 0 0 (xw_A xl_B q s.heap.size)) (F0 m 146 ls []))
    (fun (σ : xw_M) (v1 : Int32) (v3 : Int32) (v4 : Int64) (v6 : Int32) => ∀ (H : Heap) (locs : List Loc) (ls : Array Slot), xr_H D cy xl_B q s σ H locs → lv_has ls 8 [(0, .ref (q 0)), (1, .int v1), (3, .int v3), (4, .long v4), (6, .int v6)] → W p l e ({ frames := 2, cells := 0, slots := 0, locals := 50 } : Room) s m ([.ref (q 0)] : List Value).toArray below meth c H locs 0 0 (MQ below (va_Qv Z (xr_po D cy xl_B q) (xw_A xl_B q s.heap.size)) ([.ref (q 0)] : List Value).toArray s 0 0 (xw_A xl_B q s.heap.size)) (F0 m 179 ls []))
    (fun (σ : xw_M) (v1 : Int32) (v3 : Int32) (v4 : Int32) => ∀ (H : Heap) (locs : List Loc) (ls : Array Slot), xr_H D cy xl_B q s σ H locs → lv_has ls 8 [(0, .ref (q 0)), (1, .int v1), (3, .int v3), (4, .int v4)] → W p l e ({ frames := 2, cells := 0, slots := 0, locals := 50 } : Room) s m ([.ref (q 0)] : List Value).toArray below meth c H locs 0 0 (MQ below (va_Qv Z (xr_po D cy xl_B q) (xw_A xl_B q s.heap.size)) ([.ref (q 0)] : List Value).toArray s 0 0 (xw_A xl_B q s.heap.size)) (F0 m 208 ls []))
    (by
    intro σ v1 hB H locs ls hw hl
    unfold xb_X12_cut_7 at hB
    refine lv_aload_n hx hb dX12_cut_7 rfl (lv_at hl 0 rfl) ?_
    refine xr_geti X hw (xf_X12_214 X) 0 xl_B_ShowRingsModel_at rfl dX12_cut_8 ?_
    refine lv_sipush (v := (400 : Int32)) hx hb dX12_cut_11 (by decide) ?_
    refine lv_icmp_gt (tgt := 294) hx hb dX12_cut_14 (by decide) (fun hc => ?_) (fun hc => ?_)
    · replace hB := hB.1 hc
      exact xr_vret X hw hr hk hB dX12_cut_294
    · replace hB := hB.2 hc
      refine lv_aload_n hx hb dX12_cut_17 rfl (lv_at hl 0 rfl) ?_
      refine lv_iload_n hx hb dX12_cut_18 rfl (lv_at hl 1 rfl) ?_
      refine xr_i hw (xr_runV (As := [.int v1]) (rest := []) X hw 0 (xc_X12_at l D cy q σ v1 hB _) xm_X12_at xt_5_186 xt_5_188 xt_p_30 ⟨Nat.le_of_ble_eq_true rfl, Nat.le_of_ble_eq_true rfl⟩ xl_B_ShowRingsModel_at rfl rfl rfl rfl hl.1 (Nat.le_of_ble_eq_true rfl) dX12_cut_19 ⟨Nat.zero_le _, Nat.zero_le _⟩) (fun r3 σ2 H locs hB hw => ?_)
      refine lv_istore_n (lv' := [(2, .int r3), (0, .ref (q 0)), (1, .int v1)]) hx hb dX12_cut_22 rfl hl (by decide) rfl (fun ls hl => ?_)
      refine lv_iload_n hx hb dX12_cut_23 rfl (lv_at hl 2 rfl) ?_
      refine lv_aload_n hx hb dX12_cut_24 rfl (lv_at hl 1 rfl) ?_
      refine xr_geti X hw (xf_X12_205 X) 0 xl_B_ShowRingsModel_at rfl dX12_cut_25 ?_
      refine lv_icmp_lt (tgt := 43) hx hb dX12_cut_28 (by decide) (fun hc => ?_) (fun hc => ?_)
      · replace hB := hB.1 hc
        refine lv_iload_n hx hb dX12_cut_43 rfl (lv_at hl 0 rfl) ?_
        refine lv_bipush (v := (9 : Int32)) hx hb dX12_cut_44 (by decide) ?_
        refine lv_icmp_eq (tgt := 67) hx hb dX12_cut_46 (by decide) (fun hc => ?_) (fun hc => ?_)
        · replace hB := hB.1 hc
          refine lv_iinc (v := (v1 + (1 : Int32))) (lv' := [(1, .int (v1 + (1 : Int32))), (2, .int r3), (0, .ref (q 0))]) hx hb dX12_cut_67 hl (k := 2) rfl rfl (by decide) rfl (fun ls hl => ?_)
          refine lv_goto (tgt := 291) hx hb dX12_cut_70 (by decide) ?_
          refine lv_goto (tgt := 7) hx hb dX12_cut_291 (by decide) ?_
          exact hB _ _ _ hw (lv_sub hl [2, 0] rfl)
        · replace hB := hB.2 hc
          refine lv_iload_n hx hb dX12_cut_49 rfl (lv_at hl 0 rfl) ?_
          refine lv_bipush (v := (10 : Int32)) hx hb dX12_cut_50 (by decide) ?_
          refine lv_icmp_eq (tgt := 67) hx hb dX12_cut_52 (by decide) (fun hc => ?_) (fun hc => ?_)
          · replace hB := hB.1 hc
            refine lv_iinc (v := (v1 + (1 : Int32))) (lv' := [(1, .int (v1 + (1 : Int32))), (2, .int r3), (0, .ref (q 0))]) hx hb dX12_cut_67 hl (k := 2) rfl rfl (by decide) rfl (fun ls hl => ?_)
            refine lv_goto (tgt := 291) hx hb dX12_cut_70 (by decide) ?_
            refine lv_goto (tgt := 7) hx hb dX12_cut_291 (by decide) ?_
            exact hB _ _ _ hw (lv_sub hl [2, 0] rfl)
          · replace hB := hB.2 hc
            refine lv_iload_n hx hb dX12_cut_55 rfl (lv_at hl 0 rfl) ?_
            refine lv_bipush (v := (13 : Int32)) hx hb dX12_cut_56 (by decide) ?_
            refine lv_icmp_eq (tgt := 67) hx hb dX12_cut_58 (by decide) (fun hc => ?_) (fun hc => ?_)
            · replace hB := hB.1 hc
              refine lv_iinc (v := (v1 + (1 : Int32))) (lv' := [(1, .int (v1 + (1 : Int32))), (2, .int r3), (0, .ref (q 0))]) hx hb dX12_cut_67 hl (k := 2) rfl rfl (by decide) rfl (fun ls hl => ?_)
              refine lv_goto (tgt := 291) hx hb dX12_cut_70 (by decide) ?_
              refine lv_goto (tgt := 7) hx hb dX12_cut_291 (by decide) ?_
              exact hB _ _ _ hw (lv_sub hl [2, 0] rfl)
            · replace hB := hB.2 hc
              refine lv_iload_n hx hb dX12_cut_61 rfl (lv_at hl 0 rfl) ?_
              refine lv_bipush (v := (32 : Int32)) hx hb dX12_cut_62 (by decide) ?_
              refine lv_icmp_ne (tgt := 73) hx hb dX12_cut_64 (by decide) (fun hc => ?_) (fun hc => ?_)
              · replace hB := hB.1 hc
                refine lv_iload_n hx hb dX12_cut_73 rfl (lv_at hl 0 rfl) ?_
                refine xr_i hw (xr_runS (As := [.int r3]) (rest := []) X hw (xc_X12_isLetter l D cy q σ2 r3 hB _) xm_X12_isLetter xt_5_194 xt_5_195 ⟨Nat.le_of_ble_eq_true rfl, Nat.le_of_ble_eq_true rfl⟩ rfl rfl hl.1 (Nat.le_of_ble_eq_true rfl) dX12_cut_74 ⟨Nat.zero_le _, Nat.zero_le _⟩) (fun r5 σ4 H locs hB hw => ?_)
                refine lv_if_eq (tgt := 196) hx hb dX12_cut_77 (by decide) (fun hc => ?_) (fun hc => ?_)
                · replace hB := hB.1 hc
                  refine lv_iload_n hx hb dX12_cut_196 rfl (lv_at hl 0 rfl) ?_
                  refine xr_i hw (xr_runS (As := [.int r3]) (rest := []) X hw (xc_X12_isDigit l D cy q σ4 r3 hB _) xm_X12_isDigit xt_5_197 xt_5_198 ⟨Nat.le_of_ble_eq_true rfl, Nat.le_of_ble_eq_true rfl⟩ rfl rfl hl.1 (Nat.le_of_ble_eq_true rfl) dX12_cut_197 ⟨Nat.zero_le _, Nat.zero_le _⟩) (fun r7 σ6 H locs hB hw => ?_)
                  refine lv_if_eq (tgt := 275) hx hb dX12_cut_200 (by decide) (fun hc => ?_) (fun hc => ?_)
                  · replace hB := hB.1 hc
                    refine lv_iload_n hx hb dX12_cut_275 rfl (lv_at hl 2 rfl) ?_
                    refine lv_aload_n hx hb dX12_cut_276 rfl (lv_at hl 1 rfl) ?_
                    refine lv_iload_n hx hb dX12_cut_277 rfl (lv_at hl 2 rfl) ?_
                    refine lv_iload_n hx hb dX12_cut_278 rfl (lv_at hl 0 rfl) ?_
                    refine lv_aload_n hx hb dX12_cut_279 rfl (lv_at hl 1 rfl) ?_
                    refine lv_iload_n hx hb dX12_cut_280 rfl (lv_at hl 2 rfl) ?_
                    refine lv_iconst (v := (1 : Int32)) hx hb dX12_cut_281 (by decide) ?_
                    refine lv_iadd hx hb dX12_cut_282 ?_
                    refine xr_i hw (xr_runV (As := [.int (v1 + (1 : Int32))]) (rest := [.int r3, .int v1, .ref (q 0), .int v1]) X hw 0 (xc_X12_at l D cy q σ6 (v1 + (1 : Int32)) hB _) xm_X12_at xt_5_186 xt_5_188 xt_p_30 ⟨Nat.le_of_ble_eq_true rfl, Nat.le_of_ble_eq_true rfl⟩ xl_B_ShowRingsModel_at rfl rfl rfl rfl hl.1 (Nat.le_of_ble_eq_true rfl) dX12_cut_283 ⟨Nat.zero_le _, Nat.zero_le _⟩) (fun r9 σ8 H locs hB hw => ?_)
                    refine xr_i hw (xr_runV (As := [.int v1, .int r3, .int r9]) (rest := [.int v1]) X hw 0 (xc_X12_sign l D cy q σ8 v1 r3 r9 hB _) xm_X12_sign xt_5_200 xt_5_202 xt_p_32 ⟨Nat.le_of_ble_eq_true rfl, Nat.le_of_ble_eq_true rfl⟩ xl_B_ShowRingsModel_at rfl rfl rfl rfl hl.1 (Nat.le_of_ble_eq_true rfl) dX12_cut_286 ⟨Nat.zero_le _, Nat.zero_le _⟩) (fun r11 σ10 H locs hB hw => ?_)
                    refine lv_iadd hx hb dX12_cut_289 ?_
                    refine lv_istore_n (lv' := [(1, .int (v1 + r11)), (2, .int r3), (0, .ref (q 0))]) hx hb dX12_cut_290 rfl hl (by decide) rfl (fun ls hl => ?_)
                    refine lv_goto (tgt := 7) hx hb dX12_cut_291 (by decide) ?_
                    exact hB _ _ _ hw (lv_sub hl [2, 0] rfl)
                  · replace hB := hB.2 hc
                    refine lv_iconst (v := (0 : Int32)) hx hb dX12_cut_203 (by decide) ?_
                    refine lv_istore_n (lv' := [(3, .int (0 : Int32)), (2, .int r3), (0, .ref (q 0)), (1, .int v1)]) hx hb dX12_cut_204 rfl hl (by decide) rfl (fun ls hl => ?_)
                    refine lv_iconst (v := (0 : Int32)) hx hb dX12_cut_205 (by decide) ?_
                    refine lv_istore (lv' := [(4, .int (0 : Int32)), (3, .int (0 : Int32)), (2, .int r3), (0, .ref (q 0)), (1, .int v1)]) hx hb dX12_cut_206 hl (by decide) rfl (fun ls hl => ?_)
                    exact hB _ _ _ hw (lv_sub hl [3, 4, 1, 0] rfl)
                · replace hB := hB.2 hc
                  refine lv_iconst (v := (0 : Int32)) hx hb dX12_cut_80 (by decide) ?_
                  refine lv_istore_n (lv' := [(3, .int (0 : Int32)), (2, .int r3), (0, .ref (q 0)), (1, .int v1)]) hx hb dX12_cut_81 rfl hl (by decide) rfl (fun ls hl => ?_)
                  refine lv_lconst (v := 0) hx hb dX12_cut_82 (by decide) ?_
                  refine lv_lstore (lv' := [(4, .long (0 : Int64)), (3, .int (0 : Int32)), (2, .int r3), (0, .ref (q 0)), (1, .int v1)]) hx hb dX12_cut_83 hl (by decide) rfl (fun ls hl => ?_)
                  exact hB _ _ _ hw (lv_sub hl [3, 4, 1, 0] rfl)
              · replace hB := hB.2 hc
                refine lv_iinc (v := (v1 + (1 : Int32))) (lv' := [(1, .int (v1 + (1 : Int32))), (2, .int r3), (0, .ref (q 0))]) hx hb dX12_cut_67 hl (k := 2) rfl rfl (by decide) rfl (fun ls hl => ?_)
                refine lv_goto (tgt := 291) hx hb dX12_cut_70 (by decide) ?_
                refine lv_goto (tgt := 7) hx hb dX12_cut_291 (by decide) ?_
                exact hB _ _ _ hw (lv_sub hl [2, 0] rfl)
      · replace hB := hB.2 hc
        refine lv_aload_n hx hb dX12_cut_31 rfl (lv_at hl 1 rfl) ?_
        refine lv_iconst (v := (0 : Int32)) hx hb dX12_cut_32 (by decide) ?_
        refine lv_aload_n hx hb dX12_cut_33 rfl (lv_at hl 1 rfl) ?_
        refine xr_geti X hw (xf_X12_205 X) 0 xl_B_ShowRingsModel_at rfl dX12_cut_34 ?_
        refine lv_iconst (v := (0 : Int32)) hx hb dX12_cut_37 (by decide) ?_
        refine lv_lconst (v := 0) hx hb dX12_cut_38 (by decide) ?_
        refine xr_v hw (xr_runV (As := [.int (0 : Int32), .int (σ2.1 0 4), .int (0 : Int32), .long (0 : Int64)]) (rest := []) X hw 0 (xc_X12_token l D cy q σ2 (0 : Int32) (σ2.1 0 4) (0 : Int32) (0 : Int64) hB _) xm_X12_token xt_5_190 xt_5_192 xt_p_31 ⟨Nat.le_of_ble_eq_true rfl, Nat.le_of_ble_eq_true rfl⟩ xl_B_ShowRingsModel_at rfl rfl rfl rfl hl.1 (Nat.le_of_ble_eq_true rfl) dX12_cut_39 ⟨Nat.zero_le _, Nat.zero_le _⟩) (fun σ12 H locs hB hw => ?_)
        exact xr_vret X hw hr hk hB dX12_cut_42)
    (by
    intro σ v1 v3 v4 hB H locs ls hw hl
    unfold xb_X12_cut_85 at hB
    refine lv_aload_n hx hb dX12_cut_85 rfl (lv_at hl 0 rfl) ?_
    refine lv_iload_n hx hb dX12_cut_86 rfl (lv_at hl 1 rfl) ?_
    refine lv_iload_n hx hb dX12_cut_87 rfl (lv_at hl 2 rfl) ?_
    refine lv_iadd hx hb dX12_cut_88 ?_
    refine xr_i hw (xr_runV (As := [.int (v1 + v3)]) (rest := []) X hw 0 (xc_X12_at l D cy q σ (v1 + v3) hB _) xm_X12_at xt_5_186 xt_5_188 xt_p_30 ⟨Nat.le_of_ble_eq_true rfl, Nat.le_of_ble_eq_true rfl⟩ xl_B_ShowRingsModel_at rfl rfl rfl rfl hl.1 (Nat.le_of_ble_eq_true rfl) dX12_cut_89 ⟨Nat.zero_le _, Nat.zero_le _⟩) (fun r14 σ13 H locs hB hw => ?_)
    refine xr_i hw (xr_runS (As := [.int r14]) (rest := []) X hw (xc_X12_isLetter l D cy q σ13 r14 hB _) xm_X12_isLetter xt_5_194 xt_5_195 ⟨Nat.le_of_ble_eq_true rfl, Nat.le_of_ble_eq_true rfl⟩ rfl rfl hl.1 (Nat.le_of_ble_eq_true rfl) dX12_cut_92 ⟨Nat.zero_le _, Nat.zero_le _⟩) (fun r16 σ15 H locs hB hw => ?_)
    refine lv_if_eq (tgt := 124) hx hb dX12_cut_95 (by decide) (fun hc => ?_) (fun hc => ?_)
    · replace hB := hB.1 hc
      refine lv_iload_n hx hb dX12_cut_124 rfl (lv_at hl 2 rfl) ?_
      refine lv_bipush (v := (8 : Int32)) hx hb dX12_cut_125 (by decide) ?_
      refine lv_icmp_le (tgt := 134) hx hb dX12_cut_127 (by decide) (fun hc => ?_) (fun hc => ?_)
      · replace hB := hB.1 hc
        refine lv_iconst (v := (1 : Int32)) hx hb dX12_cut_134 (by decide) ?_
        refine lv_istore (lv' := [(6, .int (1 : Int32)), (0, .ref (q 0)), (1, .int v1), (3, .int v3), (4, .long v4)]) hx hb dX12_cut_135 hl (by decide) rfl (fun ls hl => ?_)
        refine lv_iload_n hx hb dX12_cut_137 rfl (lv_at hl 3 rfl) ?_
        refine lv_bipush (v := (7 : Int32)) hx hb dX12_cut_138 (by decide) ?_
        refine lv_icmp_gt (tgt := 179) hx hb dX12_cut_140 (by decide) (fun hc => ?_) (fun hc => ?_)
        · replace hB := hB.1 hc
          exact hB _ _ _ hw (lv_sub hl [1, 2, 3, 4, 0] rfl)
        · replace hB := hB.2 hc
          refine lv_iconst (v := (0 : Int32)) hx hb dX12_cut_143 (by decide) ?_
          refine lv_istore (lv' := [(7, .int (0 : Int32)), (6, .int (1 : Int32)), (0, .ref (q 0)), (1, .int v1), (3, .int v3), (4, .long v4)]) hx hb dX12_cut_144 hl (by decide) rfl (fun ls hl => ?_)
          exact hB _ _ _ hw (lv_sub hl [2, 3, 4, 5, 1, 0] rfl)
      · replace hB := hB.2 hc
        refine lv_iconst (v := (3 : Int32)) hx hb dX12_cut_130 (by decide) ?_
        refine lv_goto (tgt := 135) hx hb dX12_cut_131 (by decide) ?_
        refine lv_istore (lv' := [(6, .int (3 : Int32)), (0, .ref (q 0)), (1, .int v1), (3, .int v3), (4, .long v4)]) hx hb dX12_cut_135 hl (by decide) rfl (fun ls hl => ?_)
        refine lv_iload_n hx hb dX12_cut_137 rfl (lv_at hl 3 rfl) ?_
        refine lv_bipush (v := (7 : Int32)) hx hb dX12_cut_138 (by decide) ?_
        refine lv_icmp_gt (tgt := 179) hx hb dX12_cut_140 (by decide) (fun hc => ?_) (fun hc => ?_)
        · replace hB := hB.1 hc
          exact hB _ _ _ hw (lv_sub hl [1, 2, 3, 4, 0] rfl)
        · replace hB := hB.2 hc
          refine lv_iconst (v := (0 : Int32)) hx hb dX12_cut_143 (by decide) ?_
          refine lv_istore (lv' := [(7, .int (0 : Int32)), (6, .int (3 : Int32)), (0, .ref (q 0)), (1, .int v1), (3, .int v3), (4, .long v4)]) hx hb dX12_cut_144 hl (by decide) rfl (fun ls hl => ?_)
          exact hB _ _ _ hw (lv_sub hl [2, 3, 4, 5, 1, 0] rfl)
    · replace hB := hB.2 hc
      refine lv_iload_n hx hb dX12_cut_98 rfl (lv_at hl 2 rfl) ?_
      refine lv_bipush (v := (8 : Int32)) hx hb dX12_cut_99 (by decide) ?_
      refine lv_icmp_ge (tgt := 118) hx hb dX12_cut_101 (by decide) (fun hc => ?_) (fun hc => ?_)
      · replace hB := hB.1 hc
        refine lv_iinc (v := (v3 + (1 : Int32))) (lv' := [(3, .int (v3 + (1 : Int32))), (0, .ref (q 0)), (1, .int v1), (4, .long v4)]) hx hb dX12_cut_118 hl (k := 2) rfl rfl (by decide) rfl (fun ls hl => ?_)
        refine lv_goto (tgt := 85) hx hb dX12_cut_121 (by decide) ?_
        exact hB _ _ _ hw (lv_sub hl [1, 2, 0, 3] rfl)
      · replace hB := hB.2 hc
        refine lv_lload hx hb dX12_cut_104 (lv_at hl 3 rfl) ?_
        refine lv_aload_n hx hb dX12_cut_106 rfl (lv_at hl 0 rfl) ?_
        refine lv_iload_n hx hb dX12_cut_107 rfl (lv_at hl 1 rfl) ?_
        refine lv_iload_n hx hb dX12_cut_108 rfl (lv_at hl 2 rfl) ?_
        refine lv_iadd hx hb dX12_cut_109 ?_
        refine xr_i hw (xr_runV (As := [.int (v1 + v3)]) (rest := [.long v4]) X hw 0 (xc_X12_at l D cy q σ15 (v1 + v3) hB _) xm_X12_at xt_5_186 xt_5_188 xt_p_30 ⟨Nat.le_of_ble_eq_true rfl, Nat.le_of_ble_eq_true rfl⟩ xl_B_ShowRingsModel_at rfl rfl rfl rfl hl.1 (Nat.le_of_ble_eq_true rfl) dX12_cut_110 ⟨Nat.zero_le _, Nat.zero_le _⟩) (fun r18 σ17 H locs hB hw => ?_)
        refine xr_l hw (xr_runS (As := [.long v4, .int r18]) (rest := []) X hw (xc_X12_more l D cy q σ17 v4 r18 hB _) xm_X12_more xt_4_170 xt_4_171 ⟨Nat.le_of_ble_eq_true rfl, Nat.le_of_ble_eq_true rfl⟩ rfl rfl hl.1 (Nat.le_of_ble_eq_true rfl) dX12_cut_113 ⟨Nat.zero_le _, Nat.zero_le _⟩) (fun r20 σ19 H locs hB hw => ?_)
        refine lv_lstore (lv' := [(4, .long r20), (0, .ref (q 0)), (1, .int v1), (3, .int v3)]) hx hb dX12_cut_116 hl (by decide) rfl (fun ls hl => ?_)
        refine lv_iinc (v := (v3 + (1 : Int32))) (lv' := [(3, .int (v3 + (1 : Int32))), (4, .long r20), (0, .ref (q 0)), (1, .int v1)]) hx hb dX12_cut_118 hl (k := 3) rfl rfl (by decide) rfl (fun ls hl => ?_)
        refine lv_goto (tgt := 85) hx hb dX12_cut_121 (by decide) ?_
        exact hB _ _ _ hw (lv_sub hl [2, 3, 0, 1] rfl))
    (by
    intro σ v1 v3 v4 v6 v7 hB H locs ls hw hl
    unfold xb_X12_cut_146 at hB
    refine lv_iload hx hb dX12_cut_146 (lv_at hl 5 rfl) ?_
    refine lv_bipush (v := (16 : Int32)) hx hb dX12_cut_148 (by decide) ?_
    refine lv_icmp_ge (tgt := 179) hx hb dX12_cut_150 (by decide) (fun hc => ?_) (fun hc => ?_)
    · replace hB := hB.1 hc
      exact hB _ _ _ hw (lv_sub hl [0, 1, 2, 3, 4] rfl)
    · replace hB := hB.2 hc
      refine lv_aload_n hx hb dX12_cut_153 rfl (lv_at hl 0 rfl) ?_
      refine xr_getr X hw (xf_X12_34 X) 0 xl_B_ShowRingsModel_at rfl dX12_cut_154 ?_
      refine lv_iload hx hb dX12_cut_157 (lv_at hl 5 rfl) ?_
      refine xr_lald X hw 7 xl_B_ShowRingsModel_keys_at hB.1 dX12_cut_159 ?_
      replace hB := hB.2
      refine lv_lload hx hb dX12_cut_160 (lv_at hl 3 rfl) ?_
      refine W.lcmp hx hb dX12_cut_162 ?_
      refine lv_if_ne (tgt := 173) hx hb dX12_cut_163 (by decide) (fun hc => ?_) (fun hc => ?_)
      · replace hB := hB.1 hc
        refine lv_iinc (v := (v7 + (1 : Int32))) (lv' := [(7, .int (v7 + (1 : Int32))), (0, .ref (q 0)), (1, .int v1), (3, .int v3), (4, .long v4), (6, .int v6)]) hx hb dX12_cut_173 hl (k := 5) rfl rfl (by decide) rfl (fun ls hl => ?_)
        refine lv_goto (tgt := 146) hx hb dX12_cut_176 (by decide) ?_
        exact hB _ _ _ hw (lv_sub hl [1, 2, 3, 4, 5, 0] rfl)
      · replace hB := hB.2 hc
        refine lv_bipush (v := (20 : Int32)) hx hb dX12_cut_166 (by decide) ?_
        refine lv_iload hx hb dX12_cut_168 (lv_at hl 5 rfl) ?_
        refine lv_iadd hx hb dX12_cut_170 ?_
        refine lv_istore (lv' := [(6, .int ((20 : Int32) + v7)), (0, .ref (q 0)), (1, .int v1), (3, .int v3), (4, .long v4), (7, .int v7)]) hx hb dX12_cut_171 hl (by decide) rfl (fun ls hl => ?_)
        refine lv_iinc (v := (v7 + (1 : Int32))) (lv' := [(7, .int (v7 + (1 : Int32))), (6, .int ((20 : Int32) + v7)), (0, .ref (q 0)), (1, .int v1), (3, .int v3), (4, .long v4)]) hx hb dX12_cut_173 hl (k := 5) rfl rfl (by decide) rfl (fun ls hl => ?_)
        refine lv_goto (tgt := 146) hx hb dX12_cut_176 (by decide) ?_
        exact hB _ _ _ hw (lv_sub hl [2, 3, 4, 5, 1, 0] rfl))
    (by
    intro σ v1 v3 v4 v6 hB H locs ls hw hl
    unfold xb_X12_cut_179 at hB
    refine lv_aload_n hx hb dX12_cut_179 rfl (lv_at hl 0 rfl) ?_
    refine lv_iload hx hb dX12_cut_180 (lv_at hl 4 rfl) ?_
    refine lv_iload_n hx hb dX12_cut_182 rfl (lv_at hl 1 rfl) ?_
    refine lv_iconst (v := (0 : Int32)) hx hb dX12_cut_183 (by decide) ?_
    refine lv_lload hx hb dX12_cut_184 (lv_at hl 3 rfl) ?_
    refine xr_v hw (xr_runV (As := [.int v6, .int v1, .int (0 : Int32), .long v4]) (rest := []) X hw 0 (xc_X12_token l D cy q σ v6 v1 (0 : Int32) v4 hB _) xm_X12_token xt_5_190 xt_5_192 xt_p_31 ⟨Nat.le_of_ble_eq_true rfl, Nat.le_of_ble_eq_true rfl⟩ xl_B_ShowRingsModel_at rfl rfl rfl rfl hl.1 (Nat.le_of_ble_eq_true rfl) dX12_cut_186 ⟨Nat.zero_le _, Nat.zero_le _⟩) (fun σ21 H locs hB hw => ?_)
    refine lv_iload_n hx hb dX12_cut_189 rfl (lv_at hl 1 rfl) ?_
    refine lv_iload_n hx hb dX12_cut_190 rfl (lv_at hl 2 rfl) ?_
    refine lv_iadd hx hb dX12_cut_191 ?_
    refine lv_istore_n (lv' := [(1, .int (v1 + v3)), (0, .ref (q 0)), (3, .int v3), (4, .long v4), (6, .int v6)]) hx hb dX12_cut_192 rfl hl (by decide) rfl (fun ls hl => ?_)
    refine lv_goto (tgt := 291) hx hb dX12_cut_193 (by decide) ?_
    refine lv_goto (tgt := 7) hx hb dX12_cut_291 (by decide) ?_
    exact hB _ _ _ hw (lv_sub hl [1, 0] rfl))
    (by
    intro σ v1 v3 v4 hB H locs ls hw hl
    unfold xb_X12_cut_208 at hB
    refine lv_aload_n hx hb dX12_cut_208 rfl (lv_at hl 0 rfl) ?_
    refine lv_iload_n hx hb dX12_cut_209 rfl (lv_at hl 1 rfl) ?_
    refine lv_iload_n hx hb dX12_cut_210 rfl (lv_at hl 2 rfl) ?_
    refine lv_iadd hx hb dX12_cut_211 ?_
    refine xr_i hw (xr_runV (As := [.int (v1 + v3)]) (rest := []) X hw 0 (xc_X12_at l D cy q σ (v1 + v3) hB _) xm_X12_at xt_5_186 xt_5_188 xt_p_30 ⟨Nat.le_of_ble_eq_true rfl, Nat.le_of_ble_eq_true rfl⟩ xl_B_ShowRingsModel_at rfl rfl rfl rfl hl.1 (Nat.le_of_ble_eq_true rfl) dX12_cut_212 ⟨Nat.zero_le _, Nat.zero_le _⟩) (fun r23 σ22 H locs hB hw => ?_)
    refine xr_i hw (xr_runS (As := [.int r23]) (rest := []) X hw (xc_X12_isDigit l D cy q σ22 r23 hB _) xm_X12_isDigit xt_5_197 xt_5_198 ⟨Nat.le_of_ble_eq_true rfl, Nat.le_of_ble_eq_true rfl⟩ rfl rfl hl.1 (Nat.le_of_ble_eq_true rfl) dX12_cut_215 ⟨Nat.zero_le _, Nat.zero_le _⟩) (fun r25 σ24 H locs hB hw => ?_)
    refine lv_if_eq (tgt := 250) hx hb dX12_cut_218 (by decide) (fun hc => ?_) (fun hc => ?_)
    · replace hB := hB.1 hc
      refine lv_aload_n hx hb dX12_cut_250 rfl (lv_at hl 0 rfl) ?_
      refine lv_iload_n hx hb dX12_cut_251 rfl (lv_at hl 2 rfl) ?_
      refine lv_iconst (v := (4 : Int32)) hx hb dX12_cut_252 (by decide) ?_
      refine lv_icmp_le (tgt := 260) hx hb dX12_cut_253 (by decide) (fun hc => ?_) (fun hc => ?_)
      · replace hB := hB.1 hc
        refine lv_iconst (v := (2 : Int32)) hx hb dX12_cut_260 (by decide) ?_
        refine lv_iload_n hx hb dX12_cut_261 rfl (lv_at hl 1 rfl) ?_
        refine lv_iload hx hb dX12_cut_262 (lv_at hl 3 rfl) ?_
        refine lv_lconst (v := 0) hx hb dX12_cut_264 (by decide) ?_
        refine xr_v hw (xr_runV (As := [.int (2 : Int32), .int v1, .int v4, .long (0 : Int64)]) (rest := []) X hw 0 (xc_X12_token l D cy q σ24 (2 : Int32) v1 v4 (0 : Int64) hB _) xm_X12_token xt_5_190 xt_5_192 xt_p_31 ⟨Nat.le_of_ble_eq_true rfl, Nat.le_of_ble_eq_true rfl⟩ xl_B_ShowRingsModel_at rfl rfl rfl rfl hl.1 (Nat.le_of_ble_eq_true rfl) dX12_cut_265 ⟨Nat.zero_le _, Nat.zero_le _⟩) (fun σ26 H locs hB hw => ?_)
        refine lv_iload_n hx hb dX12_cut_268 rfl (lv_at hl 1 rfl) ?_
        refine lv_iload_n hx hb dX12_cut_269 rfl (lv_at hl 2 rfl) ?_
        refine lv_iadd hx hb dX12_cut_270 ?_
        refine lv_istore_n (lv' := [(1, .int (v1 + v3)), (0, .ref (q 0)), (3, .int v3), (4, .int v4)]) hx hb dX12_cut_271 rfl hl (by decide) rfl (fun ls hl => ?_)
        refine lv_goto (tgt := 291) hx hb dX12_cut_272 (by decide) ?_
        refine lv_goto (tgt := 7) hx hb dX12_cut_291 (by decide) ?_
        exact hB _ _ _ hw (lv_sub hl [1, 0] rfl)
      · replace hB := hB.2 hc
        refine lv_iconst (v := (3 : Int32)) hx hb dX12_cut_256 (by decide) ?_
        refine lv_goto (tgt := 261) hx hb dX12_cut_257 (by decide) ?_
        refine lv_iload_n hx hb dX12_cut_261 rfl (lv_at hl 1 rfl) ?_
        refine lv_iload hx hb dX12_cut_262 (lv_at hl 3 rfl) ?_
        refine lv_lconst (v := 0) hx hb dX12_cut_264 (by decide) ?_
        refine xr_v hw (xr_runV (As := [.int (3 : Int32), .int v1, .int v4, .long (0 : Int64)]) (rest := []) X hw 0 (xc_X12_token l D cy q σ24 (3 : Int32) v1 v4 (0 : Int64) hB _) xm_X12_token xt_5_190 xt_5_192 xt_p_31 ⟨Nat.le_of_ble_eq_true rfl, Nat.le_of_ble_eq_true rfl⟩ xl_B_ShowRingsModel_at rfl rfl rfl rfl hl.1 (Nat.le_of_ble_eq_true rfl) dX12_cut_265 ⟨Nat.zero_le _, Nat.zero_le _⟩) (fun σ27 H locs hB hw => ?_)
        refine lv_iload_n hx hb dX12_cut_268 rfl (lv_at hl 1 rfl) ?_
        refine lv_iload_n hx hb dX12_cut_269 rfl (lv_at hl 2 rfl) ?_
        refine lv_iadd hx hb dX12_cut_270 ?_
        refine lv_istore_n (lv' := [(1, .int (v1 + v3)), (0, .ref (q 0)), (3, .int v3), (4, .int v4)]) hx hb dX12_cut_271 rfl hl (by decide) rfl (fun ls hl => ?_)
        refine lv_goto (tgt := 291) hx hb dX12_cut_272 (by decide) ?_
        refine lv_goto (tgt := 7) hx hb dX12_cut_291 (by decide) ?_
        exact hB _ _ _ hw (lv_sub hl [1, 0] rfl)
    · replace hB := hB.2 hc
      refine lv_iload_n hx hb dX12_cut_221 rfl (lv_at hl 2 rfl) ?_
      refine lv_iconst (v := (4 : Int32)) hx hb dX12_cut_222 (by decide) ?_
      refine lv_icmp_ge (tgt := 244) hx hb dX12_cut_223 (by decide) (fun hc => ?_) (fun hc => ?_)
      · replace hB := hB.1 hc
        refine lv_iinc (v := (v3 + (1 : Int32))) (lv' := [(3, .int (v3 + (1 : Int32))), (0, .ref (q 0)), (1, .int v1), (4, .int v4)]) hx hb dX12_cut_244 hl (k := 2) rfl rfl (by decide) rfl (fun ls hl => ?_)
        refine lv_goto (tgt := 208) hx hb dX12_cut_247 (by decide) ?_
        exact hB _ _ _ hw (lv_sub hl [1, 2, 0, 3] rfl)
      · replace hB := hB.2 hc
        refine lv_bipush (v := (10 : Int32)) hx hb dX12_cut_226 (by decide) ?_
        refine lv_iload hx hb dX12_cut_228 (lv_at hl 3 rfl) ?_
        refine lv_imul hx hb dX12_cut_230 ?_
        refine lv_aload_n hx hb dX12_cut_231 rfl (lv_at hl 0 rfl) ?_
        refine lv_iload_n hx hb dX12_cut_232 rfl (lv_at hl 1 rfl) ?_
        refine lv_iload_n hx hb dX12_cut_233 rfl (lv_at hl 2 rfl) ?_
        refine lv_iadd hx hb dX12_cut_234 ?_
        refine xr_i hw (xr_runV (As := [.int (v1 + v3)]) (rest := [.int ((10 : Int32) * v4)]) X hw 0 (xc_X12_at l D cy q σ24 (v1 + v3) hB _) xm_X12_at xt_5_186 xt_5_188 xt_p_30 ⟨Nat.le_of_ble_eq_true rfl, Nat.le_of_ble_eq_true rfl⟩ xl_B_ShowRingsModel_at rfl rfl rfl rfl hl.1 (Nat.le_of_ble_eq_true rfl) dX12_cut_235 ⟨Nat.zero_le _, Nat.zero_le _⟩) (fun r29 σ28 H locs hB hw => ?_)
        refine lv_iadd hx hb dX12_cut_238 ?_
        refine lv_bipush (v := (48 : Int32)) hx hb dX12_cut_239 (by decide) ?_
        refine lv_isub hx hb dX12_cut_241 ?_
        refine lv_istore (lv' := [(4, .int ((((10 : Int32) * v4) + r29) - (48 : Int32))), (0, .ref (q 0)), (1, .int v1), (3, .int v3)]) hx hb dX12_cut_242 hl (by decide) rfl (fun ls hl => ?_)
        refine lv_iinc (v := (v3 + (1 : Int32))) (lv' := [(3, .int (v3 + (1 : Int32))), (4, .int ((((10 : Int32) * v4) + r29) - (48 : Int32))), (0, .ref (q 0)), (1, .int v1)]) hx hb dX12_cut_244 hl (k := 3) rfl rfl (by decide) rfl (fun ls hl => ?_)
        refine lv_goto (tgt := 208) hx hb dX12_cut_247 (by decide) ?_
        exact hB _ _ _ hw (lv_sub hl [2, 3, 0, 1] rfl))
  unfold xb_X12_cut_e at hB
  refine lv_aload_n hx hb dX12_cut_0 rfl (lv_at hl 0 rfl) ?_
  refine lv_iconst (v := (0 : Int32)) hx hb dX12_cut_1 (by decide) ?_
  refine xr_puti X hw (xp_X12_214 X) 0 xl_B_ShowRingsModel_at rfl dX12_cut_2 hB (fun σ1 H locs hB hw => ?_)
  refine lv_iconst (v := (0 : Int32)) hx hb dX12_cut_5 (by decide) ?_
  refine lv_istore_n (lv' := [(1, .int (0 : Int32)), (0, .ref (q 0))]) hx hb dX12_cut_6 rfl hl (by decide) rfl (fun ls hl => ?_)
  exact hB _ _ _ hw (lv_sub hl [1, 0] rfl)
theorem xf_X12_236 {p : Program} {s : State} {m : MethodId} {args : Array Value} {c : Code} {cc : ByteArray} {nL : Nat} {D : va_G} {cy : Nat → ClassId} {lay : List xw_E} {q : Nat → Nat} (X : xr_X p s m args c cc nL RX12 D cy lay q) : xr_F args s RX12 236 12 13 := ⟨RX12, TX12, 77, tyX12, rfl, by decide, fun w h => X.2.2.2.2.1 w (xt_inX12 w h), tyX12_ok, nmX12, Or.inl (X.2.2.2.2.1 _ xt_4_186)⟩
theorem xf_X12_239 {p : Program} {s : State} {m : MethodId} {args : Array Value} {c : Code} {cc : ByteArray} {nL : Nat} {D : va_G} {cy : Nat → ClassId} {lay : List xw_E} {q : Nat → Nat} (X : xr_X p s m args c cc nL RX12 D cy lay q) : xr_F args s RX12 239 12 11 := ⟨RX12, TX12, 77, tyX12, rfl, by decide, fun w h => X.2.2.2.2.1 w (xt_inX12 w h), tyX12_ok, nmX12, Or.inl (X.2.2.2.2.1 _ xt_4_184)⟩
set_option maxRecDepth 100000 in
set_option maxHeartbeats 4000000 in
theorem xc_X12_is (l : Launch) (D : va_G) (cy : Nat → ClassId) (q : Nat → Nat) (σ : xw_M) (a1 : Int32) {Z : Int32 → xw_M → Prop} (hU : xu_X12_is σ a1 Z) : xr_CI l yX12_is cX12_is 2 .boolean { frames := 0, cells := 0, slots := 0, locals := 0 } D cy xl_B q σ [.ref (q 0), .int a1] Z := by
  refine xr_CI.of RX12 rfl (by decide) (Nat.le_of_ble_eq_true rfl) (fun p e s m below meth c X hw hr hk ls hl => ?_)
  have hx := X.1
  have hb := X.2.1
  have hl : lv_has ls 2 [(0, .ref (q 0)), (1, .int a1)] := hl
  unfold xu_X12_is at hU
  have hB := hU
  refine lv_aload_n hx hb dX12_is_0 rfl (lv_at hl 0 rfl) ?_
  refine xr_geti X hw (xf_X12_236 X) 0 xl_B_ShowRingsModel_at rfl dX12_is_1 ?_
  refine lv_if_ne (tgt := 24) hx hb dX12_is_4 (by decide) (fun hc => ?_) (fun hc => ?_)
  · replace hB := hB.1 hc
    refine lv_iconst (v := (0 : Int32)) hx hb dX12_is_24 (by decide) ?_
    exact xr_zret X hw hr hk hB dX12_is_25
  · replace hB := hB.2 hc
    refine lv_aload_n hx hb dX12_is_7 rfl (lv_at hl 0 rfl) ?_
    refine xr_getr X hw (xf_X12_20 X) 0 xl_B_ShowRingsModel_at rfl dX12_is_8 ?_
    refine lv_aload_n hx hb dX12_is_11 rfl (lv_at hl 0 rfl) ?_
    refine xr_geti X hw (xf_X12_239 X) 0 xl_B_ShowRingsModel_at rfl dX12_is_12 ?_
    refine xr_iald X hw 3 xl_B_ShowRingsModel_tKind_at hB.1 dX12_is_15 ?_
    replace hB := hB.2
    refine lv_iload_n hx hb dX12_is_16 rfl (lv_at hl 1 rfl) ?_
    refine lv_icmp_ne (tgt := 24) hx hb dX12_is_17 (by decide) (fun hc => ?_) (fun hc => ?_)
    · replace hB := hB.1 hc
      refine lv_iconst (v := (0 : Int32)) hx hb dX12_is_24 (by decide) ?_
      exact xr_zret X hw hr hk hB dX12_is_25
    · replace hB := hB.2 hc
      refine lv_iconst (v := (1 : Int32)) hx hb dX12_is_20 (by decide) ?_
      refine lv_goto (tgt := 25) hx hb dX12_is_21 (by decide) ?_
      exact xr_zret X hw hr hk hB dX12_is_25
theorem xp_X12_236 {p : Program} {s : State} {m : MethodId} {args : Array Value} {c : Code} {cc : ByteArray} {nL : Nat} {D : va_G} {cy : Nat → ClassId} {lay : List xw_E} {q : Nat → Nat} (X : xr_X p s m args c cc nL RX12 D cy lay q) : xr_P args s RX12 236 12 13 := ⟨RX12, TX12, 77, tyX12, rfl, by decide, fun w h => X.2.2.2.2.1 w (xt_inX12 w h), tyX12_ok, nmX12, Or.inl (X.2.2.2.2.1 _ xt_4_186), rfl, by decide +kernel⟩
theorem xp_X12_242 {p : Program} {s : State} {m : MethodId} {args : Array Value} {c : Code} {cc : ByteArray} {nL : Nat} {D : va_G} {cy : Nat → ClassId} {lay : List xw_E} {q : Nat → Nat} (X : xr_X p s m args c cc nL RX12 D cy lay q) : xr_P args s RX12 242 12 14 := ⟨RX12, TX12, 77, tyX12, rfl, by decide, fun w h => X.2.2.2.2.1 w (xt_inX12 w h), tyX12_ok, nmX12, Or.inl (X.2.2.2.2.1 _ xt_4_187), rfl, by decide +kernel⟩
set_option maxRecDepth 100000 in
set_option maxHeartbeats 4000000 in
theorem xc_X12_fail (l : Launch) (D : va_G) (cy : Nat → ClassId) (q : Nat → Nat) (σ : xw_M) (a1 : Int32) {Z : xw_M → Prop} (hU : xu_X12_fail σ a1 Z) : xr_CV l yX12_fail cX12_fail 2 { frames := 0, cells := 0, slots := 0, locals := 0 } D cy xl_B q σ [.ref (q 0), .int a1] Z := by
  refine xr_CV.of RX12 rfl (by decide) (Nat.le_of_ble_eq_true rfl) (fun p e s m below meth c X hw hr hk ls hl => ?_)
  have hx := X.1
  have hb := X.2.1
  have hl : lv_has ls 2 [(0, .ref (q 0)), (1, .int a1)] := hl
  unfold xu_X12_fail at hU
  have hB := hU
  refine lv_aload_n hx hb dX12_fail_0 rfl (lv_at hl 0 rfl) ?_
  refine xr_geti X hw (xf_X12_236 X) 0 xl_B_ShowRingsModel_at rfl dX12_fail_1 ?_
  refine lv_if_le (tgt := 8) hx hb dX12_fail_4 (by decide) (fun hc => ?_) (fun hc => ?_)
  · replace hB := hB.1 hc
    refine lv_aload_n hx hb dX12_fail_8 rfl (lv_at hl 0 rfl) ?_
    refine lv_iload_n hx hb dX12_fail_9 rfl (lv_at hl 1 rfl) ?_
    refine xr_puti X hw (xp_X12_236 X) 0 xl_B_ShowRingsModel_at rfl dX12_fail_10 hB (fun σ1 H locs hB hw => ?_)
    refine lv_aload_n hx hb dX12_fail_13 rfl (lv_at hl 0 rfl) ?_
    refine lv_aload_n hx hb dX12_fail_14 rfl (lv_at hl 0 rfl) ?_
    refine xr_getr X hw (xf_X12_24 X) 0 xl_B_ShowRingsModel_at rfl dX12_fail_15 ?_
    refine lv_aload_n hx hb dX12_fail_18 rfl (lv_at hl 0 rfl) ?_
    refine xr_geti X hw (xf_X12_239 X) 0 xl_B_ShowRingsModel_at rfl dX12_fail_19 ?_
    refine xr_iald X hw 4 xl_B_ShowRingsModel_tPlace_at hB.1 dX12_fail_22 ?_
    replace hB := hB.2
    refine xr_puti X hw (xp_X12_242 X) 0 xl_B_ShowRingsModel_at rfl dX12_fail_23 hB (fun σ2 H locs hB hw => ?_)
    exact xr_vret X hw hr hk hB dX12_fail_26
  · replace hB := hB.2 hc
    exact xr_vret X hw hr hk hB dX12_fail_7
theorem xp_X12_239 {p : Program} {s : State} {m : MethodId} {args : Array Value} {c : Code} {cc : ByteArray} {nL : Nat} {D : va_G} {cy : Nat → ClassId} {lay : List xw_E} {q : Nat → Nat} (X : xr_X p s m args c cc nL RX12 D cy lay q) : xr_P args s RX12 239 12 11 := ⟨RX12, TX12, 77, tyX12, rfl, by decide, fun w h => X.2.2.2.2.1 w (xt_inX12 w h), tyX12_ok, nmX12, Or.inl (X.2.2.2.2.1 _ xt_4_184), rfl, by decide +kernel⟩
theorem xm_X12_fail : xr_MW yX12_fail cX12_fail 2 none 1 := ⟨xt_5_215, xt_1_13, by decide, by decide, by decide +kernel⟩
set_option maxRecDepth 100000 in
set_option maxHeartbeats 4000000 in
theorem xc_X12_next (l : Launch) (D : va_G) (cy : Nat → ClassId) (q : Nat → Nat) (σ : xw_M)  {Z : xw_M → Prop} (hU : xu_X12_next σ Z) : xr_CV l yX12_next cX12_next 1 { frames := 1, cells := 0, slots := 0, locals := 21 } D cy xl_B q σ [.ref (q 0)] Z := by
  refine xr_CV.of RX12 rfl (by decide) (Nat.le_of_ble_eq_true rfl) (fun p e s m below meth c X hw hr hk ls hl => ?_)
  have hx := X.1
  have hb := X.2.1
  have hl : lv_has ls 1 [(0, .ref (q 0))] := hl
  unfold xu_X12_next at hU
  have hB := hU
  refine lv_aload_n hx hb dX12_next_0 rfl (lv_at hl 0 rfl) ?_
  refine xr_geti X hw (xf_X12_239 X) 0 xl_B_ShowRingsModel_at rfl dX12_next_1 ?_
  refine lv_sipush (v := (400 : Int32)) hx hb dX12_next_4 (by decide) ?_
  refine lv_icmp_ne (tgt := 18) hx hb dX12_next_7 (by decide) (fun hc => ?_) (fun hc => ?_)
  · replace hB := hB.1 hc
    refine lv_aload_n hx hb dX12_next_18 rfl (lv_at hl 0 rfl) ?_
    refine lv_dup hx hb dX12_next_19 rfl ?_
    refine xr_geti X hw (xf_X12_239 X) 0 xl_B_ShowRingsModel_at rfl dX12_next_20 ?_
    refine lv_iconst (v := (1 : Int32)) hx hb dX12_next_23 (by decide) ?_
    refine lv_iadd hx hb dX12_next_24 ?_
    refine xr_puti X hw (xp_X12_239 X) 0 xl_B_ShowRingsModel_at rfl dX12_next_25 hB (fun σ1 H locs hB hw => ?_)
    exact xr_vret X hw hr hk hB dX12_next_28
  · replace hB := hB.2 hc
    refine lv_aload_n hx hb dX12_next_10 rfl (lv_at hl 0 rfl) ?_
    refine lv_iconst (v := (2 : Int32)) hx hb dX12_next_11 (by decide) ?_
    refine xr_v hw (xr_runV (As := [.int (2 : Int32)]) (rest := []) X hw 0 (xc_X12_fail l D cy q σ (2 : Int32) hB _) xm_X12_fail xt_5_212 xt_5_214 xt_p_35 ⟨Nat.le_of_ble_eq_true rfl, Nat.le_of_ble_eq_true rfl⟩ xl_B_ShowRingsModel_at rfl rfl rfl rfl hl.1 (Nat.le_of_ble_eq_true rfl) dX12_next_12 ⟨Nat.zero_le _, Nat.zero_le _⟩) (fun σ2 H locs hB hw => ?_)
    refine lv_goto (tgt := 28) hx hb dX12_next_15 (by decide) ?_
    exact xr_vret X hw hr hk hB dX12_next_28
