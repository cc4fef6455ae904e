theorem xm_X12_token : xr_MW yX12_token cX12_token 6 none 4 := ⟨xt_5_193, xt_1_13, by decide, by decide, by decide +kernel⟩
set_option maxRecDepth 100000 in
set_option maxHeartbeats 4000000 in
theorem xc_X12_sign (l : Launch) (D : va_G) (cy : Nat → ClassId) (q : Nat → Nat) (σ : xw_M) (a1 : Int32) (a2 : Int32) (a3 : Int32) {Z : Int32 → xw_M → Prop} (hU : xu_X12_sign σ a1 a2 a3 Z) : xr_CI l yX12_sign cX12_sign 6 .int { frames := 1, cells := 0, slots := 0, locals := 25 } D cy xl_B q σ [.ref (q 0), .int a1, .int a2, .int a3] Z := by
  refine xr_CI.of RX12 rfl (by decide) (Nat.le_of_ble_eq_true rfl) (fun p e s m below meth c X hw hr hk ls hl => ?_)
  have hx := X.1
  have hb := X.2.1
  have hl : lv_has ls 6 [(0, .ref (q 0)), (1, .int a1), (2, .int a2), (3, .int a3)] := hl
  have hB := hU (fun (σ : xw_M) (s0 : Int32) => ∀ (H : Heap) (locs : List Loc) (ls : Array Slot), xr_H D cy xl_B q s σ H locs → lv_has ls 6 [(0, .ref (q 0)), (1, .int a1), (2, .int a2)] → W p l e ({ frames := 1, cells := 0, slots := 0, locals := 25 } : Room) s m ([.ref (q 0), .int a1, .int a2, .int a3] : List Value).toArray below meth c H locs 0 0 (MQ below (va_Qi Z (xr_po D cy xl_B q) (xw_A xl_B q s.heap.size)) ([.ref (q 0), .int a1, .int a2, .int a3] : List Value).toArray s 0 0 (xw_A xl_B q s.heap.size)) (F0 m 44 ls [.int s0]))
    (fun (σ : xw_M) (v4 : Int32) (v5 : Int32) => ∀ (H : Heap) (locs : List Loc) (ls : Array Slot), xr_H D cy xl_B q s σ H locs → lv_has ls 6 [(0, .ref (q 0)), (1, .int a1), (4, .int v4), (5, .int v5)] → W p l e ({ frames := 1, cells := 0, slots := 0, locals := 25 } : Room) s m ([.ref (q 0), .int a1, .int a2, .int a3] : List Value).toArray below meth c H locs 0 0 (MQ below (va_Qi Z (xr_po D cy xl_B q) (xw_A xl_B q s.heap.size)) ([.ref (q 0), .int a1, .int a2, .int a3] : List Value).toArray s 0 0 (xw_A xl_B q s.heap.size)) (F0 m 148 ls []))
    (by
    intro σ s0 hB H locs ls hw hl
    unfold xb_X12_sign_44 at hB
    refine lv_istore (lv' := [(4, .int s0), (0, .ref (q 0)), (1, .int a1), (2, .int a2)]) hx hb dX12_sign_44 hl (by decide) rfl (fun ls hl => ?_)
    refine lv_iconst (v := (3 : Int32)) hx hb dX12_sign_46 (by decide) ?_
    refine lv_istore (lv' := [(5, .int (3 : Int32)), (4, .int s0), (0, .ref (q 0)), (1, .int a1), (2, .int a2)]) hx hb dX12_sign_47 hl (by decide) rfl (fun ls hl => ?_)
    refine lv_iload hx hb dX12_sign_49 (lv_at hl 1 rfl) ?_
    refine lv_if_le (tgt := 61) hx hb dX12_sign_51 (by decide) (fun hc => ?_) (fun hc => ?_)
    · replace hB := hB.1 hc
      refine lv_iload_n hx hb dX12_sign_61 rfl (lv_at hl 4 rfl) ?_
      refine lv_bipush (v := (59 : Int32)) hx hb dX12_sign_62 (by decide) ?_
      refine lv_icmp_ne (tgt := 73) hx hb dX12_sign_64 (by decide) (fun hc => ?_) (fun hc => ?_)
      · replace hB := hB.1 hc
        refine lv_iload_n hx hb dX12_sign_73 rfl (lv_at hl 4 rfl) ?_
        refine lv_bipush (v := (40 : Int32)) hx hb dX12_sign_74 (by decide) ?_
        refine lv_icmp_ne (tgt := 86) hx hb dX12_sign_76 (by decide) (fun hc => ?_) (fun hc => ?_)
        · replace hB := hB.1 hc
          refine lv_iload_n hx hb dX12_sign_86 rfl (lv_at hl 4 rfl) ?_
          refine lv_bipush (v := (41 : Int32)) hx hb dX12_sign_87 (by decide) ?_
          refine lv_icmp_ne (tgt := 99) hx hb dX12_sign_89 (by decide) (fun hc => ?_) (fun hc => ?_)
          · replace hB := hB.1 hc
            refine lv_iload_n hx hb dX12_sign_99 rfl (lv_at hl 4 rfl) ?_
            refine lv_bipush (v := (43 : Int32)) hx hb dX12_sign_100 (by decide) ?_
            refine lv_icmp_ne (tgt := 112) hx hb dX12_sign_102 (by decide) (fun hc => ?_) (fun hc => ?_)
            · replace hB := hB.1 hc
              refine lv_iload_n hx hb dX12_sign_112 rfl (lv_at hl 4 rfl) ?_
              refine lv_bipush (v := (45 : Int32)) hx hb dX12_sign_113 (by decide) ?_
              refine lv_icmp_ne (tgt := 125) hx hb dX12_sign_115 (by decide) (fun hc => ?_) (fun hc => ?_)
              · replace hB := hB.1 hc
                refine lv_iload_n hx hb dX12_sign_125 rfl (lv_at hl 4 rfl) ?_
                refine lv_bipush (v := (42 : Int32)) hx hb dX12_sign_126 (by decide) ?_
                refine lv_icmp_ne (tgt := 138) hx hb dX12_sign_128 (by decide) (fun hc => ?_) (fun hc => ?_)
                · replace hB := hB.1 hc
                  refine lv_iload_n hx hb dX12_sign_138 rfl (lv_at hl 4 rfl) ?_
                  refine lv_bipush (v := (60 : Int32)) hx hb dX12_sign_139 (by decide) ?_
                  refine lv_icmp_ne (tgt := 148) hx hb dX12_sign_141 (by decide) (fun hc => ?_) (fun hc => ?_)
                  · replace hB := hB.1 hc
                    exact hB _ _ _ hw (lv_sub hl [2, 3, 1, 0] rfl)
                  · replace hB := hB.2 hc
                    refine lv_bipush (v := (13 : Int32)) hx hb dX12_sign_144 (by decide) ?_
                    refine lv_istore (lv' := [(5, .int (13 : Int32)), (4, .int s0), (0, .ref (q 0)), (1, .int a1), (2, .int a2)]) hx hb dX12_sign_146 hl (by decide) rfl (fun ls hl => ?_)
                    exact hB _ _ _ hw (lv_sub hl [2, 3, 1, 0] rfl)
                · replace hB := hB.2 hc
                  refine lv_bipush (v := (10 : Int32)) hx hb dX12_sign_131 (by decide) ?_
                  refine lv_istore (lv' := [(5, .int (10 : Int32)), (4, .int s0), (0, .ref (q 0)), (1, .int a1), (2, .int a2)]) hx hb dX12_sign_133 hl (by decide) rfl (fun ls hl => ?_)
                  refine lv_goto (tgt := 148) hx hb dX12_sign_135 (by decide) ?_
                  exact hB _ _ _ hw (lv_sub hl [2, 3, 1, 0] rfl)
              · replace hB := hB.2 hc
                refine lv_bipush (v := (9 : Int32)) hx hb dX12_sign_118 (by decide) ?_
                refine lv_istore (lv' := [(5, .int (9 : Int32)), (4, .int s0), (0, .ref (q 0)), (1, .int a1), (2, .int a2)]) hx hb dX12_sign_120 hl (by decide) rfl (fun ls hl => ?_)
                refine lv_goto (tgt := 148) hx hb dX12_sign_122 (by decide) ?_
                exact hB _ _ _ hw (lv_sub hl [2, 3, 1, 0] rfl)
            · replace hB := hB.2 hc
              refine lv_bipush (v := (8 : Int32)) hx hb dX12_sign_105 (by decide) ?_
              refine lv_istore (lv' := [(5, .int (8 : Int32)), (4, .int s0), (0, .ref (q 0)), (1, .int a1), (2, .int a2)]) hx hb dX12_sign_107 hl (by decide) rfl (fun ls hl => ?_)
              refine lv_goto (tgt := 148) hx hb dX12_sign_109 (by decide) ?_
              exact hB _ _ _ hw (lv_sub hl [2, 3, 1, 0] rfl)
          · replace hB := hB.2 hc
            refine lv_bipush (v := (7 : Int32)) hx hb dX12_sign_92 (by decide) ?_
            refine lv_istore (lv' := [(5, .int (7 : Int32)), (4, .int s0), (0, .ref (q 0)), (1, .int a1), (2, .int a2)]) hx hb dX12_sign_94 hl (by decide) rfl (fun ls hl => ?_)
            refine lv_goto (tgt := 148) hx hb dX12_sign_96 (by decide) ?_
            exact hB _ _ _ hw (lv_sub hl [2, 3, 1, 0] rfl)
        · replace hB := hB.2 hc
          refine lv_bipush (v := (6 : Int32)) hx hb dX12_sign_79 (by decide) ?_
          refine lv_istore (lv' := [(5, .int (6 : Int32)), (4, .int s0), (0, .ref (q 0)), (1, .int a1), (2, .int a2)]) hx hb dX12_sign_81 hl (by decide) rfl (fun ls hl => ?_)
          refine lv_goto (tgt := 148) hx hb dX12_sign_83 (by decide) ?_
          exact hB _ _ _ hw (lv_sub hl [2, 3, 1, 0] rfl)
      · replace hB := hB.2 hc
        refine lv_iconst (v := (4 : Int32)) hx hb dX12_sign_67 (by decide) ?_
        refine lv_istore (lv' := [(5, .int (4 : Int32)), (4, .int s0), (0, .ref (q 0)), (1, .int a1), (2, .int a2)]) hx hb dX12_sign_68 hl (by decide) rfl (fun ls hl => ?_)
        refine lv_goto (tgt := 148) hx hb dX12_sign_70 (by decide) ?_
        exact hB _ _ _ hw (lv_sub hl [2, 3, 1, 0] rfl)
    · replace hB := hB.2 hc
      refine lv_iload hx hb dX12_sign_54 (lv_at hl 1 rfl) ?_
      refine lv_istore (lv' := [(5, .int s0), (4, .int s0), (0, .ref (q 0)), (1, .int a1), (2, .int a2)]) hx hb dX12_sign_56 hl (by decide) rfl (fun ls hl => ?_)
      refine lv_goto (tgt := 148) hx hb dX12_sign_58 (by decide) ?_
      exact hB _ _ _ hw (lv_sub hl [2, 3, 1, 0] rfl))
    (by
    intro σ v4 v5 hB H locs ls hw hl
    unfold xb_X12_sign_148 at hB
    refine lv_aload_n hx hb dX12_sign_148 rfl (lv_at hl 0 rfl) ?_
    refine lv_iload hx hb dX12_sign_149 (lv_at hl 3 rfl) ?_
    refine lv_iload_n hx hb dX12_sign_151 rfl (lv_at hl 1 rfl) ?_
    refine lv_iconst (v := (0 : Int32)) hx hb dX12_sign_152 (by decide) ?_
    refine lv_lconst (v := 0) hx hb dX12_sign_153 (by decide) ?_
    refine xr_v hw (xr_runV (As := [.int v5, .int a1, .int (0 : Int32), .long (0 : Int64)]) (rest := []) X hw 0 (xc_X12_token l D cy q σ v5 a1 (0 : Int32) (0 : Int64) hB _) xm_X12_token xt_5_190 xt_5_192 xt_p_31 ⟨Nat.le_of_ble_eq_true rfl, Nat.le_of_ble_eq_true rfl⟩ xl_B_ShowRingsModel_at rfl rfl rfl rfl hl.1 (Nat.le_of_ble_eq_true rfl) dX12_sign_154 ⟨Nat.zero_le _, Nat.zero_le _⟩) (fun σ1 H locs hB hw => ?_)
    refine lv_iload hx hb dX12_sign_157 (lv_at hl 2 rfl) ?_
    refine lv_if_le (tgt := 166) hx hb dX12_sign_159 (by decide) (fun hc => ?_) (fun hc => ?_)
    · replace hB := hB.1 hc
      refine lv_iconst (v := (1 : Int32)) hx hb dX12_sign_166 (by decide) ?_
      exact xr_iret X hw hr hk hB dX12_sign_167
    · replace hB := hB.2 hc
      refine lv_iconst (v := (2 : Int32)) hx hb dX12_sign_162 (by decide) ?_
      refine lv_goto (tgt := 167) hx hb dX12_sign_163 (by decide) ?_
      exact xr_iret X hw hr hk hB dX12_sign_167)
  unfold xb_X12_sign_e at hB
  refine lv_iload_n hx hb dX12_sign_0 rfl (lv_at hl 3 rfl) ?_
  refine lv_bipush (v := (61 : Int32)) hx hb dX12_sign_1 (by decide) ?_
  refine lv_icmp_eq (tgt := 10) hx hb dX12_sign_3 (by decide) (fun hc => ?_) (fun hc => ?_)
  · replace hB := hB.1 hc
    refine lv_iload_n hx hb dX12_sign_10 rfl (lv_at hl 2 rfl) ?_
    refine lv_bipush (v := (61 : Int32)) hx hb dX12_sign_11 (by decide) ?_
    refine lv_icmp_ne (tgt := 21) hx hb dX12_sign_13 (by decide) (fun hc => ?_) (fun hc => ?_)
    · replace hB := hB.1 hc
      refine lv_iload_n hx hb dX12_sign_21 rfl (lv_at hl 2 rfl) ?_
      refine lv_bipush (v := (33 : Int32)) hx hb dX12_sign_22 (by decide) ?_
      refine lv_icmp_ne (tgt := 32) hx hb dX12_sign_24 (by decide) (fun hc => ?_) (fun hc => ?_)
      · replace hB := hB.1 hc
        refine lv_iload_n hx hb dX12_sign_32 rfl (lv_at hl 2 rfl) ?_
        refine lv_bipush (v := (60 : Int32)) hx hb dX12_sign_33 (by decide) ?_
        refine lv_icmp_ne (tgt := 43) hx hb dX12_sign_35 (by decide) (fun hc => ?_) (fun hc => ?_)
        · replace hB := hB.1 hc
          refine lv_iconst (v := (0 : Int32)) hx hb dX12_sign_43 (by decide) ?_
          exact hB _ _ _ hw (lv_sub hl [0, 1, 2] rfl)
        · replace hB := hB.2 hc
          refine lv_bipush (v := (14 : Int32)) hx hb dX12_sign_38 (by decide) ?_
          refine lv_goto (tgt := 44) hx hb dX12_sign_40 (by decide) ?_
          exact hB _ _ _ hw (lv_sub hl [0, 1, 2] rfl)
      · replace hB := hB.2 hc
        refine lv_bipush (v := (12 : Int32)) hx hb dX12_sign_27 (by decide) ?_
        refine lv_goto (tgt := 44) hx hb dX12_sign_29 (by decide) ?_
        exact hB _ _ _ hw (lv_sub hl [0, 1, 2] rfl)
    · replace hB := hB.2 hc
      refine lv_bipush (v := (11 : Int32)) hx hb dX12_sign_16 (by decide) ?_
      refine lv_goto (tgt := 44) hx hb dX12_sign_18 (by decide) ?_
      exact hB _ _ _ hw (lv_sub hl [0, 1, 2] rfl)
  · replace hB := hB.2 hc
    refine lv_iconst (v := (0 : Int32)) hx hb dX12_sign_6 (by decide) ?_
    refine lv_goto (tgt := 44) hx hb dX12_sign_7 (by decide) ?_
    exact hB _ _ _ hw (lv_sub hl [0, 1, 2] rfl)
