theorem xm_X12_isShow : xr_MW yX12_isShow cX12_isShow 2 (some .boolean) 1 := ⟨xt_6_49, xt_1_13, by decide, by decide, by decide +kernel⟩
theorem xm_X12_isDog : xr_MW yX12_isDog cX12_isDog 2 (some .boolean) 1 := ⟨xt_6_53, xt_1_13, by decide, by decide, by decide +kernel⟩
theorem xm_X12_tells : xr_MW yX12_tells cX12_tells 6 (some .int) 5 := ⟨xt_6_57, xt_1_13, by decide, by decide, by decide +kernel⟩
set_option maxRecDepth 100000 in
set_option maxHeartbeats 4000000 in
theorem xc_X12_fact (l : Launch) (D : va_G) (cy : Nat → ClassId) (q : Nat → Nat) (σ : xw_M) (a1 : Int32) (a2 : Int32) (a3 : Int32) (a4 : Int32) {Z : Int32 → xw_M → Prop} (hU : xu_X12_fact σ a1 a2 a3 a4 Z) : xr_CI l yX12_fact cX12_fact 5 .int { frames := 1, cells := 0, slots := 0, locals := 25 } D cy xl_B q σ [.ref (q 0), .int a1, .int a2, .int a3, .int a4] Z := by
  refine xr_CI.of RX12 rfl (by decide) (Nat.le_of_ble_eq_true rfl) (fun p e s m below meth c X hw hr hk ls hl => ?_)
  have hx := X.1
  have hb := X.2.1
  have hl : lv_has ls 5 [(0, .ref (q 0)), (1, .int a1), (2, .int a2), (3, .int a3), (4, .int a4)] := hl
  unfold xu_X12_fact at hU
  have hB := hU
  refine lv_aload_n hx hb dX12_fact_0 rfl (lv_at hl 0 rfl) ?_
  refine xr_geti X hw (xf_X12_311 X) 0 xl_B_ShowRingsModel_at rfl dX12_fact_1 ?_
  refine lv_sipush (v := (200 : Int32)) hx hb dX12_fact_4 (by decide) ?_
  refine lv_icmp_eq (tgt := 35) hx hb dX12_fact_7 (by decide) (fun hc => ?_) (fun hc => ?_)
  · replace hB := hB.1 hc
    refine lv_iconst (v := (-1 : Int32)) hx hb dX12_fact_35 (by decide) ?_
    exact xr_iret X hw hr hk hB dX12_fact_36
  · replace hB := hB.2 hc
    refine lv_iload_n hx hb dX12_fact_10 rfl (lv_at hl 1 rfl) ?_
    refine lv_if_lt (tgt := 35) hx hb dX12_fact_11 (by decide) (fun hc => ?_) (fun hc => ?_)
    · replace hB := hB.1 hc
      refine lv_iconst (v := (-1 : Int32)) hx hb dX12_fact_35 (by decide) ?_
      exact xr_iret X hw hr hk hB dX12_fact_36
    · replace hB := hB.2 hc
      refine lv_iload_n hx hb dX12_fact_14 rfl (lv_at hl 1 rfl) ?_
      refine lv_iconst (v := (3 : Int32)) hx hb dX12_fact_15 (by decide) ?_
      refine lv_icmp_gt (tgt := 35) hx hb dX12_fact_16 (by decide) (fun hc => ?_) (fun hc => ?_)
      · replace hB := hB.1 hc
        refine lv_iconst (v := (-1 : Int32)) hx hb dX12_fact_35 (by decide) ?_
        exact xr_iret X hw hr hk hB dX12_fact_36
      · replace hB := hB.2 hc
        refine lv_aload_n hx hb dX12_fact_19 rfl (lv_at hl 0 rfl) ?_
        refine lv_iload_n hx hb dX12_fact_20 rfl (lv_at hl 2 rfl) ?_
        refine xr_i hw (xr_runV (As := [.int a2]) (rest := []) X hw 0 (xc_X12_isShow l D cy q σ a2 hB _) xm_X12_isShow xt_6_46 xt_6_48 xt_p_44 ⟨Nat.le_of_ble_eq_true rfl, Nat.le_of_ble_eq_true rfl⟩ xl_B_ShowRingsModel_at rfl rfl rfl rfl hl.1 (Nat.le_of_ble_eq_true rfl) dX12_fact_21 ⟨Nat.zero_le _, Nat.zero_le _⟩) (fun r2 σ1 H locs hB hw => ?_)
        refine lv_if_eq (tgt := 35) hx hb dX12_fact_24 (by decide) (fun hc => ?_) (fun hc => ?_)
        · replace hB := hB.1 hc
          refine lv_iconst (v := (-1 : Int32)) hx hb dX12_fact_35 (by decide) ?_
          exact xr_iret X hw hr hk hB dX12_fact_36
        · replace hB := hB.2 hc
          refine lv_aload_n hx hb dX12_fact_27 rfl (lv_at hl 0 rfl) ?_
          refine lv_iload_n hx hb dX12_fact_28 rfl (lv_at hl 3 rfl) ?_
          refine xr_i hw (xr_runV (As := [.int a3]) (rest := []) X hw 0 (xc_X12_isDog l D cy q σ1 a3 hB _) xm_X12_isDog xt_6_50 xt_6_52 xt_p_45 ⟨Nat.le_of_ble_eq_true rfl, Nat.le_of_ble_eq_true rfl⟩ xl_B_ShowRingsModel_at rfl rfl rfl rfl hl.1 (Nat.le_of_ble_eq_true rfl) dX12_fact_29 ⟨Nat.zero_le _, Nat.zero_le _⟩) (fun r4 σ3 H locs hB hw => ?_)
          refine lv_if_ne (tgt := 37) hx hb dX12_fact_32 (by decide) (fun hc => ?_) (fun hc => ?_)
          · replace hB := hB.1 hc
            refine lv_aload_n hx hb dX12_fact_37 rfl (lv_at hl 0 rfl) ?_
            refine lv_iload_n hx hb dX12_fact_38 rfl (lv_at hl 1 rfl) ?_
            refine lv_iload_n hx hb dX12_fact_39 rfl (lv_at hl 2 rfl) ?_
            refine lv_iload_n hx hb dX12_fact_40 rfl (lv_at hl 3 rfl) ?_
            refine lv_iload hx hb dX12_fact_41 (lv_at hl 4 rfl) ?_
            refine lv_iload_n hx hb dX12_fact_43 rfl (lv_at hl 1 rfl) ?_
            refine lv_if_ne (tgt := 68) hx hb dX12_fact_44 (by decide) (fun hc => ?_) (fun hc => ?_)
            · replace hB := hB.1 hc
              refine lv_iload_n hx hb dX12_fact_68 rfl (lv_at hl 1 rfl) ?_
              refine lv_iconst (v := (3 : Int32)) hx hb dX12_fact_69 (by decide) ?_
              refine lv_icmp_ne (tgt := 93) hx hb dX12_fact_70 (by decide) (fun hc => ?_) (fun hc => ?_)
              · replace hB := hB.1 hc
                refine lv_iload hx hb dX12_fact_93 (lv_at hl 4 rfl) ?_
                refine lv_if_ne (tgt := 102) hx hb dX12_fact_95 (by decide) (fun hc => ?_) (fun hc => ?_)
                · replace hB := hB.1 hc
                  refine lv_iconst (v := (0 : Int32)) hx hb dX12_fact_102 (by decide) ?_
                  refine xr_i hw (xr_runV (As := [.int a1, .int a2, .int a3, .int a4, .int (0 : Int32)]) (rest := []) X hw 0 (xc_X12_tells l D cy q σ3 a1 a2 a3 a4 (0 : Int32) hB _) xm_X12_tells xt_6_54 xt_6_56 xt_p_46 ⟨Nat.le_of_ble_eq_true rfl, Nat.le_of_ble_eq_true rfl⟩ xl_B_ShowRingsModel_at rfl rfl rfl rfl hl.1 (Nat.le_of_ble_eq_true rfl) dX12_fact_103 ⟨Nat.zero_le _, Nat.zero_le _⟩) (fun r6 σ5 H locs hB hw => ?_)
                  exact xr_iret X hw hr hk hB dX12_fact_106
                · replace hB := hB.2 hc
                  refine lv_iconst (v := (1 : Int32)) hx hb dX12_fact_98 (by decide) ?_
                  refine lv_goto (tgt := 103) hx hb dX12_fact_99 (by decide) ?_
                  refine xr_i hw (xr_runV (As := [.int a1, .int a2, .int a3, .int a4, .int (1 : Int32)]) (rest := []) X hw 0 (xc_X12_tells l D cy q σ3 a1 a2 a3 a4 (1 : Int32) hB _) xm_X12_tells xt_6_54 xt_6_56 xt_p_46 ⟨Nat.le_of_ble_eq_true rfl, Nat.le_of_ble_eq_true rfl⟩ xl_B_ShowRingsModel_at rfl rfl rfl rfl hl.1 (Nat.le_of_ble_eq_true rfl) dX12_fact_103 ⟨Nat.zero_le _, Nat.zero_le _⟩) (fun r8 σ7 H locs hB hw => ?_)
                  exact xr_iret X hw hr hk hB dX12_fact_106
              · replace hB := hB.2 hc
                refine lv_iload hx hb dX12_fact_73 (lv_at hl 4 rfl) ?_
                refine lv_if_lt (tgt := 89) hx hb dX12_fact_75 (by decide) (fun hc => ?_) (fun hc => ?_)
                · replace hB := hB.1 hc
                  refine lv_iconst (v := (0 : Int32)) hx hb dX12_fact_89 (by decide) ?_
                  refine lv_goto (tgt := 103) hx hb dX12_fact_90 (by decide) ?_
                  refine xr_i hw (xr_runV (As := [.int a1, .int a2, .int a3, .int a4, .int (0 : Int32)]) (rest := []) X hw 0 (xc_X12_tells l D cy q σ3 a1 a2 a3 a4 (0 : Int32) hB _) xm_X12_tells xt_6_54 xt_6_56 xt_p_46 ⟨Nat.le_of_ble_eq_true rfl, Nat.le_of_ble_eq_true rfl⟩ xl_B_ShowRingsModel_at rfl rfl rfl rfl hl.1 (Nat.le_of_ble_eq_true rfl) dX12_fact_103 ⟨Nat.zero_le _, Nat.zero_le _⟩) (fun r10 σ9 H locs hB hw => ?_)
                  exact xr_iret X hw hr hk hB dX12_fact_106
                · replace hB := hB.2 hc
                  refine lv_iload hx hb dX12_fact_78 (lv_at hl 4 rfl) ?_
                  refine lv_bipush (v := (99 : Int32)) hx hb dX12_fact_80 (by decide) ?_
                  refine lv_icmp_gt (tgt := 89) hx hb dX12_fact_82 (by decide) (fun hc => ?_) (fun hc => ?_)
                  · replace hB := hB.1 hc
                    refine lv_iconst (v := (0 : Int32)) hx hb dX12_fact_89 (by decide) ?_
                    refine lv_goto (tgt := 103) hx hb dX12_fact_90 (by decide) ?_
                    refine xr_i hw (xr_runV (As := [.int a1, .int a2, .int a3, .int a4, .int (0 : Int32)]) (rest := []) X hw 0 (xc_X12_tells l D cy q σ3 a1 a2 a3 a4 (0 : Int32) hB _) xm_X12_tells xt_6_54 xt_6_56 xt_p_46 ⟨Nat.le_of_ble_eq_true rfl, Nat.le_of_ble_eq_true rfl⟩ xl_B_ShowRingsModel_at rfl rfl rfl rfl hl.1 (Nat.le_of_ble_eq_true rfl) dX12_fact_103 ⟨Nat.zero_le _, Nat.zero_le _⟩) (fun r12 σ11 H locs hB hw => ?_)
                    exact xr_iret X hw hr hk hB dX12_fact_106
                  · replace hB := hB.2 hc
                    refine lv_iconst (v := (1 : Int32)) hx hb dX12_fact_85 (by decide) ?_
                    refine lv_goto (tgt := 103) hx hb dX12_fact_86 (by decide) ?_
                    refine xr_i hw (xr_runV (As := [.int a1, .int a2, .int a3, .int a4, .int (1 : Int32)]) (rest := []) X hw 0 (xc_X12_tells l D cy q σ3 a1 a2 a3 a4 (1 : Int32) hB _) xm_X12_tells xt_6_54 xt_6_56 xt_p_46 ⟨Nat.le_of_ble_eq_true rfl, Nat.le_of_ble_eq_true rfl⟩ xl_B_ShowRingsModel_at rfl rfl rfl rfl hl.1 (Nat.le_of_ble_eq_true rfl) dX12_fact_103 ⟨Nat.zero_le _, Nat.zero_le _⟩) (fun r14 σ13 H locs hB hw => ?_)
                    exact xr_iret X hw hr hk hB dX12_fact_106
            · replace hB := hB.2 hc
              refine lv_iload hx hb dX12_fact_47 (lv_at hl 4 rfl) ?_
              refine lv_iconst (v := (1 : Int32)) hx hb dX12_fact_49 (by decide) ?_
              refine lv_icmp_lt (tgt := 64) hx hb dX12_fact_50 (by decide) (fun hc => ?_) (fun hc => ?_)
              · replace hB := hB.1 hc
                refine lv_iconst (v := (0 : Int32)) hx hb dX12_fact_64 (by decide) ?_
                refine lv_goto (tgt := 103) hx hb dX12_fact_65 (by decide) ?_
                refine xr_i hw (xr_runV (As := [.int a1, .int a2, .int a3, .int a4, .int (0 : Int32)]) (rest := []) X hw 0 (xc_X12_tells l D cy q σ3 a1 a2 a3 a4 (0 : Int32) hB _) xm_X12_tells xt_6_54 xt_6_56 xt_p_46 ⟨Nat.le_of_ble_eq_true rfl, Nat.le_of_ble_eq_true rfl⟩ xl_B_ShowRingsModel_at rfl rfl rfl rfl hl.1 (Nat.le_of_ble_eq_true rfl) dX12_fact_103 ⟨Nat.zero_le _, Nat.zero_le _⟩) (fun r16 σ15 H locs hB hw => ?_)
                exact xr_iret X hw hr hk hB dX12_fact_106
              · replace hB := hB.2 hc
                refine lv_iload hx hb dX12_fact_53 (lv_at hl 4 rfl) ?_
                refine lv_bipush (v := (20 : Int32)) hx hb dX12_fact_55 (by decide) ?_
                refine lv_icmp_gt (tgt := 64) hx hb dX12_fact_57 (by decide) (fun hc => ?_) (fun hc => ?_)
                · replace hB := hB.1 hc
                  refine lv_iconst (v := (0 : Int32)) hx hb dX12_fact_64 (by decide) ?_
                  refine lv_goto (tgt := 103) hx hb dX12_fact_65 (by decide) ?_
                  refine xr_i hw (xr_runV (As := [.int a1, .int a2, .int a3, .int a4, .int (0 : Int32)]) (rest := []) X hw 0 (xc_X12_tells l D cy q σ3 a1 a2 a3 a4 (0 : Int32) hB _) xm_X12_tells xt_6_54 xt_6_56 xt_p_46 ⟨Nat.le_of_ble_eq_true rfl, Nat.le_of_ble_eq_true rfl⟩ xl_B_ShowRingsModel_at rfl rfl rfl rfl hl.1 (Nat.le_of_ble_eq_true rfl) dX12_fact_103 ⟨Nat.zero_le _, Nat.zero_le _⟩) (fun r18 σ17 H locs hB hw => ?_)
                  exact xr_iret X hw hr hk hB dX12_fact_106
                · replace hB := hB.2 hc
                  refine lv_iconst (v := (1 : Int32)) hx hb dX12_fact_60 (by decide) ?_
                  refine lv_goto (tgt := 103) hx hb dX12_fact_61 (by decide) ?_
                  refine xr_i hw (xr_runV (As := [.int a1, .int a2, .int a3, .int a4, .int (1 : Int32)]) (rest := []) X hw 0 (xc_X12_tells l D cy q σ3 a1 a2 a3 a4 (1 : Int32) hB _) xm_X12_tells xt_6_54 xt_6_56 xt_p_46 ⟨Nat.le_of_ble_eq_true rfl, Nat.le_of_ble_eq_true rfl⟩ xl_B_ShowRingsModel_at rfl rfl rfl rfl hl.1 (Nat.le_of_ble_eq_true rfl) dX12_fact_103 ⟨Nat.zero_le _, Nat.zero_le _⟩) (fun r20 σ19 H locs hB hw => ?_)
                  exact xr_iret X hw hr hk hB dX12_fact_106
          · replace hB := hB.2 hc
            refine lv_iconst (v := (-1 : Int32)) hx hb dX12_fact_35 (by decide) ?_
            exact xr_iret X hw hr hk hB dX12_fact_36
set_option maxRecDepth 100000 in
set_option maxHeartbeats 4000000 in
theorem xc_X12_owned (l : Launch) (D : va_G) (cy : Nat → ClassId) (q : Nat → Nat) (σ : xw_M) (a1 : Int32) (a2 : Int32) (a3 : Int32) {Z : Int32 → xw_M → Prop} (hU : xu_X12_owned σ a1 a2 a3 Z) : xr_CI l yX12_owned cX12_owned 4 .int { frames := 1, cells := 0, slots := 0, locals := 25 } D cy xl_B q σ [.ref (q 0), .int a1, .int a2, .int a3] Z := by
  refine xr_CI.of RX12 rfl (by decide) (Nat.le_of_ble_eq_true rfl) (fun p e s m below meth c X hw hr hk ls hl => ?_)
  have hx := X.1
  have hb := X.2.1
  have hl : lv_has ls 4 [(0, .ref (q 0)), (1, .int a1), (2, .int a2), (3, .int a3)] := hl
  unfold xu_X12_owned at hU
  have hB := hU
  refine lv_aload_n hx hb dX12_owned_0 rfl (lv_at hl 0 rfl) ?_
  refine xr_geti X hw (xf_X12_311 X) 0 xl_B_ShowRingsModel_at rfl dX12_owned_1 ?_
  refine lv_sipush (v := (200 : Int32)) hx hb dX12_owned_4 (by decide) ?_
  refine lv_icmp_eq (tgt := 32) hx hb dX12_owned_7 (by decide) (fun hc => ?_) (fun hc => ?_)
  · replace hB := hB.1 hc
    refine lv_iconst (v := (-1 : Int32)) hx hb dX12_owned_32 (by decide) ?_
    exact xr_iret X hw hr hk hB dX12_owned_33
  · replace hB := hB.2 hc
    refine lv_aload_n hx hb dX12_owned_10 rfl (lv_at hl 0 rfl) ?_
    refine lv_iload_n hx hb dX12_owned_11 rfl (lv_at hl 1 rfl) ?_
    refine xr_i hw (xr_runV (As := [.int a1]) (rest := []) X hw 0 (xc_X12_isDog l D cy q σ a1 hB _) xm_X12_isDog xt_6_50 xt_6_52 xt_p_45 ⟨Nat.le_of_ble_eq_true rfl, Nat.le_of_ble_eq_true rfl⟩ xl_B_ShowRingsModel_at rfl rfl rfl rfl hl.1 (Nat.le_of_ble_eq_true rfl) dX12_owned_12 ⟨Nat.zero_le _, Nat.zero_le _⟩) (fun r2 σ1 H locs hB hw => ?_)
    refine lv_if_eq (tgt := 32) hx hb dX12_owned_15 (by decide) (fun hc => ?_) (fun hc => ?_)
    · replace hB := hB.1 hc
      refine lv_iconst (v := (-1 : Int32)) hx hb dX12_owned_32 (by decide) ?_
      exact xr_iret X hw hr hk hB dX12_owned_33
    · replace hB := hB.2 hc
      refine lv_iload_n hx hb dX12_owned_18 rfl (lv_at hl 2 rfl) ?_
      refine xr_i hw (xr_runS (As := [.int a2]) (rest := []) X hw (xc_X12_isPerson l D cy q σ1 a2 hB _) xm_X12_isPerson xt_6_12 xt_6_13 ⟨Nat.le_of_ble_eq_true rfl, Nat.le_of_ble_eq_true rfl⟩ rfl rfl hl.1 (Nat.le_of_ble_eq_true rfl) dX12_owned_19 ⟨Nat.zero_le _, Nat.zero_le _⟩) (fun r4 σ3 H locs hB hw => ?_)
      refine lv_if_eq (tgt := 32) hx hb dX12_owned_22 (by decide) (fun hc => ?_) (fun hc => ?_)
      · replace hB := hB.1 hc
        refine lv_iconst (v := (-1 : Int32)) hx hb dX12_owned_32 (by decide) ?_
        exact xr_iret X hw hr hk hB dX12_owned_33
      · replace hB := hB.2 hc
        refine lv_iload_n hx hb dX12_owned_25 rfl (lv_at hl 3 rfl) ?_
        refine xr_i hw (xr_runS (As := [.int a3]) (rest := []) X hw (xc_X12_isDay l D cy q σ3 a3 hB _) xm_X12_isDay xt_6_27 xt_6_28 ⟨Nat.le_of_ble_eq_true rfl, Nat.le_of_ble_eq_true rfl⟩ rfl rfl hl.1 (Nat.le_of_ble_eq_true rfl) dX12_owned_26 ⟨Nat.zero_le _, Nat.zero_le _⟩) (fun r6 σ5 H locs hB hw => ?_)
        refine lv_if_ne (tgt := 34) hx hb dX12_owned_29 (by decide) (fun hc => ?_) (fun hc => ?_)
        · replace hB := hB.1 hc
          refine lv_aload_n hx hb dX12_owned_34 rfl (lv_at hl 0 rfl) ?_
          refine lv_iconst (v := (4 : Int32)) hx hb dX12_owned_35 (by decide) ?_
          refine lv_iload_n hx hb dX12_owned_36 rfl (lv_at hl 3 rfl) ?_
          refine lv_iload_n hx hb dX12_owned_37 rfl (lv_at hl 1 rfl) ?_
          refine lv_iload_n hx hb dX12_owned_38 rfl (lv_at hl 2 rfl) ?_
          refine lv_iconst (v := (1 : Int32)) hx hb dX12_owned_39 (by decide) ?_
          refine xr_i hw (xr_runV (As := [.int (4 : Int32), .int a3, .int a1, .int a2, .int (1 : Int32)]) (rest := []) X hw 0 (xc_X12_tells l D cy q σ5 (4 : Int32) a3 a1 a2 (1 : Int32) hB _) xm_X12_tells xt_6_54 xt_6_56 xt_p_46 ⟨Nat.le_of_ble_eq_true rfl, Nat.le_of_ble_eq_true rfl⟩ xl_B_ShowRingsModel_at rfl rfl rfl rfl hl.1 (Nat.le_of_ble_eq_true rfl) dX12_owned_40 ⟨Nat.zero_le _, Nat.zero_le _⟩) (fun r8 σ7 H locs hB hw => ?_)
          exact xr_iret X hw hr hk hB dX12_owned_43
        · replace hB := hB.2 hc
          refine lv_iconst (v := (-1 : Int32)) hx hb dX12_owned_32 (by decide) ?_
          exact xr_iret X hw hr hk hB dX12_owned_33
set_option maxRecDepth 100000 in
set_option maxHeartbeats 4000000 in
theorem xc_X12_ownedBy (l : Launch) (D : va_G) (cy : Nat → ClassId) (q : Nat → Nat) (σ : xw_M) (a1 : Int32) (a2 : Int32) (a3 : Int32) {Z : Int32 → xw_M → Prop} (hU : xu_X12_ownedBy σ a1 a2 a3 Z) : xr_CI l yX12_ownedBy cX12_ownedBy 6 .int { frames := 0, cells := 0, slots := 0, locals := 0 } D cy xl_B q σ [.ref (q 0), .int a1, .int a2, .int a3] Z := by
  refine xr_CI.of RX12 rfl (by decide) (Nat.le_of_ble_eq_true rfl) (fun p e s m below meth c X hw hr hk ls hl => ?_)
  have hx := X.1
  have hb := X.2.1
  have hl : lv_has ls 6 [(0, .ref (q 0)), (1, .int a1), (2, .int a2), (3, .int a3)] := hl
  have hB := hU (fun (σ : xw_M) (v4 : Int32) (v5 : Int32) => ∀ (H : Heap) (locs : List Loc) (ls : Array Slot), xr_H D cy xl_B q s σ H locs → lv_has ls 6 [(0, .ref (q 0)), (1, .int a1), (2, .int a2), (3, .int a3), (4, .int v4), (5, .int v5)] → W p l e ({ frames := 0, cells := 0, slots := 0, locals := 0 } : Room) s m ([.ref (q 0), .int a1, .int a2, .int a3] : List Value).toArray below meth c H locs 0 0 (MQ below (va_Qi Z (xr_po D cy xl_B q) (xw_A xl_B q s.heap.size)) ([.ref (q 0), .int a1, .int a2, .int a3] : List Value).toArray s 0 0 (xw_A xl_B q s.heap.size)) (F0 m 6 ls []))
    (by
    intro σ v4 v5 hB H locs ls hw hl
    unfold xb_X12_ownedBy_6 at hB
    refine lv_iload hx hb dX12_ownedBy_6 (lv_at hl 5 rfl) ?_
    refine lv_iload_n hx hb dX12_ownedBy_8 rfl (lv_at hl 3 rfl) ?_
    refine lv_icmp_ge (tgt := 78) hx hb dX12_ownedBy_9 (by decide) (fun hc => ?_) (fun hc => ?_)
    · replace hB := hB.1 hc
      refine lv_iload hx hb dX12_ownedBy_78 (lv_at hl 4 rfl) ?_
      exact xr_iret X hw hr hk hB dX12_ownedBy_80
    · replace hB := hB.2 hc
      refine lv_aload_n hx hb dX12_ownedBy_12 rfl (lv_at hl 0 rfl) ?_
      refine xr_getr X hw (xf_X12_131 X) 0 xl_B_ShowRingsModel_at rfl dX12_ownedBy_13 ?_
      refine lv_iload hx hb dX12_ownedBy_16 (lv_at hl 5 rfl) ?_
      refine xr_iald X hw 38 xl_B_ShowRingsModel_factSort_at hB.1 dX12_ownedBy_18 ?_
      replace hB := hB.2
      refine lv_iconst (v := (4 : Int32)) hx hb dX12_ownedBy_19 (by decide) ?_
      refine lv_icmp_ne (tgt := 72) hx hb dX12_ownedBy_20 (by decide) (fun hc => ?_) (fun hc => ?_)
      · replace hB := hB.1 hc
        refine lv_iinc (v := (v5 + (1 : Int32))) (lv' := [(5, .int (v5 + (1 : Int32))), (0, .ref (q 0)), (1, .int a1), (2, .int a2), (3, .int a3), (4, .int v4)]) hx hb dX12_ownedBy_72 hl (k := 5) rfl rfl (by decide) rfl (fun ls hl => ?_)
        refine lv_goto (tgt := 6) hx hb dX12_ownedBy_75 (by decide) ?_
        exact hB _ _ _ hw (lv_sub hl [1, 2, 3, 4, 5, 0] rfl)
      · replace hB := hB.2 hc
        refine lv_aload_n hx hb dX12_ownedBy_23 rfl (lv_at hl 0 rfl) ?_
        refine xr_getr X hw (xf_X12_137 X) 0 xl_B_ShowRingsModel_at rfl dX12_ownedBy_24 ?_
        refine lv_iload hx hb dX12_ownedBy_27 (lv_at hl 5 rfl) ?_
        refine xr_iald X hw 40 xl_B_ShowRingsModel_factDog_at hB.1 dX12_ownedBy_29 ?_
        replace hB := hB.2
        refine lv_iload_n hx hb dX12_ownedBy_30 rfl (lv_at hl 1 rfl) ?_
        refine lv_icmp_ne (tgt := 72) hx hb dX12_ownedBy_31 (by decide) (fun hc => ?_) (fun hc => ?_)
        · replace hB := hB.1 hc
          refine lv_iinc (v := (v5 + (1 : Int32))) (lv' := [(5, .int (v5 + (1 : Int32))), (0, .ref (q 0)), (1, .int a1), (2, .int a2), (3, .int a3), (4, .int v4)]) hx hb dX12_ownedBy_72 hl (k := 5) rfl rfl (by decide) rfl (fun ls hl => ?_)
          refine lv_goto (tgt := 6) hx hb dX12_ownedBy_75 (by decide) ?_
          exact hB _ _ _ hw (lv_sub hl [1, 2, 3, 4, 5, 0] rfl)
        · replace hB := hB.2 hc
          refine lv_aload_n hx hb dX12_ownedBy_34 rfl (lv_at hl 0 rfl) ?_
          refine xr_getr X hw (xf_X12_134 X) 0 xl_B_ShowRingsModel_at rfl dX12_ownedBy_35 ?_
          refine lv_iload hx hb dX12_ownedBy_38 (lv_at hl 5 rfl) ?_
          refine xr_iald X hw 39 xl_B_ShowRingsModel_factIn_at hB.1 dX12_ownedBy_40 ?_
          replace hB := hB.2
          refine lv_iload_n hx hb dX12_ownedBy_41 rfl (lv_at hl 2 rfl) ?_
          refine lv_icmp_gt (tgt := 72) hx hb dX12_ownedBy_42 (by decide) (fun hc => ?_) (fun hc => ?_)
          · replace hB := hB.1 hc
            refine lv_iinc (v := (v5 + (1 : Int32))) (lv' := [(5, .int (v5 + (1 : Int32))), (0, .ref (q 0)), (1, .int a1), (2, .int a2), (3, .int a3), (4, .int v4)]) hx hb dX12_ownedBy_72 hl (k := 5) rfl rfl (by decide) rfl (fun ls hl => ?_)
            refine lv_goto (tgt := 6) hx hb dX12_ownedBy_75 (by decide) ?_
            exact hB _ _ _ hw (lv_sub hl [1, 2, 3, 4, 5, 0] rfl)
          · replace hB := hB.2 hc
            refine lv_iload hx hb dX12_ownedBy_45 (lv_at hl 4 rfl) ?_
            refine lv_iconst (v := (-1 : Int32)) hx hb dX12_ownedBy_47 (by decide) ?_
            refine lv_icmp_eq (tgt := 68) hx hb dX12_ownedBy_48 (by decide) (fun hc => ?_) (fun hc => ?_)
            · replace hB := hB.1 hc
              refine lv_iload hx hb dX12_ownedBy_68 (lv_at hl 5 rfl) ?_
              refine lv_istore (lv' := [(4, .int v5), (0, .ref (q 0)), (1, .int a1), (2, .int a2), (3, .int a3), (5, .int v5)]) hx hb dX12_ownedBy_70 hl (by decide) rfl (fun ls hl => ?_)
              refine lv_iinc (v := (v5 + (1 : Int32))) (lv' := [(5, .int (v5 + (1 : Int32))), (4, .int v5), (0, .ref (q 0)), (1, .int a1), (2, .int a2), (3, .int a3)]) hx hb dX12_ownedBy_72 hl (k := 5) rfl rfl (by decide) rfl (fun ls hl => ?_)
              refine lv_goto (tgt := 6) hx hb dX12_ownedBy_75 (by decide) ?_
              exact hB _ _ _ hw (lv_sub hl [2, 3, 4, 5, 1, 0] rfl)
            · replace hB := hB.2 hc
              refine lv_aload_n hx hb dX12_ownedBy_51 rfl (lv_at hl 0 rfl) ?_
              refine xr_getr X hw (xf_X12_134 X) 0 xl_B_ShowRingsModel_at rfl dX12_ownedBy_52 ?_
              refine lv_iload hx hb dX12_ownedBy_55 (lv_at hl 5 rfl) ?_
              refine xr_iald X hw 39 xl_B_ShowRingsModel_factIn_at hB.1 dX12_ownedBy_57 ?_
              replace hB := hB.2
              refine lv_aload_n hx hb dX12_ownedBy_58 rfl (lv_at hl 0 rfl) ?_
              refine xr_getr X hw (xf_X12_134 X) 0 xl_B_ShowRingsModel_at rfl dX12_ownedBy_59 ?_
              refine lv_iload hx hb dX12_ownedBy_62 (lv_at hl 4 rfl) ?_
              refine xr_iald X hw 39 xl_B_ShowRingsModel_factIn_at hB.1 dX12_ownedBy_64 ?_
              replace hB := hB.2
              refine lv_icmp_lt (tgt := 72) hx hb dX12_ownedBy_65 (by decide) (fun hc => ?_) (fun hc => ?_)
              · replace hB := hB.1 hc
                refine lv_iinc (v := (v5 + (1 : Int32))) (lv' := [(5, .int (v5 + (1 : Int32))), (0, .ref (q 0)), (1, .int a1), (2, .int a2), (3, .int a3), (4, .int v4)]) hx hb dX12_ownedBy_72 hl (k := 5) rfl rfl (by decide) rfl (fun ls hl => ?_)
                refine lv_goto (tgt := 6) hx hb dX12_ownedBy_75 (by decide) ?_
                exact hB _ _ _ hw (lv_sub hl [1, 2, 3, 4, 5, 0] rfl)
              · replace hB := hB.2 hc
                refine lv_iload hx hb dX12_ownedBy_68 (lv_at hl 5 rfl) ?_
                refine lv_istore (lv' := [(4, .int v5), (0, .ref (q 0)), (1, .int a1), (2, .int a2), (3, .int a3), (5, .int v5)]) hx hb dX12_ownedBy_70 hl (by decide) rfl (fun ls hl => ?_)
                refine lv_iinc (v := (v5 + (1 : Int32))) (lv' := [(5, .int (v5 + (1 : Int32))), (4, .int v5), (0, .ref (q 0)), (1, .int a1), (2, .int a2), (3, .int a3)]) hx hb dX12_ownedBy_72 hl (k := 5) rfl rfl (by decide) rfl (fun ls hl => ?_)
                refine lv_goto (tgt := 6) hx hb dX12_ownedBy_75 (by decide) ?_
                exact hB _ _ _ hw (lv_sub hl [2, 3, 4, 5, 1, 0] rfl))
  unfold xb_X12_ownedBy_e at hB
  refine lv_iconst (v := (-1 : Int32)) hx hb dX12_ownedBy_0 (by decide) ?_
  refine lv_istore (lv' := [(4, .int (-1 : Int32)), (0, .ref (q 0)), (1, .int a1), (2, .int a2), (3, .int a3)]) hx hb dX12_ownedBy_1 hl (by decide) rfl (fun ls hl => ?_)
  refine lv_iconst (v := (0 : Int32)) hx hb dX12_ownedBy_3 (by decide) ?_
  refine lv_istore (lv' := [(5, .int (0 : Int32)), (4, .int (-1 : Int32)), (0, .ref (q 0)), (1, .int a1), (2, .int a2), (3, .int a3)]) hx hb dX12_ownedBy_4 hl (by decide) rfl (fun ls hl => ?_)
  exact hB _ _ _ hw (lv_sub hl [2, 3, 4, 5, 1, 0] rfl)
theorem xm_X12_ownedBy : xr_MW yX12_ownedBy cX12_ownedBy 6 (some .int) 3 := ⟨xt_6_77, xt_1_13, by decide, by decide, by decide +kernel⟩
set_option maxRecDepth 100000 in
set_option maxHeartbeats 4000000 in
theorem xc_X12_ownerOf (l : Launch) (D : va_G) (cy : Nat → ClassId) (q : Nat → Nat) (σ : xw_M) (a1 : Int32) (a2 : Int32) (a3 : Int32) {Z : Int32 → xw_M → Prop} (hU : xu_X12_ownerOf σ a1 a2 a3 Z) : xr_CI l yX12_ownerOf cX12_ownerOf 5 .int { frames := 1, cells := 0, slots := 0, locals := 25 } D cy xl_B q σ [.ref (q 0), .int a1, .int a2, .int a3] Z := by
  refine xr_CI.of RX12 rfl (by decide) (Nat.le_of_ble_eq_true rfl) (fun p e s m below meth c X hw hr hk ls hl => ?_)
  have hx := X.1
  have hb := X.2.1
  have hl : lv_has ls 5 [(0, .ref (q 0)), (1, .int a1), (2, .int a2), (3, .int a3)] := hl
  unfold xu_X12_ownerOf at hU
  have hB := hU
  refine lv_aload_n hx hb dX12_ownerOf_0 rfl (lv_at hl 0 rfl) ?_
  refine lv_iload_n hx hb dX12_ownerOf_1 rfl (lv_at hl 1 rfl) ?_
  refine lv_iload_n hx hb dX12_ownerOf_2 rfl (lv_at hl 2 rfl) ?_
  refine lv_iload_n hx hb dX12_ownerOf_3 rfl (lv_at hl 3 rfl) ?_
  refine xr_i hw (xr_runV (As := [.int a1, .int a2, .int a3]) (rest := []) X hw 0 (xc_X12_ownedBy l D cy q σ a1 a2 a3 hB _) xm_X12_ownedBy xt_6_74 xt_6_76 xt_p_49 ⟨Nat.le_of_ble_eq_true rfl, Nat.le_of_ble_eq_true rfl⟩ xl_B_ShowRingsModel_at rfl rfl rfl rfl hl.1 (Nat.le_of_ble_eq_true rfl) dX12_ownerOf_4 ⟨Nat.zero_le _, Nat.zero_le _⟩) (fun r2 σ1 H locs hB hw => ?_)
  refine lv_istore (lv' := [(4, .int r2), (0, .ref (q 0)), (1, .int a1), (2, .int a2), (3, .int a3)]) hx hb dX12_ownerOf_7 hl (by decide) rfl (fun ls hl => ?_)
  refine lv_iload hx hb dX12_ownerOf_9 (lv_at hl 0 rfl) ?_
  refine lv_iconst (v := (-1 : Int32)) hx hb dX12_ownerOf_11 (by decide) ?_
  refine lv_icmp_ne (tgt := 24) hx hb dX12_ownerOf_12 (by decide) (fun hc => ?_) (fun hc => ?_)
  · replace hB := hB.1 hc
    refine lv_aload_n hx hb dX12_ownerOf_24 rfl (lv_at hl 1 rfl) ?_
    refine xr_getr X hw (xf_X12_140 X) 0 xl_B_ShowRingsModel_at rfl dX12_ownerOf_25 ?_
    refine lv_iload hx hb dX12_ownerOf_28 (lv_at hl 0 rfl) ?_
    refine xr_iald X hw 41 xl_B_ShowRingsModel_factV_at hB.1 dX12_ownerOf_30 ?_
    replace hB := hB.2
    exact xr_iret X hw hr hk hB dX12_ownerOf_31
  · replace hB := hB.2 hc
    refine lv_aload_n hx hb dX12_ownerOf_15 rfl (lv_at hl 1 rfl) ?_
    refine xr_getr X hw (xf_X12_119 X) 0 xl_B_ShowRingsModel_at rfl dX12_ownerOf_16 ?_
    refine lv_iload_n hx hb dX12_ownerOf_19 rfl (lv_at hl 2 rfl) ?_
    refine xr_iald X hw 34 xl_B_ShowRingsModel_firstOwner_at hB.1 dX12_ownerOf_20 ?_
    replace hB := hB.2
    refine lv_goto (tgt := 31) hx hb dX12_ownerOf_21 (by decide) ?_
    exact xr_iret X hw hr hk hB dX12_ownerOf_31
theorem xm_X12_isKnown : xr_MW yX12_isKnown cX12_isKnown 2 (some .boolean) 1 := ⟨xt_6_69, xt_1_13, by decide, by decide, by decide +kernel⟩
theorem xm_X12_ownerOf : xr_MW yX12_ownerOf cX12_ownerOf 5 (some .int) 3 := ⟨xt_6_73, xt_1_13, by decide, by decide, by decide +kernel⟩
set_option maxRecDepth 100000 in
set_option maxHeartbeats 4000000 in
theorem xc_X12_owner (l : Launch) (D : va_G) (cy : Nat → ClassId) (q : Nat → Nat) (σ : xw_M) (a1 : Int32) (a2 : Int32) (a3 : Int32) {Z : Int32 → xw_M → Prop} (hU : xu_X12_owner σ a1 a2 a3 Z) : xr_CI l yX12_owner cX12_owner 4 .int { frames := 2, cells := 0, slots := 0, locals := 49 } D cy xl_B q σ [.ref (q 0), .int a1, .int a2, .int a3] Z := by
  refine xr_CI.of RX12 rfl (by decide) (Nat.le_of_ble_eq_true rfl) (fun p e s m below meth c X hw hr hk ls hl => ?_)
  have hx := X.1
  have hb := X.2.1
  have hl : lv_has ls 4 [(0, .ref (q 0)), (1, .int a1), (2, .int a2), (3, .int a3)] := hl
  unfold xu_X12_owner at hU
  have hB := hU
  refine lv_aload_n hx hb dX12_owner_0 rfl (lv_at hl 0 rfl) ?_
  refine lv_iload_n hx hb dX12_owner_1 rfl (lv_at hl 1 rfl) ?_
  refine xr_i hw (xr_runV (As := [.int a1]) (rest := []) X hw 0 (xc_X12_isDog l D cy q σ a1 hB _) xm_X12_isDog xt_6_50 xt_6_52 xt_p_45 ⟨Nat.le_of_ble_eq_true rfl, Nat.le_of_ble_eq_true rfl⟩ xl_B_ShowRingsModel_at rfl rfl rfl rfl hl.1 (Nat.le_of_ble_eq_true rfl) dX12_owner_2 ⟨Nat.zero_le _, Nat.zero_le _⟩) (fun r2 σ1 H locs hB hw => ?_)
  refine lv_if_eq (tgt := 33) hx hb dX12_owner_5 (by decide) (fun hc => ?_) (fun hc => ?_)
  · replace hB := hB.1 hc
    refine lv_iconst (v := (-1 : Int32)) hx hb dX12_owner_33 (by decide) ?_
    exact xr_iret X hw hr hk hB dX12_owner_34
  · replace hB := hB.2 hc
    refine lv_iload_n hx hb dX12_owner_8 rfl (lv_at hl 2 rfl) ?_
    refine xr_i hw (xr_runS (As := [.int a2]) (rest := []) X hw (xc_X12_isDay l D cy q σ1 a2 hB _) xm_X12_isDay xt_6_27 xt_6_28 ⟨Nat.le_of_ble_eq_true rfl, Nat.le_of_ble_eq_true rfl⟩ rfl rfl hl.1 (Nat.le_of_ble_eq_true rfl) dX12_owner_9 ⟨Nat.zero_le _, Nat.zero_le _⟩) (fun r4 σ3 H locs hB hw => ?_)
    refine lv_if_eq (tgt := 33) hx hb dX12_owner_12 (by decide) (fun hc => ?_) (fun hc => ?_)
    · replace hB := hB.1 hc
      refine lv_iconst (v := (-1 : Int32)) hx hb dX12_owner_33 (by decide) ?_
      exact xr_iret X hw hr hk hB dX12_owner_34
    · replace hB := hB.2 hc
      refine lv_aload_n hx hb dX12_owner_15 rfl (lv_at hl 0 rfl) ?_
      refine lv_iload_n hx hb dX12_owner_16 rfl (lv_at hl 3 rfl) ?_
      refine xr_i hw (xr_runV (As := [.int a3]) (rest := []) X hw 0 (xc_X12_isKnown l D cy q σ3 a3 hB _) xm_X12_isKnown xt_6_66 xt_6_68 xt_p_47 ⟨Nat.le_of_ble_eq_true rfl, Nat.le_of_ble_eq_true rfl⟩ xl_B_ShowRingsModel_at rfl rfl rfl rfl hl.1 (Nat.le_of_ble_eq_true rfl) dX12_owner_17 ⟨Nat.zero_le _, Nat.zero_le _⟩) (fun r6 σ5 H locs hB hw => ?_)
      refine lv_if_eq (tgt := 33) hx hb dX12_owner_20 (by decide) (fun hc => ?_) (fun hc => ?_)
      · replace hB := hB.1 hc
        refine lv_iconst (v := (-1 : Int32)) hx hb dX12_owner_33 (by decide) ?_
        exact xr_iret X hw hr hk hB dX12_owner_34
      · replace hB := hB.2 hc
        refine lv_aload_n hx hb dX12_owner_23 rfl (lv_at hl 0 rfl) ?_
        refine lv_iload_n hx hb dX12_owner_24 rfl (lv_at hl 1 rfl) ?_
        refine lv_iload_n hx hb dX12_owner_25 rfl (lv_at hl 2 rfl) ?_
        refine lv_iload_n hx hb dX12_owner_26 rfl (lv_at hl 3 rfl) ?_
        refine xr_i hw (xr_runV (As := [.int a1, .int a2, .int a3]) (rest := []) X hw 0 (xc_X12_ownerOf l D cy q σ5 a1 a2 a3 hB _) xm_X12_ownerOf xt_6_70 xt_6_72 xt_p_48 ⟨Nat.le_of_ble_eq_true rfl, Nat.le_of_ble_eq_true rfl⟩ xl_B_ShowRingsModel_at rfl rfl rfl rfl hl.1 (Nat.le_of_ble_eq_true rfl) dX12_owner_27 ⟨Nat.zero_le _, Nat.zero_le _⟩) (fun r8 σ7 H locs hB hw => ?_)
        refine lv_goto (tgt := 34) hx hb dX12_owner_30 (by decide) ?_
        exact xr_iret X hw hr hk hB dX12_owner_34
set_option maxRecDepth 100000 in
set_option maxHeartbeats 4000000 in
theorem xc_X12_partedOf (l : Launch) (D : va_G) (cy : Nat → ClassId) (q : Nat → Nat) (σ : xw_M) (a1 : Int32) (a2 : Int32) (a3 : Int32) (a4 : Int32) {Z : Int32 → xw_M → Prop} (hU : xu_X12_partedOf σ a1 a2 a3 a4 Z) : xr_CI l yX12_partedOf cX12_partedOf 7 .int { frames := 2, cells := 0, slots := 0, locals := 49 } D cy xl_B q σ [.ref (q 0), .int a1, .int a2, .int a3, .int a4] Z := by
  refine xr_CI.of RX12 rfl (by decide) (Nat.le_of_ble_eq_true rfl) (fun p e s m below meth c X hw hr hk ls hl => ?_)
  have hx := X.1
  have hb := X.2.1
  have hl : lv_has ls 7 [(0, .ref (q 0)), (1, .int a1), (2, .int a2), (3, .int a3), (4, .int a4)] := hl
  have hB := hU (fun (σ : xw_M) (v5 : Int32) => ∀ (H : Heap) (locs : List Loc) (ls : Array Slot), xr_H D cy xl_B q s σ H locs → lv_has ls 7 [(0, .ref (q 0)), (1, .int a1), (2, .int a2), (3, .int a3), (4, .int a4), (5, .int v5)] → W p l e ({ frames := 2, cells := 0, slots := 0, locals := 49 } : Room) s m ([.ref (q 0), .int a1, .int a2, .int a3, .int a4] : List Value).toArray below meth c H locs 0 0 (MQ below (va_Qi Z (xr_po D cy xl_B q) (xw_A xl_B q s.heap.size)) ([.ref (q 0), .int a1, .int a2, .int a3, .int a4] : List Value).toArray s 0 0 (xw_A xl_B q s.heap.size)) (F0 m 17 ls []))
    (by
    intro σ v5 hB H locs ls hw hl
    unfold xb_X12_partedOf_17 at hB
    refine lv_iload hx hb dX12_partedOf_17 (lv_at hl 5 rfl) ?_
    refine lv_if_lt (tgt := 75) hx hb dX12_partedOf_19 (by decide) (fun hc => ?_) (fun hc => ?_)
    · replace hB := hB.1 hc
      refine lv_iconst (v := (-1 : Int32)) hx hb dX12_partedOf_75 (by decide) ?_
      exact xr_iret X hw hr hk hB dX12_partedOf_76
    · replace hB := hB.2 hc
      refine lv_aload_n hx hb dX12_partedOf_22 rfl (lv_at hl 0 rfl) ?_
      refine lv_iload_n hx hb dX12_partedOf_23 rfl (lv_at hl 2 rfl) ?_
      refine lv_iload hx hb dX12_partedOf_24 (lv_at hl 5 rfl) ?_
      refine lv_iload hx hb dX12_partedOf_26 (lv_at hl 4 rfl) ?_
      refine xr_i hw (xr_runV (As := [.int a2, .int v5, .int a4]) (rest := []) X hw 0 (xc_X12_ownedBy l D cy q σ a2 v5 a4 hB _) xm_X12_ownedBy xt_6_74 xt_6_76 xt_p_49 ⟨Nat.le_of_ble_eq_true rfl, Nat.le_of_ble_eq_true rfl⟩ xl_B_ShowRingsModel_at rfl rfl rfl rfl hl.1 (Nat.le_of_ble_eq_true rfl) dX12_partedOf_28 ⟨Nat.zero_le _, Nat.zero_le _⟩) (fun r4 σ3 H locs hB hw => ?_)
      refine lv_istore (lv' := [(6, .int r4), (0, .ref (q 0)), (1, .int a1), (2, .int a2), (3, .int a3), (4, .int a4), (5, .int v5)]) hx hb dX12_partedOf_31 hl (by decide) rfl (fun ls hl => ?_)
      refine lv_aload_n hx hb dX12_partedOf_33 rfl (lv_at hl 1 rfl) ?_
      refine lv_iload_n hx hb dX12_partedOf_34 rfl (lv_at hl 3 rfl) ?_
      refine lv_iload hx hb dX12_partedOf_35 (lv_at hl 6 rfl) ?_
      refine lv_iload hx hb dX12_partedOf_37 (lv_at hl 5 rfl) ?_
      refine xr_i hw (xr_runV (As := [.int a2, .int v5, .int a4]) (rest := []) X hw 0 (xc_X12_ownerOf l D cy q σ3 a2 v5 a4 hB _) xm_X12_ownerOf xt_6_70 xt_6_72 xt_p_48 ⟨Nat.le_of_ble_eq_true rfl, Nat.le_of_ble_eq_true rfl⟩ xl_B_ShowRingsModel_at rfl rfl rfl rfl hl.1 (Nat.le_of_ble_eq_true rfl) dX12_partedOf_39 ⟨Nat.zero_le _, Nat.zero_le _⟩) (fun r6 σ5 H locs hB hw => ?_)
      refine lv_iload_n hx hb dX12_partedOf_42 rfl (lv_at hl 2 rfl) ?_
      refine lv_icmp_ne (tgt := 51) hx hb dX12_partedOf_43 (by decide) (fun hc => ?_) (fun hc => ?_)
      · replace hB := hB.1 hc
        refine lv_iload hx hb dX12_partedOf_51 (lv_at hl 0 rfl) ?_
        refine lv_iconst (v := (-1 : Int32)) hx hb dX12_partedOf_53 (by decide) ?_
        refine lv_icmp_ne (tgt := 61) hx hb dX12_partedOf_54 (by decide) (fun hc => ?_) (fun hc => ?_)
        · replace hB := hB.1 hc
          refine lv_aload_n hx hb dX12_partedOf_61 rfl (lv_at hl 1 rfl) ?_
          refine xr_getr X hw (xf_X12_134 X) 0 xl_B_ShowRingsModel_at rfl dX12_partedOf_62 ?_
          refine lv_iload hx hb dX12_partedOf_65 (lv_at hl 0 rfl) ?_
          refine xr_iald X hw 39 xl_B_ShowRingsModel_factIn_at hB.1 dX12_partedOf_67 ?_
          replace hB := hB.2
          refine lv_iconst (v := (1 : Int32)) hx hb dX12_partedOf_68 (by decide) ?_
          refine lv_isub hx hb dX12_partedOf_69 ?_
          refine lv_topi (fun x7 hx7 => ?_)
          replace hB := hB _ hx7
          refine lv_istore (lv' := [(5, .int x7), (6, .int r4), (0, .ref (q 0)), (1, .int a1), (2, .int a2), (3, .int a3), (4, .int a4)]) hx hb dX12_partedOf_70 hl (by decide) rfl (fun ls hl => ?_)
          refine lv_goto (tgt := 17) hx hb dX12_partedOf_72 (by decide) ?_
          exact hB _ _ _ hw (lv_sub hl [2, 3, 4, 5, 6, 0] rfl)
        · replace hB := hB.2 hc
          refine lv_iconst (v := (-1 : Int32)) hx hb dX12_partedOf_57 (by decide) ?_
          refine lv_goto (tgt := 70) hx hb dX12_partedOf_58 (by decide) ?_
          refine lv_istore (lv' := [(5, .int (-1 : Int32)), (6, .int r4), (0, .ref (q 0)), (1, .int a1), (2, .int a2), (3, .int a3), (4, .int a4)]) hx hb dX12_partedOf_70 hl (by decide) rfl (fun ls hl => ?_)
          refine lv_goto (tgt := 17) hx hb dX12_partedOf_72 (by decide) ?_
          exact hB _ _ _ hw (lv_sub hl [2, 3, 4, 5, 6, 0] rfl)
      · replace hB := hB.2 hc
        refine lv_iload_n hx hb dX12_partedOf_46 rfl (lv_at hl 4 rfl) ?_
        refine lv_iload hx hb dX12_partedOf_47 (lv_at hl 6 rfl) ?_
        refine lv_isub hx hb dX12_partedOf_49 ?_
        exact xr_iret X hw hr hk hB dX12_partedOf_50)
  unfold xb_X12_partedOf_e at hB
  refine lv_aload_n hx hb dX12_partedOf_0 rfl (lv_at hl 0 rfl) ?_
  refine lv_iload_n hx hb dX12_partedOf_1 rfl (lv_at hl 2 rfl) ?_
  refine lv_iload_n hx hb dX12_partedOf_2 rfl (lv_at hl 3 rfl) ?_
  refine lv_iload hx hb dX12_partedOf_3 (lv_at hl 4 rfl) ?_
  refine xr_i hw (xr_runV (As := [.int a2, .int a3, .int a4]) (rest := []) X hw 0 (xc_X12_ownerOf l D cy q σ a2 a3 a4 hB _) xm_X12_ownerOf xt_6_70 xt_6_72 xt_p_48 ⟨Nat.le_of_ble_eq_true rfl, Nat.le_of_ble_eq_true rfl⟩ xl_B_ShowRingsModel_at rfl rfl rfl rfl hl.1 (Nat.le_of_ble_eq_true rfl) dX12_partedOf_5 ⟨Nat.zero_le _, Nat.zero_le _⟩) (fun r2 σ1 H locs hB hw => ?_)
  refine lv_iload_n hx hb dX12_partedOf_8 rfl (lv_at hl 1 rfl) ?_
  refine lv_icmp_ne (tgt := 14) hx hb dX12_partedOf_9 (by decide) (fun hc => ?_) (fun hc => ?_)
  · replace hB := hB.1 hc
    refine lv_iload_n hx hb dX12_partedOf_14 rfl (lv_at hl 3 rfl) ?_
    refine lv_istore (lv' := [(5, .int a3), (0, .ref (q 0)), (1, .int a1), (2, .int a2), (3, .int a3), (4, .int a4)]) hx hb dX12_partedOf_15 hl (by decide) rfl (fun ls hl => ?_)
    exact hB _ _ _ hw (lv_sub hl [1, 2, 3, 4, 5, 0] rfl)
  · replace hB := hB.2 hc
    refine lv_iconst (v := (-1 : Int32)) hx hb dX12_partedOf_12 (by decide) ?_
    exact xr_iret X hw hr hk hB dX12_partedOf_13
