theorem xm_X6_pastRun : xr_MW yX6_pastRun cX6_pastRun 4 (some .int) 2 := ⟨xt_2_180, xt_1_5, by decide, by decide, by decide +kernel⟩
set_option maxRecDepth 100000 in
set_option maxHeartbeats 4000000 in
theorem xc_X6_tokenEnd (l : Launch) (D : va_G) (cy : Nat → ClassId) (q : Nat → Nat) (σ : xw_M) (a1 : Int32) {Z : Int32 → xw_M → Prop} (hU : xu_X6_tokenEnd σ a1 Z) : xr_CI l yX6_tokenEnd cX6_tokenEnd 5 .int { frames := 2, cells := 0, slots := 0, locals := 44 } D cy xl_A q σ [.ref (q 2), .int a1] Z := by
  refine xr_CI.of RX6 rfl (by decide) (Nat.le_of_ble_eq_true rfl) (fun p e s m below meth c X hw hr hk ls hl => ?_)
  have hx := X.1
  have hb := X.2.1
  have hl : lv_has ls 5 [(0, .ref (q 2)), (1, .int a1)] := hl
  have hB := hU (fun (σ : xw_M) (s0 : Int32) => ∀ (H : Heap) (locs : List Loc) (ls : Array Slot), xr_H D cy xl_A q s σ H locs → lv_has ls 5 [(0, .ref (q 2)), (1, .int a1)] → W p l e ({ frames := 2, cells := 0, slots := 0, locals := 44 } : Room) s m ([.ref (q 2), .int a1] : List Value).toArray below meth c H locs 0 0 (MQ below (va_Qi Z (xr_po D cy xl_A q) (xw_A xl_A q s.heap.size)) ([.ref (q 2), .int a1] : List Value).toArray s 0 0 (xw_A xl_A q s.heap.size)) (F0 m 54 ls [.int s0]))
    (by
    intro σ s0 hB H locs ls hw hl
    unfold xb_X6_tokenEnd_54 at hB
    refine lv_istore (lv' := [(4, .int s0), (0, .ref (q 2)), (1, .int a1)]) hx hb dX6_tokenEnd_54 hl (by decide) rfl (fun ls hl => ?_)
    refine lv_iload hx hb dX6_tokenEnd_56 (lv_at hl 0 rfl) ?_
    refine lv_if_eq (tgt := 82) hx hb dX6_tokenEnd_58 (by decide) (fun hc => ?_) (fun hc => ?_)
    · replace hB := hB.1 hc
      refine lv_iload_n hx hb dX6_tokenEnd_82 rfl (lv_at hl 2 rfl) ?_
      refine lv_iconst (v := (1 : Int32)) hx hb dX6_tokenEnd_83 (by decide) ?_
      refine lv_iadd hx hb dX6_tokenEnd_84 ?_
      exact xr_iret X hw hr hk hB dX6_tokenEnd_85
    · replace hB := hB.2 hc
      refine lv_aload_n hx hb dX6_tokenEnd_61 rfl (lv_at hl 1 rfl) ?_
      refine xr_getr X hw (xf_X6_25 X) 2 xl_A_Scanner_at rfl dX6_tokenEnd_62 ?_
      refine lv_iload_n hx hb dX6_tokenEnd_65 rfl (lv_at hl 2 rfl) ?_
      refine lv_iconst (v := (1 : Int32)) hx hb dX6_tokenEnd_66 (by decide) ?_
      refine lv_iadd hx hb dX6_tokenEnd_67 ?_
      refine xr_i hw (xr_runV (As := [.int (a1 + (1 : Int32))]) (rest := []) X hw 1 (xc_X8_at l D cy q σ (a1 + (1 : Int32)) hB _) xm_X8_at xt_2_181 xt_2_182 xt_2_183 ⟨Nat.le_of_ble_eq_true rfl, Nat.le_of_ble_eq_true rfl⟩ xl_A_Tape_at rfl rfl rfl rfl hl.1 (Nat.le_of_ble_eq_true rfl) dX6_tokenEnd_68 ⟨Nat.zero_le _, Nat.zero_le _⟩) (fun r10 σ9 H locs hB hw => ?_)
      refine lv_bipush (v := (61 : Int32)) hx hb dX6_tokenEnd_71 (by decide) ?_
      refine lv_icmp_ne (tgt := 82) hx hb dX6_tokenEnd_73 (by decide) (fun hc => ?_) (fun hc => ?_)
      · replace hB := hB.1 hc
        refine lv_iload_n hx hb dX6_tokenEnd_82 rfl (lv_at hl 2 rfl) ?_
        refine lv_iconst (v := (1 : Int32)) hx hb dX6_tokenEnd_83 (by decide) ?_
        refine lv_iadd hx hb dX6_tokenEnd_84 ?_
        exact xr_iret X hw hr hk hB dX6_tokenEnd_85
      · replace hB := hB.2 hc
        refine lv_iload_n hx hb dX6_tokenEnd_76 rfl (lv_at hl 2 rfl) ?_
        refine lv_iconst (v := (2 : Int32)) hx hb dX6_tokenEnd_77 (by decide) ?_
        refine lv_iadd hx hb dX6_tokenEnd_78 ?_
        refine lv_goto (tgt := 85) hx hb dX6_tokenEnd_79 (by decide) ?_
        exact xr_iret X hw hr hk hB dX6_tokenEnd_85)
  unfold xb_X6_tokenEnd_e at hB
  refine lv_aload_n hx hb dX6_tokenEnd_0 rfl (lv_at hl 0 rfl) ?_
  refine xr_getr X hw (xf_X6_25 X) 2 xl_A_Scanner_at rfl dX6_tokenEnd_1 ?_
  refine lv_iload_n hx hb dX6_tokenEnd_4 rfl (lv_at hl 1 rfl) ?_
  refine xr_i hw (xr_runV (As := [.int a1]) (rest := []) X hw 1 (xc_X8_at l D cy q σ a1 hB _) xm_X8_at xt_2_181 xt_2_182 xt_2_183 ⟨Nat.le_of_ble_eq_true rfl, Nat.le_of_ble_eq_true rfl⟩ xl_A_Tape_at rfl rfl rfl rfl hl.1 (Nat.le_of_ble_eq_true rfl) dX6_tokenEnd_5 ⟨Nat.zero_le _, Nat.zero_le _⟩) (fun r2 σ1 H locs hB hw => ?_)
  refine lv_istore_n (lv' := [(2, .int r2), (0, .ref (q 2)), (1, .int a1)]) hx hb dX6_tokenEnd_8 rfl hl (by decide) rfl (fun ls hl => ?_)
  refine lv_iload_n hx hb dX6_tokenEnd_9 rfl (lv_at hl 0 rfl) ?_
  refine xr_i hw (xr_runS (As := [.int r2]) (rest := []) X hw (xc_X6_sortOf l D cy q σ1 r2 hB _) xm_X6_sortOf xt_2_185 xt_2_186 ⟨Nat.le_of_ble_eq_true rfl, Nat.le_of_ble_eq_true rfl⟩ rfl rfl hl.1 (Nat.le_of_ble_eq_true rfl) dX6_tokenEnd_10 ⟨Nat.zero_le _, Nat.zero_le _⟩) (fun r4 σ3 H locs hB hw => ?_)
  refine lv_istore_n (lv' := [(3, .int r4), (2, .int r2), (0, .ref (q 2)), (1, .int a1)]) hx hb dX6_tokenEnd_13 rfl hl (by decide) rfl (fun ls hl => ?_)
  refine lv_iload_n hx hb dX6_tokenEnd_14 rfl (lv_at hl 0 rfl) ?_
  refine lv_iconst (v := (1 : Int32)) hx hb dX6_tokenEnd_15 (by decide) ?_
  refine lv_icmp_eq (tgt := 24) hx hb dX6_tokenEnd_16 (by decide) (fun hc => ?_) (fun hc => ?_)
  · replace hB := hB.1 hc
    refine lv_aload_n hx hb dX6_tokenEnd_24 rfl (lv_at hl 2 rfl) ?_
    refine lv_iload_n hx hb dX6_tokenEnd_25 rfl (lv_at hl 3 rfl) ?_
    refine lv_iload_n hx hb dX6_tokenEnd_26 rfl (lv_at hl 0 rfl) ?_
    refine xr_i hw (xr_runV (As := [.int a1, .int r4]) (rest := []) X hw 2 (xc_X6_pastRun l D cy q σ3 a1 r4 hB _) xm_X6_pastRun xt_2_177 xt_2_179 xt_p_0 ⟨Nat.le_of_ble_eq_true rfl, Nat.le_of_ble_eq_true rfl⟩ xl_A_Scanner_at rfl rfl rfl rfl hl.1 (Nat.le_of_ble_eq_true rfl) dX6_tokenEnd_27 ⟨Nat.zero_le _, Nat.zero_le _⟩) (fun r6 σ5 H locs hB hw => ?_)
    exact xr_iret X hw hr hk hB dX6_tokenEnd_30
  · replace hB := hB.2 hc
    refine lv_iload_n hx hb dX6_tokenEnd_19 rfl (lv_at hl 0 rfl) ?_
    refine lv_iconst (v := (2 : Int32)) hx hb dX6_tokenEnd_20 (by decide) ?_
    refine lv_icmp_ne (tgt := 31) hx hb dX6_tokenEnd_21 (by decide) (fun hc => ?_) (fun hc => ?_)
    · replace hB := hB.1 hc
      refine lv_iload_n hx hb dX6_tokenEnd_31 rfl (lv_at hl 1 rfl) ?_
      refine lv_bipush (v := (61 : Int32)) hx hb dX6_tokenEnd_32 (by decide) ?_
      refine lv_icmp_eq (tgt := 49) hx hb dX6_tokenEnd_34 (by decide) (fun hc => ?_) (fun hc => ?_)
      · replace hB := hB.1 hc
        refine lv_iconst (v := (1 : Int32)) hx hb dX6_tokenEnd_49 (by decide) ?_
        refine lv_goto (tgt := 54) hx hb dX6_tokenEnd_50 (by decide) ?_
        exact hB _ _ _ hw (lv_sub hl [2, 3] rfl)
      · replace hB := hB.2 hc
        refine lv_iload_n hx hb dX6_tokenEnd_37 rfl (lv_at hl 1 rfl) ?_
        refine lv_bipush (v := (33 : Int32)) hx hb dX6_tokenEnd_38 (by decide) ?_
        refine lv_icmp_eq (tgt := 49) hx hb dX6_tokenEnd_40 (by decide) (fun hc => ?_) (fun hc => ?_)
        · replace hB := hB.1 hc
          refine lv_iconst (v := (1 : Int32)) hx hb dX6_tokenEnd_49 (by decide) ?_
          refine lv_goto (tgt := 54) hx hb dX6_tokenEnd_50 (by decide) ?_
          exact hB _ _ _ hw (lv_sub hl [2, 3] rfl)
        · replace hB := hB.2 hc
          refine lv_iload_n hx hb dX6_tokenEnd_43 rfl (lv_at hl 1 rfl) ?_
          refine lv_bipush (v := (60 : Int32)) hx hb dX6_tokenEnd_44 (by decide) ?_
          refine lv_icmp_ne (tgt := 53) hx hb dX6_tokenEnd_46 (by decide) (fun hc => ?_) (fun hc => ?_)
          · replace hB := hB.1 hc
            refine lv_iconst (v := (0 : Int32)) hx hb dX6_tokenEnd_53 (by decide) ?_
            exact hB _ _ _ hw (lv_sub hl [2, 3] rfl)
          · replace hB := hB.2 hc
            refine lv_iconst (v := (1 : Int32)) hx hb dX6_tokenEnd_49 (by decide) ?_
            refine lv_goto (tgt := 54) hx hb dX6_tokenEnd_50 (by decide) ?_
            exact hB _ _ _ hw (lv_sub hl [2, 3] rfl)
    · replace hB := hB.2 hc
      refine lv_aload_n hx hb dX6_tokenEnd_24 rfl (lv_at hl 2 rfl) ?_
      refine lv_iload_n hx hb dX6_tokenEnd_25 rfl (lv_at hl 3 rfl) ?_
      refine lv_iload_n hx hb dX6_tokenEnd_26 rfl (lv_at hl 0 rfl) ?_
      refine xr_i hw (xr_runV (As := [.int a1, .int r4]) (rest := []) X hw 2 (xc_X6_pastRun l D cy q σ3 a1 r4 hB _) xm_X6_pastRun xt_2_177 xt_2_179 xt_p_0 ⟨Nat.le_of_ble_eq_true rfl, Nat.le_of_ble_eq_true rfl⟩ xl_A_Scanner_at rfl rfl rfl rfl hl.1 (Nat.le_of_ble_eq_true rfl) dX6_tokenEnd_27 ⟨Nat.zero_le _, Nat.zero_le _⟩) (fun r8 σ7 H locs hB hw => ?_)
      exact xr_iret X hw hr hk hB dX6_tokenEnd_30
set_option maxRecDepth 100000 in
set_option maxHeartbeats 4000000 in
theorem xc_X9_clear (l : Launch) (D : va_G) (cy : Nat → ClassId) (q : Nat → Nat) (σ : xw_M) (o0 : Nat) (h0 : o0 < 2) {Z : xw_M → Prop} (hU : xu_X9_clear σ o0 Z) : xr_CV l yX9_clear cX9_clear 1 { frames := 0, cells := 0, slots := 0, locals := 0 } D cy xl_A q σ [.ref (q (9 + o0))] Z := by
  refine xr_CV.of RX9 rfl (by decide) (Nat.le_of_ble_eq_true rfl) (fun p e s m below meth c X hw hr hk ls hl => ?_)
  have hx := X.1
  have hb := X.2.1
  have hl : lv_has ls 1 [(0, .ref (q (9 + o0)))] := hl
  unfold xu_X9_clear at hU
  have hB := hU
  refine lv_aload_n hx hb dX9_clear_0 rfl (lv_at hl 0 rfl) ?_
  refine lv_iconst (v := (0 : Int32)) hx hb dX9_clear_1 (by decide) ?_
  refine xr_puti X hw (xp_X9_39 X) (9 + o0) (xl_A_Text_at (i := o0) h0) rfl dX9_clear_2 hB (fun σ1 H locs hB hw => ?_)
  refine lv_aload_n hx hb dX9_clear_5 rfl (lv_at hl 0 rfl) ?_
  refine lv_iconst (v := (0 : Int32)) hx hb dX9_clear_6 (by decide) ?_
  refine xr_puti X hw (xp_X9_43 X) (9 + o0) (xl_A_Text_at (i := o0) h0) rfl dX9_clear_7 hB (fun σ2 H locs hB hw => ?_)
  exact xr_vret X hw hr hk hB dX9_clear_10
set_option maxRecDepth 100000 in
set_option maxHeartbeats 4000000 in
theorem xc_X9_copyFrom (l : Launch) (D : va_G) (cy : Nat → ClassId) (q : Nat → Nat) (σ : xw_M) (o0 : Nat) (o1 : Nat) (h0 : o0 < 2) (h1 : o1 < 2) {Z : xw_M → Prop} (hU : xu_X9_copyFrom σ o0 o1 Z) : xr_CV l yX9_copyFrom cX9_copyFrom 2 { frames := 1, cells := 0, slots := 0, locals := 60 } D cy xl_A q σ [.ref (q (9 + o0)), .ref (q (9 + o1))] Z := by
  refine xr_CV.of RX9 rfl (by decide) (Nat.le_of_ble_eq_true rfl) (fun p e s m below meth c X hw hr hk ls hl => ?_)
  have hx := X.1
  have hb := X.2.1
  have hl : lv_has ls 2 [(0, .ref (q (9 + o0))), (1, .ref (q (9 + o1)))] := hl
  unfold xu_X9_copyFrom at hU
  have hB := hU
  refine lv_aload_n hx hb dX9_copyFrom_0 rfl (lv_at hl 1 rfl) ?_
  refine xr_getr X hw (xf_X9_9 X) (9 + o1) (xl_A_Text_at (i := o1) h1) rfl dX9_copyFrom_1 ?_
  refine lv_iconst (v := (0 : Int32)) hx hb dX9_copyFrom_4 (by decide) ?_
  refine lv_aload_n hx hb dX9_copyFrom_5 rfl (lv_at hl 0 rfl) ?_
  refine xr_getr X hw (xf_X9_9 X) (9 + o0) (xl_A_Text_at (i := o0) h0) rfl dX9_copyFrom_6 ?_
  refine lv_iconst (v := (0 : Int32)) hx hb dX9_copyFrom_9 (by decide) ?_
  refine lv_bipush (v := (16 : Int32)) hx hb dX9_copyFrom_10 (by decide) ?_
  refine xr_copy X hw hl.1 (48 + o1) (48 + o0) (xl_A_Text_kinds_at (i := o1) h1) (xl_A_Text_kinds_at (i := o0) h0) (N := 16) (by decide) (by decide) (by decide) (by decide) xt_3_66 (Nat.le_of_ble_eq_true rfl) (Nat.le_of_ble_eq_true rfl) dX9_copyFrom_12 hB (fun σ1 H locs hB hw => ?_)
  refine lv_aload_n hx hb dX9_copyFrom_15 rfl (lv_at hl 1 rfl) ?_
  refine xr_getr X hw (xf_X9_15 X) (9 + o1) (xl_A_Text_at (i := o1) h1) rfl dX9_copyFrom_16 ?_
  refine lv_iconst (v := (0 : Int32)) hx hb dX9_copyFrom_19 (by decide) ?_
  refine lv_aload_n hx hb dX9_copyFrom_20 rfl (lv_at hl 0 rfl) ?_
  refine xr_getr X hw (xf_X9_15 X) (9 + o0) (xl_A_Text_at (i := o0) h0) rfl dX9_copyFrom_21 ?_
  refine lv_iconst (v := (0 : Int32)) hx hb dX9_copyFrom_24 (by decide) ?_
  refine lv_bipush (v := (16 : Int32)) hx hb dX9_copyFrom_25 (by decide) ?_
  refine xr_copy X hw hl.1 (50 + o1) (50 + o0) (xl_A_Text_firstInt_at (i := o1) h1) (xl_A_Text_firstInt_at (i := o0) h0) (N := 16) (by decide) (by decide) (by decide) (by decide) xt_3_66 (Nat.le_of_ble_eq_true rfl) (Nat.le_of_ble_eq_true rfl) dX9_copyFrom_27 hB (fun σ2 H locs hB hw => ?_)
  refine lv_aload_n hx hb dX9_copyFrom_30 rfl (lv_at hl 1 rfl) ?_
  refine xr_getr X hw (xf_X9_18 X) (9 + o1) (xl_A_Text_at (i := o1) h1) rfl dX9_copyFrom_31 ?_
  refine lv_iconst (v := (0 : Int32)) hx hb dX9_copyFrom_34 (by decide) ?_
  refine lv_aload_n hx hb dX9_copyFrom_35 rfl (lv_at hl 0 rfl) ?_
  refine xr_getr X hw (xf_X9_18 X) (9 + o0) (xl_A_Text_at (i := o0) h0) rfl dX9_copyFrom_36 ?_
  refine lv_iconst (v := (0 : Int32)) hx hb dX9_copyFrom_39 (by decide) ?_
  refine lv_bipush (v := (16 : Int32)) hx hb dX9_copyFrom_40 (by decide) ?_
  refine xr_copy X hw hl.1 (52 + o1) (52 + o0) (xl_A_Text_secondInt_at (i := o1) h1) (xl_A_Text_secondInt_at (i := o0) h0) (N := 16) (by decide) (by decide) (by decide) (by decide) xt_3_66 (Nat.le_of_ble_eq_true rfl) (Nat.le_of_ble_eq_true rfl) dX9_copyFrom_42 hB (fun σ3 H locs hB hw => ?_)
  refine lv_aload_n hx hb dX9_copyFrom_45 rfl (lv_at hl 1 rfl) ?_
  refine xr_getr X hw (xf_X9_21 X) (9 + o1) (xl_A_Text_at (i := o1) h1) rfl dX9_copyFrom_46 ?_
  refine lv_iconst (v := (0 : Int32)) hx hb dX9_copyFrom_49 (by decide) ?_
  refine lv_aload_n hx hb dX9_copyFrom_50 rfl (lv_at hl 0 rfl) ?_
  refine xr_getr X hw (xf_X9_21 X) (9 + o0) (xl_A_Text_at (i := o0) h0) rfl dX9_copyFrom_51 ?_
  refine lv_iconst (v := (0 : Int32)) hx hb dX9_copyFrom_54 (by decide) ?_
  refine lv_bipush (v := (16 : Int32)) hx hb dX9_copyFrom_55 (by decide) ?_
  refine xr_copy X hw hl.1 (54 + o1) (54 + o0) (xl_A_Text_termFrom_at (i := o1) h1) (xl_A_Text_termFrom_at (i := o0) h0) (N := 16) (by decide) (by decide) (by decide) (by decide) xt_3_66 (Nat.le_of_ble_eq_true rfl) (Nat.le_of_ble_eq_true rfl) dX9_copyFrom_57 hB (fun σ4 H locs hB hw => ?_)
  refine lv_aload_n hx hb dX9_copyFrom_60 rfl (lv_at hl 1 rfl) ?_
  refine xr_getr X hw (xf_X9_24 X) (9 + o1) (xl_A_Text_at (i := o1) h1) rfl dX9_copyFrom_61 ?_
  refine lv_iconst (v := (0 : Int32)) hx hb dX9_copyFrom_64 (by decide) ?_
  refine lv_aload_n hx hb dX9_copyFrom_65 rfl (lv_at hl 0 rfl) ?_
  refine xr_getr X hw (xf_X9_24 X) (9 + o0) (xl_A_Text_at (i := o0) h0) rfl dX9_copyFrom_66 ?_
  refine lv_iconst (v := (0 : Int32)) hx hb dX9_copyFrom_69 (by decide) ?_
  refine lv_bipush (v := (16 : Int32)) hx hb dX9_copyFrom_70 (by decide) ?_
  refine xr_copy X hw hl.1 (56 + o1) (56 + o0) (xl_A_Text_condFrom_at (i := o1) h1) (xl_A_Text_condFrom_at (i := o0) h0) (N := 16) (by decide) (by decide) (by decide) (by decide) xt_3_66 (Nat.le_of_ble_eq_true rfl) (Nat.le_of_ble_eq_true rfl) dX9_copyFrom_72 hB (fun σ5 H locs hB hw => ?_)
  refine lv_aload_n hx hb dX9_copyFrom_75 rfl (lv_at hl 1 rfl) ?_
  refine xr_getr X hw (xf_X9_27 X) (9 + o1) (xl_A_Text_at (i := o1) h1) rfl dX9_copyFrom_76 ?_
  refine lv_iconst (v := (0 : Int32)) hx hb dX9_copyFrom_79 (by decide) ?_
  refine lv_aload_n hx hb dX9_copyFrom_80 rfl (lv_at hl 0 rfl) ?_
  refine xr_getr X hw (xf_X9_27 X) (9 + o0) (xl_A_Text_at (i := o0) h0) rfl dX9_copyFrom_81 ?_
  refine lv_iconst (v := (0 : Int32)) hx hb dX9_copyFrom_84 (by decide) ?_
  refine lv_bipush (v := (16 : Int32)) hx hb dX9_copyFrom_85 (by decide) ?_
  refine xr_copy X hw hl.1 (58 + o1) (58 + o0) (xl_A_Text_condTo_at (i := o1) h1) (xl_A_Text_condTo_at (i := o0) h0) (N := 16) (by decide) (by decide) (by decide) (by decide) xt_3_66 (Nat.le_of_ble_eq_true rfl) (Nat.le_of_ble_eq_true rfl) dX9_copyFrom_87 hB (fun σ6 H locs hB hw => ?_)
  refine lv_aload_n hx hb dX9_copyFrom_90 rfl (lv_at hl 1 rfl) ?_
  refine xr_getr X hw (xf_X9_30 X) (9 + o1) (xl_A_Text_at (i := o1) h1) rfl dX9_copyFrom_91 ?_
  refine lv_iconst (v := (0 : Int32)) hx hb dX9_copyFrom_94 (by decide) ?_
  refine lv_aload_n hx hb dX9_copyFrom_95 rfl (lv_at hl 0 rfl) ?_
  refine xr_getr X hw (xf_X9_30 X) (9 + o0) (xl_A_Text_at (i := o0) h0) rfl dX9_copyFrom_96 ?_
  refine lv_iconst (v := (0 : Int32)) hx hb dX9_copyFrom_99 (by decide) ?_
  refine lv_sipush (v := (400 : Int32)) hx hb dX9_copyFrom_100 (by decide) ?_
  refine xr_copy X hw hl.1 (60 + o1) (60 + o0) (xl_A_Text_steps_at (i := o1) h1) (xl_A_Text_steps_at (i := o0) h0) (N := 400) (by decide) (by decide) (by decide) (by decide) xt_3_66 (Nat.le_of_ble_eq_true rfl) (Nat.le_of_ble_eq_true rfl) dX9_copyFrom_103 hB (fun σ7 H locs hB hw => ?_)
  refine lv_aload_n hx hb dX9_copyFrom_106 rfl (lv_at hl 1 rfl) ?_
  refine xr_getr X hw (xf_X9_33 X) (9 + o1) (xl_A_Text_at (i := o1) h1) rfl dX9_copyFrom_107 ?_
  refine lv_iconst (v := (0 : Int32)) hx hb dX9_copyFrom_110 (by decide) ?_
  refine lv_aload_n hx hb dX9_copyFrom_111 rfl (lv_at hl 0 rfl) ?_
  refine xr_getr X hw (xf_X9_33 X) (9 + o0) (xl_A_Text_at (i := o0) h0) rfl dX9_copyFrom_112 ?_
  refine lv_iconst (v := (0 : Int32)) hx hb dX9_copyFrom_115 (by decide) ?_
  refine lv_sipush (v := (400 : Int32)) hx hb dX9_copyFrom_116 (by decide) ?_
  refine xr_copy X hw hl.1 (62 + o1) (62 + o0) (xl_A_Text_numbers_at (i := o1) h1) (xl_A_Text_numbers_at (i := o0) h0) (N := 400) (by decide) (by decide) (by decide) (by decide) xt_3_66 (Nat.le_of_ble_eq_true rfl) (Nat.le_of_ble_eq_true rfl) dX9_copyFrom_119 hB (fun σ8 H locs hB hw => ?_)
  refine lv_aload_n hx hb dX9_copyFrom_122 rfl (lv_at hl 0 rfl) ?_
  refine lv_aload_n hx hb dX9_copyFrom_123 rfl (lv_at hl 1 rfl) ?_
  refine xr_geti X hw (xf_X9_39 X) (9 + o1) (xl_A_Text_at (i := o1) h1) rfl dX9_copyFrom_124 ?_
  refine xr_puti X hw (xp_X9_39 X) (9 + o0) (xl_A_Text_at (i := o0) h0) rfl dX9_copyFrom_127 hB (fun σ9 H locs hB hw => ?_)
  refine lv_aload_n hx hb dX9_copyFrom_130 rfl (lv_at hl 0 rfl) ?_
  refine lv_aload_n hx hb dX9_copyFrom_131 rfl (lv_at hl 1 rfl) ?_
  refine xr_geti X hw (xf_X9_43 X) (9 + o1) (xl_A_Text_at (i := o1) h1) rfl dX9_copyFrom_132 ?_
  refine xr_puti X hw (xp_X9_43 X) (9 + o0) (xl_A_Text_at (i := o0) h0) rfl dX9_copyFrom_135 hB (fun σ10 H locs hB hw => ?_)
  exact xr_vret X hw hr hk hB dX9_copyFrom_138
theorem xf_X11_96 {p : Program} {s : State} {m : MethodId} {args : Array Value} {c : Code} {cc : ByteArray} {nL : Nat} {D : va_G} {cy : Nat → ClassId} {lay : List xw_E} {q : Nat → Nat} (X : xr_X p s m args c cc nL RX11 D cy lay q) : xr_F args s RX11 96 11 11 := ⟨RX11, TX11, 12, tyX11, rfl, by decide, fun w h => X.2.2.2.2.1 w (xt_inX11 w h), tyX11_ok, nmX11, Or.inl (X.2.2.2.2.1 _ xt_2_123)⟩
set_option maxRecDepth 100000 in
set_option maxHeartbeats 4000000 in
theorem xc_X11_place (l : Launch) (D : va_G) (cy : Nat → ClassId) (q : Nat → Nat) (σ : xw_M)  {Z : Int32 → xw_M → Prop} (hU : xu_X11_place σ Z) : xr_CI l yX11_place cX11_place 1 .int { frames := 0, cells := 0, slots := 0, locals := 0 } D cy xl_A q σ [.ref (q 0)] Z := by
  refine xr_CI.of RX11 rfl (by decide) (Nat.le_of_ble_eq_true rfl) (fun p e s m below meth c X hw hr hk ls hl => ?_)
  have hx := X.1
  have hb := X.2.1
  have hl : lv_has ls 1 [(0, .ref (q 0))] := hl
  unfold xu_X11_place at hU
  have hB := hU
  refine lv_aload_n hx hb dX11_place_0 rfl (lv_at hl 0 rfl) ?_
  refine xr_geti X hw (xf_X11_96 X) 0 xl_A_ShowRings_at rfl dX11_place_1 ?_
  exact xr_iret X hw hr hk hB dX11_place_4
set_option maxRecDepth 100000 in
set_option maxHeartbeats 4000000 in
theorem xc_X11_isWithin (l : Launch) (D : va_G) (cy : Nat → ClassId) (q : Nat → Nat) (σ : xw_M) (a0 : Int32) (a1 : Int32) (a2 : Int32) {Z : Int32 → xw_M → Prop} (hU : xu_X11_isWithin σ a0 a1 a2 Z) : xr_CI l yX11_isWithin cX11_isWithin 3 .boolean { frames := 0, cells := 0, slots := 0, locals := 0 } D cy xl_A q σ [.int a0, .int a1, .int a2] Z := by
  refine xr_CI.of RX11 rfl (by decide) (Nat.le_of_ble_eq_true rfl) (fun p e s m below meth c X hw hr hk ls hl => ?_)
  have hx := X.1
  have hb := X.2.1
  have hl : lv_has ls 3 [(0, .int a0), (1, .int a1), (2, .int a2)] := hl
  unfold xu_X11_isWithin at hU
  have hB := hU
  refine lv_iload_n hx hb dX11_isWithin_0 rfl (lv_at hl 0 rfl) ?_
  refine lv_iload_n hx hb dX11_isWithin_1 rfl (lv_at hl 1 rfl) ?_
  refine lv_icmp_lt (tgt := 14) hx hb dX11_isWithin_2 (by decide) (fun hc => ?_) (fun hc => ?_)
  · replace hB := hB.1 hc
    refine lv_iconst (v := (0 : Int32)) hx hb dX11_isWithin_14 (by decide) ?_
    exact xr_zret X hw hr hk hB dX11_isWithin_15
  · replace hB := hB.2 hc
    refine lv_iload_n hx hb dX11_isWithin_5 rfl (lv_at hl 0 rfl) ?_
    refine lv_iload_n hx hb dX11_isWithin_6 rfl (lv_at hl 2 rfl) ?_
    refine lv_icmp_gt (tgt := 14) hx hb dX11_isWithin_7 (by decide) (fun hc => ?_) (fun hc => ?_)
    · replace hB := hB.1 hc
      refine lv_iconst (v := (0 : Int32)) hx hb dX11_isWithin_14 (by decide) ?_
      exact xr_zret X hw hr hk hB dX11_isWithin_15
    · replace hB := hB.2 hc
      refine lv_iconst (v := (1 : Int32)) hx hb dX11_isWithin_10 (by decide) ?_
      refine lv_goto (tgt := 15) hx hb dX11_isWithin_11 (by decide) ?_
      exact xr_zret X hw hr hk hB dX11_isWithin_15
theorem xm_X11_isWithin : xr_MW yX11_isWithin cX11_isWithin 3 (some .boolean) 3 := ⟨xt_3_82, xt_1_1, by decide, by decide, by decide +kernel⟩
set_option maxRecDepth 100000 in
set_option maxHeartbeats 4000000 in
theorem xc_X11_isPerson (l : Launch) (D : va_G) (cy : Nat → ClassId) (q : Nat → Nat) (σ : xw_M) (a0 : Int32) {Z : Int32 → xw_M → Prop} (hU : xu_X11_isPerson σ a0 Z) : xr_CI l yX11_isPerson cX11_isPerson 1 .boolean { frames := 1, cells := 0, slots := 0, locals := 22 } D cy xl_A q σ [.int a0] Z := by
  refine xr_CI.of RX11 rfl (by decide) (Nat.le_of_ble_eq_true rfl) (fun p e s m below meth c X hw hr hk ls hl => ?_)
  have hx := X.1
  have hb := X.2.1
  have hl : lv_has ls 1 [(0, .int a0)] := hl
  unfold xu_X11_isPerson at hU
  have hB := hU
  refine lv_iload_n hx hb dX11_isPerson_0 rfl (lv_at hl 0 rfl) ?_
  refine lv_iconst (v := (0 : Int32)) hx hb dX11_isPerson_1 (by decide) ?_
  refine lv_bipush (v := (11 : Int32)) hx hb dX11_isPerson_2 (by decide) ?_
  refine xr_i hw (xr_runS (As := [.int a0, .int (0 : Int32), .int (11 : Int32)]) (rest := []) X hw (xc_X11_isWithin l D cy q σ a0 (0 : Int32) (11 : Int32) hB _) xm_X11_isWithin xt_3_80 xt_3_81 ⟨Nat.le_of_ble_eq_true rfl, Nat.le_of_ble_eq_true rfl⟩ rfl rfl hl.1 (Nat.le_of_ble_eq_true rfl) dX11_isPerson_4 ⟨Nat.zero_le _, Nat.zero_le _⟩) (fun r2 σ1 H locs hB hw => ?_)
  exact xr_zret X hw hr hk hB dX11_isPerson_7
theorem xm_X11_isPerson : xr_MW yX11_isPerson cX11_isPerson 1 (some .boolean) 1 := ⟨xt_3_79, xt_1_1, by decide, by decide, by decide +kernel⟩
theorem xf_X2_9 {p : Program} {s : State} {m : MethodId} {args : Array Value} {c : Code} {cc : ByteArray} {nL : Nat} {D : va_G} {cy : Nat → ClassId} {lay : List xw_E} {q : Nat → Nat} (X : xr_X p s m args c cc nL RX2 D cy lay q) : xr_F args s RX2 9 2 0 := ⟨RX2, TX2, 13, tyX2, rfl, by decide, fun w h => X.2.2.2.2.1 w (xt_inX2 w h), tyX2_ok, nmX2, Or.inl (X.2.2.2.2.1 _ xt_1_149)⟩
set_option maxRecDepth 100000 in
set_option maxHeartbeats 4000000 in
theorem xc_X2_areKin (l : Launch) (D : va_G) (cy : Nat → ClassId) (q : Nat → Nat) (σ : xw_M) (a1 : Int32) (a2 : Int32) {Z : Int32 → xw_M → Prop} (hU : xu_X2_areKin σ a1 a2 Z) : xr_CI l yX2_areKin cX2_areKin 3 .boolean { frames := 2, cells := 0, slots := 0, locals := 42 } D cy xl_A q σ [.ref (q 4), .int a1, .int a2] Z := by
  refine xr_CI.of RX2 rfl (by decide) (Nat.le_of_ble_eq_true rfl) (fun p e s m below meth c X hw hr hk ls hl => ?_)
  have hx := X.1
  have hb := X.2.1
  have hl : lv_has ls 3 [(0, .ref (q 4)), (1, .int a1), (2, .int a2)] := hl
  unfold xu_X2_areKin at hU
  have hB := hU
  refine lv_iload_n hx hb dX2_areKin_0 rfl (lv_at hl 1 rfl) ?_
  refine xr_i hw (xr_runSN (As := [.int a1]) (rest := []) X hw (xc_X11_isPerson l D cy q σ a1 hB _) xm_X11_isPerson (X.2.2.2.2.2.1.2 _ (List.mem_of_getElem? (i := 3) rfl)) xt_3_78 ⟨Nat.le_of_ble_eq_true rfl, Nat.le_of_ble_eq_true rfl⟩ rfl rfl hl.1 (Nat.le_of_ble_eq_true rfl) dX2_areKin_1 ⟨Nat.zero_le _, Nat.zero_le _⟩) (fun r2 σ1 H locs hB hw => ?_)
  refine lv_if_eq (tgt := 32) hx hb dX2_areKin_4 (by decide) (fun hc => ?_) (fun hc => ?_)
  · replace hB := hB.1 hc
    refine lv_iconst (v := (0 : Int32)) hx hb dX2_areKin_32 (by decide) ?_
    exact xr_zret X hw hr hk hB dX2_areKin_33
  · replace hB := hB.2 hc
    refine lv_iload_n hx hb dX2_areKin_7 rfl (lv_at hl 2 rfl) ?_
    refine xr_i hw (xr_runSN (As := [.int a2]) (rest := []) X hw (xc_X11_isPerson l D cy q σ1 a2 hB _) xm_X11_isPerson (X.2.2.2.2.2.1.2 _ (List.mem_of_getElem? (i := 3) rfl)) xt_3_78 ⟨Nat.le_of_ble_eq_true rfl, Nat.le_of_ble_eq_true rfl⟩ rfl rfl hl.1 (Nat.le_of_ble_eq_true rfl) dX2_areKin_8 ⟨Nat.zero_le _, Nat.zero_le _⟩) (fun r4 σ3 H locs hB hw => ?_)
    refine lv_if_eq (tgt := 32) hx hb dX2_areKin_11 (by decide) (fun hc => ?_) (fun hc => ?_)
    · replace hB := hB.1 hc
      refine lv_iconst (v := (0 : Int32)) hx hb dX2_areKin_32 (by decide) ?_
      exact xr_zret X hw hr hk hB dX2_areKin_33
    · replace hB := hB.2 hc
      refine lv_aload_n hx hb dX2_areKin_14 rfl (lv_at hl 0 rfl) ?_
      refine xr_getr X hw (xf_X2_9 X) 4 xl_A_Kennel_at rfl dX2_areKin_15 ?_
      refine lv_iload_n hx hb dX2_areKin_18 rfl (lv_at hl 1 rfl) ?_
      refine xr_iald X hw 28 xl_A_Kennel_kinBits_at hB.1 dX2_areKin_19 ?_
      replace hB := hB.2
      refine lv_iload_n hx hb dX2_areKin_20 rfl (lv_at hl 2 rfl) ?_
      refine lv_ishr hx hb dX2_areKin_21 ?_
      refine lv_iconst (v := (1 : Int32)) hx hb dX2_areKin_22 (by decide) ?_
      refine lv_iand hx hb dX2_areKin_23 ?_
      refine lv_iconst (v := (1 : Int32)) hx hb dX2_areKin_24 (by decide) ?_
      refine lv_icmp_ne (tgt := 32) hx hb dX2_areKin_25 (by decide) (fun hc => ?_) (fun hc => ?_)
      · replace hB := hB.1 hc
        refine lv_iconst (v := (0 : Int32)) hx hb dX2_areKin_32 (by decide) ?_
        exact xr_zret X hw hr hk hB dX2_areKin_33
      · replace hB := hB.2 hc
        refine lv_iconst (v := (1 : Int32)) hx hb dX2_areKin_28 (by decide) ?_
        refine lv_goto (tgt := 33) hx hb dX2_areKin_29 (by decide) ?_
        exact xr_zret X hw hr hk hB dX2_areKin_33
set_option maxRecDepth 100000 in
set_option maxHeartbeats 4000000 in
theorem xc_X2_makeKin (l : Launch) (D : va_G) (cy : Nat → ClassId) (q : Nat → Nat) (σ : xw_M) (a1 : Int32) (a2 : Int32) {Z : xw_M → Prop} (hU : xu_X2_makeKin σ a1 a2 Z) : xr_CV l yX2_makeKin cX2_makeKin 3 { frames := 2, cells := 0, slots := 0, locals := 42 } D cy xl_A q σ [.ref (q 4), .int a1, .int a2] Z := by
  refine xr_CV.of RX2 rfl (by decide) (Nat.le_of_ble_eq_true rfl) (fun p e s m below meth c X hw hr hk ls hl => ?_)
  have hx := X.1
  have hb := X.2.1
  have hl : lv_has ls 3 [(0, .ref (q 4)), (1, .int a1), (2, .int a2)] := hl
  unfold xu_X2_makeKin at hU
  have hB := hU
  refine lv_iload_n hx hb dX2_makeKin_0 rfl (lv_at hl 1 rfl) ?_
  refine xr_i hw (xr_runSN (As := [.int a1]) (rest := []) X hw (xc_X11_isPerson l D cy q σ a1 hB _) xm_X11_isPerson (X.2.2.2.2.2.1.2 _ (List.mem_of_getElem? (i := 3) rfl)) xt_3_78 ⟨Nat.le_of_ble_eq_true rfl, Nat.le_of_ble_eq_true rfl⟩ rfl rfl hl.1 (Nat.le_of_ble_eq_true rfl) dX2_makeKin_1 ⟨Nat.zero_le _, Nat.zero_le _⟩) (fun r2 σ1 H locs hB hw => ?_)
  refine lv_if_eq (tgt := 38) hx hb dX2_makeKin_4 (by decide) (fun hc => ?_) (fun hc => ?_)
  · replace hB := hB.1 hc
    exact xr_vret X hw hr hk hB dX2_makeKin_38
  · replace hB := hB.2 hc
    refine lv_iload_n hx hb dX2_makeKin_7 rfl (lv_at hl 2 rfl) ?_
    refine xr_i hw (xr_runSN (As := [.int a2]) (rest := []) X hw (xc_X11_isPerson l D cy q σ1 a2 hB _) xm_X11_isPerson (X.2.2.2.2.2.1.2 _ (List.mem_of_getElem? (i := 3) rfl)) xt_3_78 ⟨Nat.le_of_ble_eq_true rfl, Nat.le_of_ble_eq_true rfl⟩ rfl rfl hl.1 (Nat.le_of_ble_eq_true rfl) dX2_makeKin_8 ⟨Nat.zero_le _, Nat.zero_le _⟩) (fun r4 σ3 H locs hB hw => ?_)
    refine lv_if_eq (tgt := 38) hx hb dX2_makeKin_11 (by decide) (fun hc => ?_) (fun hc => ?_)
    · replace hB := hB.1 hc
      exact xr_vret X hw hr hk hB dX2_makeKin_38
    · replace hB := hB.2 hc
      refine lv_aload_n hx hb dX2_makeKin_14 rfl (lv_at hl 0 rfl) ?_
      refine xr_getr X hw (xf_X2_9 X) 4 xl_A_Kennel_at rfl dX2_makeKin_15 ?_
      refine lv_iload_n hx hb dX2_makeKin_18 rfl (lv_at hl 1 rfl) ?_
      refine lv_dup2_11 hx hb dX2_makeKin_19 rfl rfl ?_
      refine xr_iald X hw 28 xl_A_Kennel_kinBits_at hB.1 dX2_makeKin_20 ?_
      replace hB := hB.2
      refine lv_iconst (v := (1 : Int32)) hx hb dX2_makeKin_21 (by decide) ?_
      refine lv_iload_n hx hb dX2_makeKin_22 rfl (lv_at hl 2 rfl) ?_
      refine lv_ishl hx hb dX2_makeKin_23 ?_
      refine lv_ior hx hb dX2_makeKin_24 ?_
      refine xr_iast X hw 28 xl_A_Kennel_kinBits_at hB.1 dX2_makeKin_25 hB.2 (fun σ5 H locs hB hw => ?_)
      refine lv_aload_n hx hb dX2_makeKin_26 rfl (lv_at hl 0 rfl) ?_
      refine xr_getr X hw (xf_X2_9 X) 4 xl_A_Kennel_at rfl dX2_makeKin_27 ?_
      refine lv_iload_n hx hb dX2_makeKin_30 rfl (lv_at hl 2 rfl) ?_
      refine lv_dup2_11 hx hb dX2_makeKin_31 rfl rfl ?_
      refine xr_iald X hw 28 xl_A_Kennel_kinBits_at hB.1 dX2_makeKin_32 ?_
      replace hB := hB.2
      refine lv_iconst (v := (1 : Int32)) hx hb dX2_makeKin_33 (by decide) ?_
      refine lv_iload_n hx hb dX2_makeKin_34 rfl (lv_at hl 1 rfl) ?_
      refine lv_ishl hx hb dX2_makeKin_35 ?_
      refine lv_ior hx hb dX2_makeKin_36 ?_
      refine xr_iast X hw 28 xl_A_Kennel_kinBits_at hB.1 dX2_makeKin_37 hB.2 (fun σ6 H locs hB hw => ?_)
      exact xr_vret X hw hr hk hB dX2_makeKin_38
theorem xf_X11_40 {p : Program} {s : State} {m : MethodId} {args : Array Value} {c : Code} {cc : ByteArray} {nL : Nat} {D : va_G} {cy : Nat → ClassId} {lay : List xw_E} {q : Nat → Nat} (X : xr_X p s m args c cc nL RX11 D cy lay q) : xr_F args s RX11 40 11 3 := ⟨RX11, TX11, 12, tyX11, rfl, by decide, fun w h => X.2.2.2.2.1 w (xt_inX11 w h), tyX11_ok, nmX11, Or.inl (X.2.2.2.2.1 _ xt_2_115)⟩
theorem xm_X2_areKin : xr_MW yX2_areKin cX2_areKin 3 (some .boolean) 2 := ⟨xt_3_86, xt_1_6, by decide, by decide, by decide +kernel⟩
theorem xm_X2_makeKin : xr_MW yX2_makeKin cX2_makeKin 3 none 2 := ⟨xt_3_91, xt_1_6, by decide, by decide, by decide +kernel⟩
set_option maxRecDepth 100000 in
set_option maxHeartbeats 4000000 in
theorem xc_X11_kin (l : Launch) (D : va_G) (cy : Nat → ClassId) (q : Nat → Nat) (σ : xw_M) (a1 : Int32) (a2 : Int32) {Z : Int32 → xw_M → Prop} (hU : xu_X11_kin σ a1 a2 Z) : xr_CI l yX11_kin cX11_kin 3 .boolean { frames := 3, cells := 0, slots := 0, locals := 64 } D cy xl_A q σ [.ref (q 0), .int a1, .int a2] Z := by
  refine xr_CI.of RX11 rfl (by decide) (Nat.le_of_ble_eq_true rfl) (fun p e s m below meth c X hw hr hk ls hl => ?_)
  have hx := X.1
  have hb := X.2.1
  have hl : lv_has ls 3 [(0, .ref (q 0)), (1, .int a1), (2, .int a2)] := hl
  unfold xu_X11_kin at hU
  have hB := hU
  refine lv_iload_n hx hb dX11_kin_0 rfl (lv_at hl 1 rfl) ?_
  refine xr_i hw (xr_runS (As := [.int a1]) (rest := []) X hw (xc_X11_isPerson l D cy q σ a1 hB _) xm_X11_isPerson xt_3_77 xt_3_78 ⟨Nat.le_of_ble_eq_true rfl, Nat.le_of_ble_eq_true rfl⟩ rfl rfl hl.1 (Nat.le_of_ble_eq_true rfl) dX11_kin_1 ⟨Nat.zero_le _, Nat.zero_le _⟩) (fun r2 σ1 H locs hB hw => ?_)
  refine lv_if_eq (tgt := 31) hx hb dX11_kin_4 (by decide) (fun hc => ?_) (fun hc => ?_)
  · replace hB := hB.1 hc
    refine lv_iconst (v := (0 : Int32)) hx hb dX11_kin_31 (by decide) ?_
    exact xr_zret X hw hr hk hB dX11_kin_32
  · replace hB := hB.2 hc
    refine lv_iload_n hx hb dX11_kin_7 rfl (lv_at hl 2 rfl) ?_
    refine xr_i hw (xr_runS (As := [.int a2]) (rest := []) X hw (xc_X11_isPerson l D cy q σ1 a2 hB _) xm_X11_isPerson xt_3_77 xt_3_78 ⟨Nat.le_of_ble_eq_true rfl, Nat.le_of_ble_eq_true rfl⟩ rfl rfl hl.1 (Nat.le_of_ble_eq_true rfl) dX11_kin_8 ⟨Nat.zero_le _, Nat.zero_le _⟩) (fun r4 σ3 H locs hB hw => ?_)
    refine lv_if_eq (tgt := 31) hx hb dX11_kin_11 (by decide) (fun hc => ?_) (fun hc => ?_)
    · replace hB := hB.1 hc
      refine lv_iconst (v := (0 : Int32)) hx hb dX11_kin_31 (by decide) ?_
      exact xr_zret X hw hr hk hB dX11_kin_32
    · replace hB := hB.2 hc
      refine lv_iload_n hx hb dX11_kin_14 rfl (lv_at hl 1 rfl) ?_
      refine lv_iload_n hx hb dX11_kin_15 rfl (lv_at hl 2 rfl) ?_
      refine lv_icmp_eq (tgt := 31) hx hb dX11_kin_16 (by decide) (fun hc => ?_) (fun hc => ?_)
      · replace hB := hB.1 hc
        refine lv_iconst (v := (0 : Int32)) hx hb dX11_kin_31 (by decide) ?_
        exact xr_zret X hw hr hk hB dX11_kin_32
      · replace hB := hB.2 hc
        refine lv_aload_n hx hb dX11_kin_19 rfl (lv_at hl 0 rfl) ?_
        refine xr_getr X hw (xf_X11_40 X) 0 xl_A_ShowRings_at rfl dX11_kin_20 ?_
        refine lv_iload_n hx hb dX11_kin_23 rfl (lv_at hl 1 rfl) ?_
        refine lv_iload_n hx hb dX11_kin_24 rfl (lv_at hl 2 rfl) ?_
        refine xr_i hw (xr_runV (As := [.int a1, .int a2]) (rest := []) X hw 4 (xc_X2_areKin l D cy q σ3 a1 a2 hB _) xm_X2_areKin xt_3_83 xt_3_84 xt_3_85 ⟨Nat.le_of_ble_eq_true rfl, Nat.le_of_ble_eq_true rfl⟩ xl_A_Kennel_at rfl rfl rfl rfl hl.1 (Nat.le_of_ble_eq_true rfl) dX11_kin_25 ⟨Nat.zero_le _, Nat.zero_le _⟩) (fun r6 σ5 H locs hB hw => ?_)
        refine lv_if_eq (tgt := 33) hx hb dX11_kin_28 (by decide) (fun hc => ?_) (fun hc => ?_)
        · replace hB := hB.1 hc
          refine lv_aload_n hx hb dX11_kin_33 rfl (lv_at hl 0 rfl) ?_
          refine xr_getr X hw (xf_X11_40 X) 0 xl_A_ShowRings_at rfl dX11_kin_34 ?_
          refine lv_iload_n hx hb dX11_kin_37 rfl (lv_at hl 1 rfl) ?_
          refine lv_iload_n hx hb dX11_kin_38 rfl (lv_at hl 2 rfl) ?_
          refine xr_v hw (xr_runV (As := [.int a1, .int a2]) (rest := []) X hw 4 (xc_X2_makeKin l D cy q σ5 a1 a2 hB _) xm_X2_makeKin xt_3_88 xt_3_89 xt_3_90 ⟨Nat.le_of_ble_eq_true rfl, Nat.le_of_ble_eq_true rfl⟩ xl_A_Kennel_at rfl rfl rfl rfl hl.1 (Nat.le_of_ble_eq_true rfl) dX11_kin_39 ⟨Nat.zero_le _, Nat.zero_le _⟩) (fun σ7 H locs hB hw => ?_)
          refine lv_iconst (v := (1 : Int32)) hx hb dX11_kin_42 (by decide) ?_
          exact xr_zret X hw hr hk hB dX11_kin_43
        · replace hB := hB.2 hc
          refine lv_iconst (v := (0 : Int32)) hx hb dX11_kin_31 (by decide) ?_
          exact xr_zret X hw hr hk hB dX11_kin_32
