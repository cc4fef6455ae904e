theorem xm_X5_winnerOf : xr_MW yX5_winnerOf cX5_winnerOf 9 (some .int) 3 := ⟨xt_4_111, xt_1_11, by decide, by decide, by decide +kernel⟩
set_option maxRecDepth 100000 in
set_option maxHeartbeats 4000000 in
theorem xc_X11_winner (l : Launch) (D : va_G) (cy : Nat → ClassId) (q : Nat → Nat) (σ : xw_M) (a1 : Int32) (a2 : Int32) (a3 : Int32) {Z : Int32 → xw_M → Prop} (hU : xu_X11_winner σ a1 a2 a3 Z) : xr_CI l yX11_winner cX11_winner 4 .int { frames := 6, cells := 0, slots := 0, locals := 157 } D cy xl_A q σ [.ref (q 0), .int a1, .int a2, .int a3] Z := by
  refine xr_CI.of RX11 rfl (by decide) (Nat.le_of_ble_eq_true rfl) (fun p e s m below meth c X hw hr hk ls hl => ?_)
  have hx := X.1
  have hb := X.2.1
  have hl : lv_has ls 4 [(0, .ref (q 0)), (1, .int a1), (2, .int a2), (3, .int a3)] := hl
  unfold xu_X11_winner at hU
  have hB := hU
  refine lv_aload_n hx hb dX11_winner_0 rfl (lv_at hl 0 rfl) ?_
  refine lv_iload_n hx hb dX11_winner_1 rfl (lv_at hl 1 rfl) ?_
  refine xr_i hw (xr_runV (As := [.int a1]) (rest := []) X hw 0 (xc_X11_isShow l D cy q σ a1 hB _) xm_X11_isShow xt_3_131 xt_3_133 xt_p_14 ⟨Nat.le_of_ble_eq_true rfl, Nat.le_of_ble_eq_true rfl⟩ xl_A_ShowRings_at rfl rfl rfl rfl hl.1 (Nat.le_of_ble_eq_true rfl) dX11_winner_2 ⟨Nat.zero_le _, Nat.zero_le _⟩) (fun r2 σ1 H locs hB hw => ?_)
  refine lv_if_eq (tgt := 24) hx hb dX11_winner_5 (by decide) (fun hc => ?_) (fun hc => ?_)
  · replace hB := hB.1 hc
    refine lv_iconst (v := (-1 : Int32)) hx hb dX11_winner_24 (by decide) ?_
    exact xr_iret X hw hr hk hB dX11_winner_25
  · replace hB := hB.2 hc
    refine lv_aload_n hx hb dX11_winner_8 rfl (lv_at hl 0 rfl) ?_
    refine lv_iload_n hx hb dX11_winner_9 rfl (lv_at hl 2 rfl) ?_
    refine xr_i hw (xr_runV (As := [.int a2]) (rest := []) X hw 0 (xc_X11_isBreed l D cy q σ1 a2 hB _) xm_X11_isBreed xt_3_104 xt_3_106 xt_p_13 ⟨Nat.le_of_ble_eq_true rfl, Nat.le_of_ble_eq_true rfl⟩ xl_A_ShowRings_at rfl rfl rfl rfl hl.1 (Nat.le_of_ble_eq_true rfl) dX11_winner_10 ⟨Nat.zero_le _, Nat.zero_le _⟩) (fun r4 σ3 H locs hB hw => ?_)
    refine lv_if_eq (tgt := 24) hx hb dX11_winner_13 (by decide) (fun hc => ?_) (fun hc => ?_)
    · replace hB := hB.1 hc
      refine lv_iconst (v := (-1 : Int32)) hx hb dX11_winner_24 (by decide) ?_
      exact xr_iret X hw hr hk hB dX11_winner_25
    · replace hB := hB.2 hc
      refine lv_aload_n hx hb dX11_winner_16 rfl (lv_at hl 0 rfl) ?_
      refine lv_iload_n hx hb dX11_winner_17 rfl (lv_at hl 3 rfl) ?_
      refine xr_i hw (xr_runV (As := [.int a3]) (rest := []) X hw 0 (xc_X11_isKnown l D cy q σ3 a3 hB _) xm_X11_isKnown xt_3_192 xt_3_194 xt_p_17 ⟨Nat.le_of_ble_eq_true rfl, Nat.le_of_ble_eq_true rfl⟩ xl_A_ShowRings_at rfl rfl rfl rfl hl.1 (Nat.le_of_ble_eq_true rfl) dX11_winner_18 ⟨Nat.zero_le _, Nat.zero_le _⟩) (fun r6 σ5 H locs hB hw => ?_)
      refine lv_if_ne (tgt := 26) hx hb dX11_winner_21 (by decide) (fun hc => ?_) (fun hc => ?_)
      · replace hB := hB.1 hc
        refine lv_aload_n hx hb dX11_winner_26 rfl (lv_at hl 0 rfl) ?_
        refine xr_getr X hw (xf_X11_76 X) 0 xl_A_ShowRings_at rfl dX11_winner_27 ?_
        refine lv_aload_n hx hb dX11_winner_30 rfl (lv_at hl 0 rfl) ?_
        refine xr_getr X hw (xf_X11_82 X) 0 xl_A_ShowRings_at rfl dX11_winner_31 ?_
        refine lv_iload_n hx hb dX11_winner_34 rfl (lv_at hl 1 rfl) ?_
        have hi7 := hB.1
        refine xr_aald X hw 23 xl_A_ShowRings_shows_at hi7 dX11_winner_35 ?_
        replace hB := hB.2
        refine lv_iload_n hx hb dX11_winner_36 rfl (lv_at hl 2 rfl) ?_
        refine lv_iload_n hx hb dX11_winner_37 rfl (lv_at hl 3 rfl) ?_
        refine xr_i hw (xr_runV (As := [.ref (q (11 + (Int32.toNatClampNeg a1))), .int a2, .int a3]) (rest := []) X hw 8 (xc_X5_winnerOf l D cy q σ5 (Int32.toNatClampNeg a1) a2 a3 (xr_lt hi7) hB _) xm_X5_winnerOf xt_4_108 xt_4_109 xt_4_110 ⟨Nat.le_of_ble_eq_true rfl, Nat.le_of_ble_eq_true rfl⟩ xl_A_Results_at rfl rfl rfl rfl hl.1 (Nat.le_of_ble_eq_true rfl) dX11_winner_38 ⟨Nat.zero_le _, Nat.zero_le _⟩) (fun r9 σ8 H locs hB hw => ?_)
        exact xr_iret X hw hr hk hB dX11_winner_41
      · replace hB := hB.2 hc
        refine lv_iconst (v := (-1 : Int32)) hx hb dX11_winner_24 (by decide) ?_
        exact xr_iret X hw hr hk hB dX11_winner_25
set_option maxRecDepth 100000 in
set_option maxHeartbeats 4000000 in
theorem xc_X9_termOf (l : Launch) (D : va_G) (cy : Nat → ClassId) (q : Nat → Nat) (σ : xw_M) (o0 : Nat) (a1 : Int32) (h0 : o0 < 2) {Z : Int32 → xw_M → Prop} (hU : xu_X9_termOf σ o0 a1 Z) : xr_CI l yX9_termOf cX9_termOf 3 .int { frames := 1, cells := 0, slots := 0, locals := 29 } D cy xl_A q σ [.ref (q (9 + o0)), .int a1, .ref (q 44)] Z := by
  refine xr_CI.of RX9 rfl (by decide) (Nat.le_of_ble_eq_true rfl) (fun p e s m below meth c X hw hr hk ls hl => ?_)
  have hx := X.1
  have hb := X.2.1
  have hl : lv_has ls 3 [(0, .ref (q (9 + o0))), (1, .int a1), (2, .ref (q 44))] := hl
  unfold xu_X9_termOf at hU
  have hB := hU
  refine lv_iload_n hx hb dX9_termOf_0 rfl (lv_at hl 1 rfl) ?_
  refine lv_if_lt (tgt := 12) hx hb dX9_termOf_1 (by decide) (fun hc => ?_) (fun hc => ?_)
  · replace hB := hB.1 hc
    refine lv_iconst (v := (0 : Int32)) hx hb dX9_termOf_12 (by decide) ?_
    exact xr_iret X hw hr hk hB dX9_termOf_13
  · replace hB := hB.2 hc
    refine lv_iload_n hx hb dX9_termOf_4 rfl (lv_at hl 1 rfl) ?_
    refine lv_aload_n hx hb dX9_termOf_5 rfl (lv_at hl 0 rfl) ?_
    refine xr_geti X hw (xf_X9_39 X) (9 + o0) (xl_A_Text_at (i := o0) h0) rfl dX9_termOf_6 ?_
    refine lv_icmp_lt (tgt := 14) hx hb dX9_termOf_9 (by decide) (fun hc => ?_) (fun hc => ?_)
    · replace hB := hB.1 hc
      refine lv_aload_n hx hb dX9_termOf_14 rfl (lv_at hl 0 rfl) ?_
      refine lv_aload_n hx hb dX9_termOf_15 rfl (lv_at hl 0 rfl) ?_
      refine xr_getr X hw (xf_X9_21 X) (9 + o0) (xl_A_Text_at (i := o0) h0) rfl dX9_termOf_16 ?_
      refine lv_iload_n hx hb dX9_termOf_19 rfl (lv_at hl 1 rfl) ?_
      refine xr_iald X hw (54 + o0) (xl_A_Text_termFrom_at (i := o0) h0) hB.1 dX9_termOf_20 ?_
      replace hB := hB.2
      refine lv_aload_n hx hb dX9_termOf_21 rfl (lv_at hl 0 rfl) ?_
      refine xr_getr X hw (xf_X9_24 X) (9 + o0) (xl_A_Text_at (i := o0) h0) rfl dX9_termOf_22 ?_
      refine lv_iload_n hx hb dX9_termOf_25 rfl (lv_at hl 1 rfl) ?_
      refine xr_iald X hw (56 + o0) (xl_A_Text_condFrom_at (i := o0) h0) hB.1 dX9_termOf_26 ?_
      replace hB := hB.2
      refine lv_aload_n hx hb dX9_termOf_27 rfl (lv_at hl 2 rfl) ?_
      refine xr_i hw (xr_runV (As := [.int (σ.1 (54 + o0) (Int32.toNatClampNeg a1)), .int (σ.1 (56 + o0) (Int32.toNatClampNeg a1)), .ref (q 44)]) (rest := []) X hw (9 + o0) (xc_X9_valueOf l D cy q σ o0 (σ.1 (54 + o0) (Int32.toNatClampNeg a1)) (σ.1 (56 + o0) (Int32.toNatClampNeg a1)) h0 hB _) xm_X9_valueOf xt_3_156 xt_3_158 xt_p_16 ⟨Nat.le_of_ble_eq_true rfl, Nat.le_of_ble_eq_true rfl⟩ (xl_A_Text_at (i := o0) h0) rfl rfl rfl rfl hl.1 (Nat.le_of_ble_eq_true rfl) dX9_termOf_28 ⟨Nat.zero_le _, Nat.zero_le _⟩) (fun r2 σ1 H locs hB hw => ?_)
      exact xr_iret X hw hr hk hB dX9_termOf_31
    · replace hB := hB.2 hc
      refine lv_iconst (v := (0 : Int32)) hx hb dX9_termOf_12 (by decide) ?_
      exact xr_iret X hw hr hk hB dX9_termOf_13
theorem xm_X9_termOf : xr_MW yX9_termOf cX9_termOf 3 (some .int) 2 := ⟨xt_4_133, xt_1_3, by decide, by decide, by decide +kernel⟩
set_option maxRecDepth 100000 in
set_option maxHeartbeats 4000000 in
theorem xc_X0_pointsFor (l : Launch) (D : va_G) (cy : Nat → ClassId) (q : Nat → Nat) (σ : xw_M) (o1 : Nat) (a2 : Int32) (a3 : Int32) (h1 : o1 < 5) {Z : Int32 → xw_M → Prop} (hU : xu_X0_pointsFor σ o1 a2 a3 Z) : xr_CI l yX0_pointsFor cX0_pointsFor 5 .int { frames := 3, cells := 0, slots := 0, locals := 77 } D cy xl_A q σ [.ref (q 6), .ref (q (11 + o1)), .int a2, .int a3] Z := by
  refine xr_CI.of RX0 rfl (by decide) (Nat.le_of_ble_eq_true rfl) (fun p e s m below meth c X hw hr hk ls hl => ?_)
  have hx := X.1
  have hb := X.2.1
  have hl : lv_has ls 5 [(0, .ref (q 6)), (1, .ref (q (11 + o1))), (2, .int a2), (3, .int a3)] := hl
  unfold xu_X0_pointsFor at hU
  have hB := hU
  refine lv_aload_n hx hb dX0_pointsFor_0 rfl (lv_at hl 0 rfl) ?_
  refine lv_aload_n hx hb dX0_pointsFor_1 rfl (lv_at hl 1 rfl) ?_
  refine lv_iload_n hx hb dX0_pointsFor_2 rfl (lv_at hl 2 rfl) ?_
  refine xr_i hw (xr_runV (As := [.ref (q (11 + o1)), .int a2]) (rest := []) X hw 6 (xc_X0_classOf l D cy q σ o1 a2 h1 hB _) xm_X0_classOf xt_3_222 xt_3_145 xt_3_146 ⟨Nat.le_of_ble_eq_true rfl, Nat.le_of_ble_eq_true rfl⟩ xl_A_Club_at rfl rfl rfl rfl hl.1 (Nat.le_of_ble_eq_true rfl) dX0_pointsFor_3 ⟨Nat.zero_le _, Nat.zero_le _⟩) (fun r2 σ1 H locs hB hw => ?_)
  refine lv_istore (lv' := [(4, .int r2), (0, .ref (q 6)), (1, .ref (q (11 + o1))), (2, .int a2), (3, .int a3)]) hx hb dX0_pointsFor_6 hl (by decide) rfl (fun ls hl => ?_)
  refine lv_aload_n hx hb dX0_pointsFor_8 rfl (lv_at hl 1 rfl) ?_
  refine xr_getr X hw (xf_X0_9 X) 6 xl_A_Club_at rfl dX0_pointsFor_9 ?_
  refine lv_iconst (v := (4 : Int32)) hx hb dX0_pointsFor_12 (by decide) ?_
  refine lv_iload hx hb dX0_pointsFor_13 (lv_at hl 0 rfl) ?_
  refine xr_iast X hw 44 xl_A_Club_vars_at hB.1 dX0_pointsFor_15 hB.2 (fun σ3 H locs hB hw => ?_)
  refine lv_aload_n hx hb dX0_pointsFor_16 rfl (lv_at hl 1 rfl) ?_
  refine xr_getr X hw (xf_X0_9 X) 6 xl_A_Club_at rfl dX0_pointsFor_17 ?_
  refine lv_bipush (v := (8 : Int32)) hx hb dX0_pointsFor_20 (by decide) ?_
  refine lv_iload_n hx hb dX0_pointsFor_22 rfl (lv_at hl 4 rfl) ?_
  refine xr_iast X hw 44 xl_A_Club_vars_at hB.1 dX0_pointsFor_23 hB.2 (fun σ4 H locs hB hw => ?_)
  refine lv_aload_n hx hb dX0_pointsFor_24 rfl (lv_at hl 1 rfl) ?_
  refine xr_getr X hw (xf_X0_15 X) 6 xl_A_Club_at rfl dX0_pointsFor_25 ?_
  refine lv_aload_n hx hb dX0_pointsFor_28 rfl (lv_at hl 1 rfl) ?_
  refine xr_getr X hw (xf_X0_15 X) 6 xl_A_Club_at rfl dX0_pointsFor_29 ?_
  refine lv_bipush (v := (11 : Int32)) hx hb dX0_pointsFor_32 (by decide) ?_
  refine lv_aload_n hx hb dX0_pointsFor_34 rfl (lv_at hl 1 rfl) ?_
  refine xr_getr X hw (xf_X0_9 X) 6 xl_A_Club_at rfl dX0_pointsFor_35 ?_
  refine xr_i hw (xr_runV (As := [.int (11 : Int32), .ref (q 44)]) (rest := [.ref (q 9)]) X hw 9 (xc_X9_firstHolding l D cy q σ4 0 (11 : Int32) (by decide) hB _) xm_X9_firstHolding xt_3_152 xt_3_153 xt_3_154 ⟨Nat.le_of_ble_eq_true rfl, Nat.le_of_ble_eq_true rfl⟩ (xl_A_Text_at (i := 0) (by decide)) rfl rfl rfl rfl hl.1 (Nat.le_of_ble_eq_true rfl) dX0_pointsFor_38 ⟨Nat.zero_le _, Nat.zero_le _⟩) (fun r6 σ5 H locs hB hw => ?_)
  refine lv_aload_n hx hb dX0_pointsFor_41 rfl (lv_at hl 1 rfl) ?_
  refine xr_getr X hw (xf_X0_9 X) 6 xl_A_Club_at rfl dX0_pointsFor_42 ?_
  refine xr_i hw (xr_runV (As := [.int r6, .ref (q 44)]) (rest := []) X hw 9 (xc_X9_termOf l D cy q σ5 0 r6 (by decide) hB _) xm_X9_termOf xt_4_130 xt_4_131 xt_4_132 ⟨Nat.le_of_ble_eq_true rfl, Nat.le_of_ble_eq_true rfl⟩ (xl_A_Text_at (i := 0) (by decide)) rfl rfl rfl rfl hl.1 (Nat.le_of_ble_eq_true rfl) dX0_pointsFor_45 ⟨Nat.zero_le _, Nat.zero_le _⟩) (fun r8 σ7 H locs hB hw => ?_)
  exact xr_iret X hw hr hk hB dX0_pointsFor_48
theorem xm_X0_pointsFor : xr_MW yX0_pointsFor cX0_pointsFor 5 (some .int) 3 := ⟨xt_4_129, xt_1_8, by decide, by decide, by decide +kernel⟩
set_option maxRecDepth 100000 in
set_option maxHeartbeats 4000000 in
theorem xc_X5_pointsOfWinner (l : Launch) (D : va_G) (cy : Nat → ClassId) (q : Nat → Nat) (σ : xw_M) (o1 : Nat) (a2 : Int32) (a3 : Int32) (h1 : o1 < 5) {Z : Int32 → xw_M → Prop} (hU : xu_X5_pointsOfWinner σ o1 a2 a3 Z) : xr_CI l yX5_pointsOfWinner cX5_pointsOfWinner 7 .int { frames := 5, cells := 0, slots := 0, locals := 129 } D cy xl_A q σ [.ref (q 8), .ref (q (11 + o1)), .int a2, .int a3] Z := by
  refine xr_CI.of RX5 rfl (by decide) (Nat.le_of_ble_eq_true rfl) (fun p e s m below meth c X hw hr hk ls hl => ?_)
  have hx := X.1
  have hb := X.2.1
  have hl : lv_has ls 7 [(0, .ref (q 8)), (1, .ref (q (11 + o1))), (2, .int a2), (3, .int a3)] := hl
  have hB := hU (fun (σ : xw_M) (v4 : Int32) (v5 : Int32) (v6 : Int32) => ∀ (H : Heap) (locs : List Loc) (ls : Array Slot), xr_H D cy xl_A q s σ H locs → lv_has ls 7 [(0, .ref (q 8)), (1, .ref (q (11 + o1))), (2, .int a2), (3, .int a3), (4, .int v4), (5, .int v5), (6, .int v6)] → W p l e ({ frames := 5, cells := 0, slots := 0, locals := 129 } : Room) s m ([.ref (q 8), .ref (q (11 + o1)), .int a2, .int a3] : List Value).toArray below meth c H locs 0 0 (MQ below (va_Qi Z (xr_po D cy xl_A q) (xw_A xl_A q s.heap.size)) ([.ref (q 8), .ref (q (11 + o1)), .int a2, .int a3] : List Value).toArray s 0 0 (xw_A xl_A q s.heap.size)) (F0 m 17 ls []))
    (by
    intro σ v4 v5 v6 hB H locs ls hw hl
    unfold xb_X5_pointsOfWinner_17 at hB
    refine lv_iload hx hb dX5_pointsOfWinner_17 (lv_at hl 6 rfl) ?_
    refine lv_aload_n hx hb dX5_pointsOfWinner_19 rfl (lv_at hl 0 rfl) ?_
    refine xr_getr X hw (xf_X5_9 X) 8 xl_A_Results_at rfl dX5_pointsOfWinner_20 ?_
    refine xr_geti X hw (xf_X5_72 X) 4 xl_A_Kennel_at rfl dX5_pointsOfWinner_23 ?_
    refine lv_icmp_ge (tgt := 70) hx hb dX5_pointsOfWinner_26 (by decide) (fun hc => ?_) (fun hc => ?_)
    · replace hB := hB.1 hc
      refine lv_aload_n hx hb dX5_pointsOfWinner_70 rfl (lv_at hl 0 rfl) ?_
      refine xr_getr X hw (xf_X5_19 X) 8 xl_A_Results_at rfl dX5_pointsOfWinner_71 ?_
      refine lv_aload_n hx hb dX5_pointsOfWinner_74 rfl (lv_at hl 1 rfl) ?_
      refine lv_iload_n hx hb dX5_pointsOfWinner_75 rfl (lv_at hl 2 rfl) ?_
      refine lv_iload hx hb dX5_pointsOfWinner_76 (lv_at hl 5 rfl) ?_
      refine xr_i hw (xr_runV (As := [.ref (q (11 + o1)), .int a2, .int v5]) (rest := []) X hw 6 (xc_X0_pointsFor l D cy q σ o1 a2 v5 h1 hB _) xm_X0_pointsFor xt_4_126 xt_4_127 xt_4_128 ⟨Nat.le_of_ble_eq_true rfl, Nat.le_of_ble_eq_true rfl⟩ xl_A_Club_at rfl rfl rfl rfl hl.1 (Nat.le_of_ble_eq_true rfl) dX5_pointsOfWinner_78 ⟨Nat.zero_le _, Nat.zero_le _⟩) (fun r2 σ1 H locs hB hw => ?_)
      exact xr_iret X hw hr hk hB dX5_pointsOfWinner_81
    · replace hB := hB.2 hc
      refine lv_iload hx hb dX5_pointsOfWinner_29 (lv_at hl 6 rfl) ?_
      refine lv_iload_n hx hb dX5_pointsOfWinner_31 rfl (lv_at hl 2 rfl) ?_
      refine lv_icmp_eq (tgt := 64) hx hb dX5_pointsOfWinner_32 (by decide) (fun hc => ?_) (fun hc => ?_)
      · replace hB := hB.1 hc
        refine lv_iinc (v := (v6 + (1 : Int32))) (lv' := [(6, .int (v6 + (1 : Int32))), (0, .ref (q 8)), (1, .ref (q (11 + o1))), (2, .int a2), (3, .int a3), (4, .int v4), (5, .int v5)]) hx hb dX5_pointsOfWinner_64 hl (k := 6) rfl rfl (by decide) rfl (fun ls hl => ?_)
        refine lv_goto (tgt := 17) hx hb dX5_pointsOfWinner_67 (by decide) ?_
        exact hB _ _ _ hw (lv_sub hl [1, 2, 3, 4, 5, 6, 0] rfl)
      · replace hB := hB.2 hc
        refine lv_aload_n hx hb dX5_pointsOfWinner_35 rfl (lv_at hl 0 rfl) ?_
        refine xr_getr X hw (xf_X5_9 X) 8 xl_A_Results_at rfl dX5_pointsOfWinner_36 ?_
        refine xr_getr X hw (xf_X5_39 X) 4 xl_A_Kennel_at rfl dX5_pointsOfWinner_39 ?_
        refine lv_iload hx hb dX5_pointsOfWinner_42 (lv_at hl 6 rfl) ?_
        refine xr_iald X hw 34 xl_A_Kennel_breed_at hB.1 dX5_pointsOfWinner_44 ?_
        replace hB := hB.2
        refine lv_iload hx hb dX5_pointsOfWinner_45 (lv_at hl 4 rfl) ?_
        refine lv_icmp_ne (tgt := 64) hx hb dX5_pointsOfWinner_47 (by decide) (fun hc => ?_) (fun hc => ?_)
        · replace hB := hB.1 hc
          refine lv_iinc (v := (v6 + (1 : Int32))) (lv' := [(6, .int (v6 + (1 : Int32))), (0, .ref (q 8)), (1, .ref (q (11 + o1))), (2, .int a2), (3, .int a3), (4, .int v4), (5, .int v5)]) hx hb dX5_pointsOfWinner_64 hl (k := 6) rfl rfl (by decide) rfl (fun ls hl => ?_)
          refine lv_goto (tgt := 17) hx hb dX5_pointsOfWinner_67 (by decide) ?_
          exact hB _ _ _ hw (lv_sub hl [1, 2, 3, 4, 5, 6, 0] rfl)
        · replace hB := hB.2 hc
          refine lv_aload_n hx hb dX5_pointsOfWinner_50 rfl (lv_at hl 0 rfl) ?_
          refine lv_aload_n hx hb dX5_pointsOfWinner_51 rfl (lv_at hl 1 rfl) ?_
          refine lv_iload hx hb dX5_pointsOfWinner_52 (lv_at hl 6 rfl) ?_
          refine lv_iload_n hx hb dX5_pointsOfWinner_54 rfl (lv_at hl 3 rfl) ?_
          refine xr_i hw (xr_runV (As := [.ref (q (11 + o1)), .int v6, .int a3]) (rest := []) X hw 8 (xc_X5_standing l D cy q σ o1 v6 a3 h1 hB _) xm_X5_standing xt_4_117 xt_4_75 xt_4_76 ⟨Nat.le_of_ble_eq_true rfl, Nat.le_of_ble_eq_true rfl⟩ xl_A_Results_at rfl rfl rfl rfl hl.1 (Nat.le_of_ble_eq_true rfl) dX5_pointsOfWinner_55 ⟨Nat.zero_le _, Nat.zero_le _⟩) (fun r4 σ3 H locs hB hw => ?_)
          refine lv_if_ne (tgt := 64) hx hb dX5_pointsOfWinner_58 (by decide) (fun hc => ?_) (fun hc => ?_)
          · replace hB := hB.1 hc
            refine lv_iinc (v := (v6 + (1 : Int32))) (lv' := [(6, .int (v6 + (1 : Int32))), (0, .ref (q 8)), (1, .ref (q (11 + o1))), (2, .int a2), (3, .int a3), (4, .int v4), (5, .int v5)]) hx hb dX5_pointsOfWinner_64 hl (k := 6) rfl rfl (by decide) rfl (fun ls hl => ?_)
            refine lv_goto (tgt := 17) hx hb dX5_pointsOfWinner_67 (by decide) ?_
            exact hB _ _ _ hw (lv_sub hl [1, 2, 3, 4, 5, 6, 0] rfl)
          · replace hB := hB.2 hc
            refine lv_iinc (v := (v5 + (1 : Int32))) (lv' := [(5, .int (v5 + (1 : Int32))), (0, .ref (q 8)), (1, .ref (q (11 + o1))), (2, .int a2), (3, .int a3), (4, .int v4), (6, .int v6)]) hx hb dX5_pointsOfWinner_61 hl (k := 5) rfl rfl (by decide) rfl (fun ls hl => ?_)
            refine lv_iinc (v := (v6 + (1 : Int32))) (lv' := [(6, .int (v6 + (1 : Int32))), (5, .int (v5 + (1 : Int32))), (0, .ref (q 8)), (1, .ref (q (11 + o1))), (2, .int a2), (3, .int a3), (4, .int v4)]) hx hb dX5_pointsOfWinner_64 hl (k := 6) rfl rfl (by decide) rfl (fun ls hl => ?_)
            refine lv_goto (tgt := 17) hx hb dX5_pointsOfWinner_67 (by decide) ?_
            exact hB _ _ _ hw (lv_sub hl [2, 3, 4, 5, 6, 1, 0] rfl))
  unfold xb_X5_pointsOfWinner_e at hB
  refine lv_aload_n hx hb dX5_pointsOfWinner_0 rfl (lv_at hl 0 rfl) ?_
  refine xr_getr X hw (xf_X5_9 X) 8 xl_A_Results_at rfl dX5_pointsOfWinner_1 ?_
  refine xr_getr X hw (xf_X5_39 X) 4 xl_A_Kennel_at rfl dX5_pointsOfWinner_4 ?_
  refine lv_iload_n hx hb dX5_pointsOfWinner_7 rfl (lv_at hl 2 rfl) ?_
  refine xr_iald X hw 34 xl_A_Kennel_breed_at hB.1 dX5_pointsOfWinner_8 ?_
  replace hB := hB.2
  refine lv_istore (lv' := [(4, .int (σ.1 34 (Int32.toNatClampNeg a2))), (0, .ref (q 8)), (1, .ref (q (11 + o1))), (2, .int a2), (3, .int a3)]) hx hb dX5_pointsOfWinner_9 hl (by decide) rfl (fun ls hl => ?_)
  refine lv_iconst (v := (0 : Int32)) hx hb dX5_pointsOfWinner_11 (by decide) ?_
  refine lv_istore (lv' := [(5, .int (0 : Int32)), (4, .int (σ.1 34 (Int32.toNatClampNeg a2))), (0, .ref (q 8)), (1, .ref (q (11 + o1))), (2, .int a2), (3, .int a3)]) hx hb dX5_pointsOfWinner_12 hl (by decide) rfl (fun ls hl => ?_)
  refine lv_iconst (v := (0 : Int32)) hx hb dX5_pointsOfWinner_14 (by decide) ?_
  refine lv_istore (lv' := [(6, .int (0 : Int32)), (5, .int (0 : Int32)), (4, .int (σ.1 34 (Int32.toNatClampNeg a2))), (0, .ref (q 8)), (1, .ref (q (11 + o1))), (2, .int a2), (3, .int a3)]) hx hb dX5_pointsOfWinner_15 hl (by decide) rfl (fun ls hl => ?_)
  exact hB _ _ _ hw (lv_sub hl [3, 4, 5, 6, 2, 1, 0] rfl)
theorem xm_X5_pointsOfWinner : xr_MW yX5_pointsOfWinner cX5_pointsOfWinner 7 (some .int) 3 := ⟨xt_4_125, xt_1_11, by decide, by decide, by decide +kernel⟩
set_option maxRecDepth 100000 in
set_option maxHeartbeats 4000000 in
theorem xc_X11_points (l : Launch) (D : va_G) (cy : Nat → ClassId) (q : Nat → Nat) (σ : xw_M) (a1 : Int32) (a2 : Int32) (a3 : Int32) {Z : Int32 → xw_M → Prop} (hU : xu_X11_points σ a1 a2 a3 Z) : xr_CI l yX11_points cX11_points 4 .int { frames := 6, cells := 0, slots := 0, locals := 157 } D cy xl_A q σ [.ref (q 0), .int a1, .int a2, .int a3] Z := by
  refine xr_CI.of RX11 rfl (by decide) (Nat.le_of_ble_eq_true rfl) (fun p e s m below meth c X hw hr hk ls hl => ?_)
  have hx := X.1
  have hb := X.2.1
  have hl : lv_has ls 4 [(0, .ref (q 0)), (1, .int a1), (2, .int a2), (3, .int a3)] := hl
  unfold xu_X11_points at hU
  have hB := hU
  refine lv_aload_n hx hb dX11_points_0 rfl (lv_at hl 0 rfl) ?_
  refine lv_iload_n hx hb dX11_points_1 rfl (lv_at hl 1 rfl) ?_
  refine xr_i hw (xr_runV (As := [.int a1]) (rest := []) X hw 0 (xc_X11_isShow l D cy q σ a1 hB _) xm_X11_isShow xt_3_131 xt_3_133 xt_p_14 ⟨Nat.le_of_ble_eq_true rfl, Nat.le_of_ble_eq_true rfl⟩ xl_A_ShowRings_at rfl rfl rfl rfl hl.1 (Nat.le_of_ble_eq_true rfl) dX11_points_2 ⟨Nat.zero_le _, Nat.zero_le _⟩) (fun r2 σ1 H locs hB hw => ?_)
  refine lv_if_eq (tgt := 24) hx hb dX11_points_5 (by decide) (fun hc => ?_) (fun hc => ?_)
  · replace hB := hB.1 hc
    refine lv_iconst (v := (0 : Int32)) hx hb dX11_points_24 (by decide) ?_
    exact xr_iret X hw hr hk hB dX11_points_25
  · replace hB := hB.2 hc
    refine lv_aload_n hx hb dX11_points_8 rfl (lv_at hl 0 rfl) ?_
    refine lv_iload_n hx hb dX11_points_9 rfl (lv_at hl 2 rfl) ?_
    refine xr_i hw (xr_runV (As := [.int a2]) (rest := []) X hw 0 (xc_X11_isDog l D cy q σ1 a2 hB _) xm_X11_isDog xt_3_135 xt_3_137 xt_p_15 ⟨Nat.le_of_ble_eq_true rfl, Nat.le_of_ble_eq_true rfl⟩ xl_A_ShowRings_at rfl rfl rfl rfl hl.1 (Nat.le_of_ble_eq_true rfl) dX11_points_10 ⟨Nat.zero_le _, Nat.zero_le _⟩) (fun r4 σ3 H locs hB hw => ?_)
    refine lv_if_eq (tgt := 24) hx hb dX11_points_13 (by decide) (fun hc => ?_) (fun hc => ?_)
    · replace hB := hB.1 hc
      refine lv_iconst (v := (0 : Int32)) hx hb dX11_points_24 (by decide) ?_
      exact xr_iret X hw hr hk hB dX11_points_25
    · replace hB := hB.2 hc
      refine lv_aload_n hx hb dX11_points_16 rfl (lv_at hl 0 rfl) ?_
      refine lv_iload_n hx hb dX11_points_17 rfl (lv_at hl 3 rfl) ?_
      refine xr_i hw (xr_runV (As := [.int a3]) (rest := []) X hw 0 (xc_X11_isKnown l D cy q σ3 a3 hB _) xm_X11_isKnown xt_3_192 xt_3_194 xt_p_17 ⟨Nat.le_of_ble_eq_true rfl, Nat.le_of_ble_eq_true rfl⟩ xl_A_ShowRings_at rfl rfl rfl rfl hl.1 (Nat.le_of_ble_eq_true rfl) dX11_points_18 ⟨Nat.zero_le _, Nat.zero_le _⟩) (fun r6 σ5 H locs hB hw => ?_)
      refine lv_if_ne (tgt := 26) hx hb dX11_points_21 (by decide) (fun hc => ?_) (fun hc => ?_)
      · replace hB := hB.1 hc
        refine lv_aload_n hx hb dX11_points_26 rfl (lv_at hl 0 rfl) ?_
        refine xr_getr X hw (xf_X11_76 X) 0 xl_A_ShowRings_at rfl dX11_points_27 ?_
        refine lv_aload_n hx hb dX11_points_30 rfl (lv_at hl 0 rfl) ?_
        refine xr_getr X hw (xf_X11_82 X) 0 xl_A_ShowRings_at rfl dX11_points_31 ?_
        refine lv_iload_n hx hb dX11_points_34 rfl (lv_at hl 1 rfl) ?_
        have hi7 := hB.1
        refine xr_aald X hw 23 xl_A_ShowRings_shows_at hi7 dX11_points_35 ?_
        replace hB := hB.2
        refine lv_aload_n hx hb dX11_points_36 rfl (lv_at hl 0 rfl) ?_
        refine xr_getr X hw (xf_X11_40 X) 0 xl_A_ShowRings_at rfl dX11_points_37 ?_
        refine xr_getr X hw (xf_X11_181 X) 4 xl_A_Kennel_at rfl dX11_points_40 ?_
        refine lv_iload_n hx hb dX11_points_43 rfl (lv_at hl 2 rfl) ?_
        refine xr_iald X hw 34 xl_A_Kennel_breed_at hB.1 dX11_points_44 ?_
        replace hB := hB.2
        refine lv_iload_n hx hb dX11_points_45 rfl (lv_at hl 3 rfl) ?_
        refine xr_i hw (xr_runV (As := [.ref (q (11 + (Int32.toNatClampNeg a1))), .int (σ5.1 34 (Int32.toNatClampNeg a2)), .int a3]) (rest := []) X hw 8 (xc_X5_winnerOf l D cy q σ5 (Int32.toNatClampNeg a1) (σ5.1 34 (Int32.toNatClampNeg a2)) a3 (xr_lt hi7) hB _) xm_X5_winnerOf xt_4_108 xt_4_109 xt_4_110 ⟨Nat.le_of_ble_eq_true rfl, Nat.le_of_ble_eq_true rfl⟩ xl_A_Results_at rfl rfl rfl rfl hl.1 (Nat.le_of_ble_eq_true rfl) dX11_points_46 ⟨Nat.zero_le _, Nat.zero_le _⟩) (fun r9 σ8 H locs hB hw => ?_)
        refine lv_iload_n hx hb dX11_points_49 rfl (lv_at hl 2 rfl) ?_
        refine lv_icmp_eq (tgt := 55) hx hb dX11_points_50 (by decide) (fun hc => ?_) (fun hc => ?_)
        · replace hB := hB.1 hc
          refine lv_aload_n hx hb dX11_points_55 rfl (lv_at hl 0 rfl) ?_
          refine xr_getr X hw (xf_X11_76 X) 0 xl_A_ShowRings_at rfl dX11_points_56 ?_
          refine lv_aload_n hx hb dX11_points_59 rfl (lv_at hl 0 rfl) ?_
          refine xr_getr X hw (xf_X11_82 X) 0 xl_A_ShowRings_at rfl dX11_points_60 ?_
          refine lv_iload_n hx hb dX11_points_63 rfl (lv_at hl 1 rfl) ?_
          have hi10 := hB.1
          refine xr_aald X hw 23 xl_A_ShowRings_shows_at hi10 dX11_points_64 ?_
          replace hB := hB.2
          refine lv_iload_n hx hb dX11_points_65 rfl (lv_at hl 2 rfl) ?_
          refine lv_iload_n hx hb dX11_points_66 rfl (lv_at hl 3 rfl) ?_
          refine xr_i hw (xr_runV (As := [.ref (q (11 + (Int32.toNatClampNeg a1))), .int a2, .int a3]) (rest := []) X hw 8 (xc_X5_pointsOfWinner l D cy q σ8 (Int32.toNatClampNeg a1) a2 a3 (xr_lt hi10) hB _) xm_X5_pointsOfWinner xt_4_122 xt_4_123 xt_4_124 ⟨Nat.le_of_ble_eq_true rfl, Nat.le_of_ble_eq_true rfl⟩ xl_A_Results_at rfl rfl rfl rfl hl.1 (Nat.le_of_ble_eq_true rfl) dX11_points_67 ⟨Nat.zero_le _, Nat.zero_le _⟩) (fun r12 σ11 H locs hB hw => ?_)
          exact xr_iret X hw hr hk hB dX11_points_70
        · replace hB := hB.2 hc
          refine lv_iconst (v := (0 : Int32)) hx hb dX11_points_53 (by decide) ?_
          exact xr_iret X hw hr hk hB dX11_points_54
      · replace hB := hB.2 hc
        refine lv_iconst (v := (0 : Int32)) hx hb dX11_points_24 (by decide) ?_
        exact xr_iret X hw hr hk hB dX11_points_25
set_option maxRecDepth 100000 in
set_option maxHeartbeats 4000000 in
theorem xc_X9_firstOfKind (l : Launch) (D : va_G) (cy : Nat → ClassId) (q : Nat → Nat) (σ : xw_M) (o0 : Nat) (a1 : Int32) (h0 : o0 < 2) {Z : Int32 → xw_M → Prop} (hU : xu_X9_firstOfKind σ o0 a1 Z) : xr_CI l yX9_firstOfKind cX9_firstOfKind 3 .int { frames := 0, cells := 0, slots := 0, locals := 0 } D cy xl_A q σ [.ref (q (9 + o0)), .int a1] Z := by
  refine xr_CI.of RX9 rfl (by decide) (Nat.le_of_ble_eq_true rfl) (fun p e s m below meth c X hw hr hk ls hl => ?_)
  have hx := X.1
  have hb := X.2.1
  have hl : lv_has ls 3 [(0, .ref (q (9 + o0))), (1, .int a1)] := hl
  have hB := hU (fun (σ : xw_M) (v2 : Int32) => ∀ (H : Heap) (locs : List Loc) (ls : Array Slot), xr_H D cy xl_A q s σ H locs → lv_has ls 3 [(0, .ref (q (9 + o0))), (1, .int a1), (2, .int v2)] → W p l e ({ frames := 0, cells := 0, slots := 0, locals := 0 } : Room) s m ([.ref (q (9 + o0)), .int a1] : List Value).toArray below meth c H locs 0 0 (MQ below (va_Qi Z (xr_po D cy xl_A q) (xw_A xl_A q s.heap.size)) ([.ref (q (9 + o0)), .int a1] : List Value).toArray s 0 0 (xw_A xl_A q s.heap.size)) (F0 m 2 ls []))
    (by
    intro σ v2 hB H locs ls hw hl
    unfold xb_X9_firstOfKind_2 at hB
    refine lv_iload_n hx hb dX9_firstOfKind_2 rfl (lv_at hl 2 rfl) ?_
    refine lv_aload_n hx hb dX9_firstOfKind_3 rfl (lv_at hl 0 rfl) ?_
    refine xr_geti X hw (xf_X9_39 X) (9 + o0) (xl_A_Text_at (i := o0) h0) rfl dX9_firstOfKind_4 ?_
    refine lv_icmp_ge (tgt := 28) hx hb dX9_firstOfKind_7 (by decide) (fun hc => ?_) (fun hc => ?_)
    · replace hB := hB.1 hc
      refine lv_iconst (v := (-1 : Int32)) hx hb dX9_firstOfKind_28 (by decide) ?_
      exact xr_iret X hw hr hk hB dX9_firstOfKind_29
    · replace hB := hB.2 hc
      refine lv_aload_n hx hb dX9_firstOfKind_10 rfl (lv_at hl 0 rfl) ?_
      refine xr_getr X hw (xf_X9_9 X) (9 + o0) (xl_A_Text_at (i := o0) h0) rfl dX9_firstOfKind_11 ?_
      refine lv_iload_n hx hb dX9_firstOfKind_14 rfl (lv_at hl 2 rfl) ?_
      refine xr_iald X hw (48 + o0) (xl_A_Text_kinds_at (i := o0) h0) hB.1 dX9_firstOfKind_15 ?_
      replace hB := hB.2
      refine lv_iload_n hx hb dX9_firstOfKind_16 rfl (lv_at hl 1 rfl) ?_
      refine lv_icmp_ne (tgt := 22) hx hb dX9_firstOfKind_17 (by decide) (fun hc => ?_) (fun hc => ?_)
      · replace hB := hB.1 hc
        refine lv_iinc (v := (v2 + (1 : Int32))) (lv' := [(2, .int (v2 + (1 : Int32))), (0, .ref (q (9 + o0))), (1, .int a1)]) hx hb dX9_firstOfKind_22 hl (k := 2) rfl rfl (by decide) rfl (fun ls hl => ?_)
        refine lv_goto (tgt := 2) hx hb dX9_firstOfKind_25 (by decide) ?_
        exact hB _ _ _ hw (lv_sub hl [1, 2, 0] rfl)
      · replace hB := hB.2 hc
        refine lv_iload_n hx hb dX9_firstOfKind_20 rfl (lv_at hl 2 rfl) ?_
        exact xr_iret X hw hr hk hB dX9_firstOfKind_21)
  unfold xb_X9_firstOfKind_e at hB
  refine lv_iconst (v := (0 : Int32)) hx hb dX9_firstOfKind_0 (by decide) ?_
  refine lv_istore_n (lv' := [(2, .int (0 : Int32)), (0, .ref (q (9 + o0))), (1, .int a1)]) hx hb dX9_firstOfKind_1 rfl hl (by decide) rfl (fun ls hl => ?_)
  exact hB _ _ _ hw (lv_sub hl [1, 2, 0] rfl)
