theorem xm_X4_fits : xr_MW yX4_fits cX4_fits 9 (some .boolean) 3 := ⟨xt_4_20, xt_1_9, by decide, by decide, by decide +kernel⟩
theorem xm_J6_numberOfTrailingZeros_0f7a4 : xr_MW yJ6_numberOfTrailingZeros_0f7a4 cJ6_numberOfTrailingZeros_0f7a4 2 (some .int) 1 := ⟨xt_4_36, xt_1_20, by decide, by decide, by decide +kernel⟩
theorem xm_X10_put : xr_MW yX10_put cX10_put 6 none 5 := ⟨xt_4_41, xt_1_10, by decide, by decide, by decide +kernel⟩
set_option maxRecDepth 100000 in
set_option maxHeartbeats 4000000 in
theorem xc_X4_placeBreed (l : Launch) (D : va_G) (cy : Nat → ClassId) (q : Nat → Nat) (σ : xw_M) (a1 : Int32) (a2 : Int32) {Z : xw_M → Prop} (hU : xu_X4_placeBreed σ a1 a2 Z) : xr_CV l yX4_placeBreed cX4_placeBreed 7 { frames := 4, cells := 0, slots := 0, locals := 96 } D cy xl_A q σ [.ref (q 7), .int a1, .int a2] Z := by
  refine xr_CV.of RX4 rfl (by decide) (Nat.le_of_ble_eq_true rfl) (fun p e s m below meth c X hw hr hk ls hl => ?_)
  have hx := X.1
  have hb := X.2.1
  have hl : lv_has ls 7 [(0, .ref (q 7)), (1, .int a1), (2, .int a2)] := hl
  have hB := hU (fun (σ : xw_M) (v3 : Int32) (v4 : Int32) => ∀ (H : Heap) (locs : List Loc) (ls : Array Slot), xr_H D cy xl_A q s σ H locs → lv_has ls 7 [(0, .ref (q 7)), (1, .int a1), (2, .int a2), (3, .int v3), (4, .int v4)] → W p l e ({ frames := 4, cells := 0, slots := 0, locals := 96 } : Room) s m ([.ref (q 7), .int a1, .int a2] : List Value).toArray below meth c H locs 0 0 (MQ below (va_Qv Z (xr_po D cy xl_A q) (xw_A xl_A q s.heap.size)) ([.ref (q 7), .int a1, .int a2] : List Value).toArray s 0 0 (xw_A xl_A q s.heap.size)) (F0 m 20 ls []))
    (by
    intro σ v3 v4 hB H locs ls hw hl
    unfold xb_X4_placeBreed_20 at hB
    refine lv_iload hx hb dX4_placeBreed_20 (lv_at hl 4 rfl) ?_
    refine lv_bipush (v := (6 : Int32)) hx hb dX4_placeBreed_22 (by decide) ?_
    refine lv_icmp_ge (tgt := 75) hx hb dX4_placeBreed_24 (by decide) (fun hc => ?_) (fun hc => ?_)
    · replace hB := hB.1 hc
      refine lv_aload_n hx hb dX4_placeBreed_75 rfl (lv_at hl 0 rfl) ?_
      refine lv_iload_n hx hb dX4_placeBreed_76 rfl (lv_at hl 1 rfl) ?_
      refine lv_iload_n hx hb dX4_placeBreed_77 rfl (lv_at hl 3 rfl) ?_
      refine lv_iload_n hx hb dX4_placeBreed_78 rfl (lv_at hl 2 rfl) ?_
      refine xr_i hw (xr_runV (As := [.int a1, .int v3, .int a2]) (rest := []) X hw 7 (xc_X4_meanwhile l D cy q σ a1 v3 a2 hB _) xm_X4_meanwhile xt_4_21 xt_4_23 xt_p_24 ⟨Nat.le_of_ble_eq_true rfl, Nat.le_of_ble_eq_true rfl⟩ xl_A_Planner_at rfl rfl rfl rfl hl.1 (Nat.le_of_ble_eq_true rfl) dX4_placeBreed_79 ⟨Nat.zero_le _, Nat.zero_le _⟩) (fun r4 σ3 H locs hB hw => ?_)
      refine lv_istore (lv' := [(4, .int r4), (0, .ref (q 7)), (1, .int a1), (2, .int a2), (3, .int v3)]) hx hb dX4_placeBreed_82 hl (by decide) rfl (fun ls hl => ?_)
      refine lv_aload_n hx hb dX4_placeBreed_84 rfl (lv_at hl 1 rfl) ?_
      refine lv_iload hx hb dX4_placeBreed_85 (lv_at hl 0 rfl) ?_
      refine lv_iconst (v := (0 : Int32)) hx hb dX4_placeBreed_87 (by decide) ?_
      refine xr_i hw (xr_runV (As := [.int r4, .int (0 : Int32)]) (rest := []) X hw 7 (xc_X4_taken l D cy q σ3 r4 (0 : Int32) hB _) xm_X4_taken xt_4_29 xt_4_31 xt_p_25 ⟨Nat.le_of_ble_eq_true rfl, Nat.le_of_ble_eq_true rfl⟩ xl_A_Planner_at rfl rfl rfl rfl hl.1 (Nat.le_of_ble_eq_true rfl) dX4_placeBreed_88 ⟨Nat.zero_le _, Nat.zero_le _⟩) (fun r6 σ5 H locs hB hw => ?_)
      refine lv_iconst (v := (-1 : Int32)) hx hb dX4_placeBreed_91 (by decide) ?_
      refine lv_ixor hx hb dX4_placeBreed_92 ?_
      refine xr_i hw (xr_runS (As := [.int (r6 ^^^ (-1 : Int32))]) (rest := []) X hw (xc_J6_numberOfTrailingZeros_0f7a4 l D cy q σ5 (r6 ^^^ (-1 : Int32)) hB _) xm_J6_numberOfTrailingZeros_0f7a4 xt_4_34 xt_4_35 ⟨Nat.le_of_ble_eq_true rfl, Nat.le_of_ble_eq_true rfl⟩ rfl rfl hl.1 (Nat.le_of_ble_eq_true rfl) dX4_placeBreed_93 ⟨Nat.zero_le _, Nat.zero_le _⟩) (fun r8 σ7 H locs hB hw => ?_)
      refine lv_istore (lv' := [(5, .int r8), (4, .int r4), (0, .ref (q 7)), (1, .int a1), (2, .int a2), (3, .int v3)]) hx hb dX4_placeBreed_96 hl (by decide) rfl (fun ls hl => ?_)
      refine lv_aload_n hx hb dX4_placeBreed_98 rfl (lv_at hl 2 rfl) ?_
      refine xr_getr X hw (xf_X4_15 X) 7 xl_A_Planner_at rfl dX4_placeBreed_99 ?_
      refine lv_iload_n hx hb dX4_placeBreed_102 rfl (lv_at hl 3 rfl) ?_
      refine xr_iald X hw 46 xl_A_Planner_judges_at hB.1 dX4_placeBreed_103 ?_
      replace hB := hB.2
      refine lv_aload_n hx hb dX4_placeBreed_104 rfl (lv_at hl 2 rfl) ?_
      refine lv_iload hx hb dX4_placeBreed_105 (lv_at hl 1 rfl) ?_
      refine lv_iconst (v := (1 : Int32)) hx hb dX4_placeBreed_107 (by decide) ?_
      refine xr_i hw (xr_runV (As := [.int r4, .int (1 : Int32)]) (rest := [.int (σ7.1 46 (Int32.toNatClampNeg a1))]) X hw 7 (xc_X4_taken l D cy q σ7 r4 (1 : Int32) hB _) xm_X4_taken xt_4_29 xt_4_31 xt_p_25 ⟨Nat.le_of_ble_eq_true rfl, Nat.le_of_ble_eq_true rfl⟩ xl_A_Planner_at rfl rfl rfl rfl hl.1 (Nat.le_of_ble_eq_true rfl) dX4_placeBreed_108 ⟨Nat.zero_le _, Nat.zero_le _⟩) (fun r10 σ9 H locs hB hw => ?_)
      refine lv_iconst (v := (-1 : Int32)) hx hb dX4_placeBreed_111 (by decide) ?_
      refine lv_ixor hx hb dX4_placeBreed_112 ?_
      refine lv_iand hx hb dX4_placeBreed_113 ?_
      refine xr_i hw (xr_runS (As := [.int ((σ7.1 46 (Int32.toNatClampNeg a1)) &&& (r10 ^^^ (-1 : Int32)))]) (rest := []) X hw (xc_J6_numberOfTrailingZeros_0f7a4 l D cy q σ9 ((σ7.1 46 (Int32.toNatClampNeg a1)) &&& (r10 ^^^ (-1 : Int32))) hB _) xm_J6_numberOfTrailingZeros_0f7a4 xt_4_34 xt_4_35 ⟨Nat.le_of_ble_eq_true rfl, Nat.le_of_ble_eq_true rfl⟩ rfl rfl hl.1 (Nat.le_of_ble_eq_true rfl) dX4_placeBreed_114 ⟨Nat.zero_le _, Nat.zero_le _⟩) (fun r12 σ11 H locs hB hw => ?_)
      refine lv_istore (lv' := [(6, .int r12), (5, .int r8), (4, .int r4), (0, .ref (q 7)), (1, .int a1), (2, .int a2), (3, .int v3)]) hx hb dX4_placeBreed_117 hl (by decide) rfl (fun ls hl => ?_)
      refine lv_aload_n hx hb dX4_placeBreed_119 rfl (lv_at hl 3 rfl) ?_
      refine xr_getr X hw (xf_X4_24 X) 7 xl_A_Planner_at rfl dX4_placeBreed_120 ?_
      refine lv_iload_n hx hb dX4_placeBreed_123 rfl (lv_at hl 4 rfl) ?_
      refine lv_iload hx hb dX4_placeBreed_124 (lv_at hl 1 rfl) ?_
      refine lv_iload hx hb dX4_placeBreed_126 (lv_at hl 0 rfl) ?_
      refine lv_iload_n hx hb dX4_placeBreed_128 rfl (lv_at hl 6 rfl) ?_
      refine lv_iload_n hx hb dX4_placeBreed_129 rfl (lv_at hl 6 rfl) ?_
      refine lv_aload_n hx hb dX4_placeBreed_130 rfl (lv_at hl 3 rfl) ?_
      refine xr_getr X hw (xf_X4_9 X) 7 xl_A_Planner_at rfl dX4_placeBreed_131 ?_
      refine lv_iload_n hx hb dX4_placeBreed_134 rfl (lv_at hl 4 rfl) ?_
      refine xr_iald X hw 45 xl_A_Planner_length_at hB.1 dX4_placeBreed_135 ?_
      replace hB := hB.2
      refine lv_iadd hx hb dX4_placeBreed_136 ?_
      refine xr_v hw (xr_runV (As := [.int a1, .int r8, .int r12, .int v3, .int (v3 + (σ11.1 45 (Int32.toNatClampNeg a1)))]) (rest := []) X hw 21 (xc_X10_put l D cy q σ11 5 a1 r8 r12 v3 (v3 + (σ11.1 45 (Int32.toNatClampNeg a1))) (by decide) hB _) xm_X10_put xt_4_38 xt_4_39 xt_4_40 ⟨Nat.le_of_ble_eq_true rfl, Nat.le_of_ble_eq_true rfl⟩ (xl_A_Timetable_at (i := 5) (by decide)) rfl rfl rfl rfl hl.1 (Nat.le_of_ble_eq_true rfl) dX4_placeBreed_137 ⟨Nat.zero_le _, Nat.zero_le _⟩) (fun σ13 H locs hB hw => ?_)
      exact xr_vret X hw hr hk hB dX4_placeBreed_140
    · replace hB := hB.2 hc
      refine lv_iload_n hx hb dX4_placeBreed_27 rfl (lv_at hl 2 rfl) ?_
      refine lv_iload hx hb dX4_placeBreed_28 (lv_at hl 4 rfl) ?_
      refine lv_ishr hx hb dX4_placeBreed_30 ?_
      refine lv_iconst (v := (1 : Int32)) hx hb dX4_placeBreed_31 (by decide) ?_
      refine lv_iand hx hb dX4_placeBreed_32 ?_
      refine lv_iconst (v := (1 : Int32)) hx hb dX4_placeBreed_33 (by decide) ?_
      refine lv_icmp_ne (tgt := 69) hx hb dX4_placeBreed_34 (by decide) (fun hc => ?_) (fun hc => ?_)
      · replace hB := hB.1 hc
        refine lv_iinc (v := (v4 + (1 : Int32))) (lv' := [(4, .int (v4 + (1 : Int32))), (0, .ref (q 7)), (1, .int a1), (2, .int a2), (3, .int v3)]) hx hb dX4_placeBreed_69 hl (k := 4) rfl rfl (by decide) rfl (fun ls hl => ?_)
        refine lv_goto (tgt := 20) hx hb dX4_placeBreed_72 (by decide) ?_
        exact hB _ _ _ hw (lv_sub hl [1, 2, 3, 4, 0] rfl)
      · replace hB := hB.2 hc
        refine lv_aload_n hx hb dX4_placeBreed_37 rfl (lv_at hl 0 rfl) ?_
        refine xr_getr X hw (xf_X4_24 X) 7 xl_A_Planner_at rfl dX4_placeBreed_38 ?_
        refine lv_iload hx hb dX4_placeBreed_41 (lv_at hl 4 rfl) ?_
        refine lv_iconst (v := (3 : Int32)) hx hb dX4_placeBreed_43 (by decide) ?_
        refine xr_i hw (xr_runV (As := [.int v4, .int (3 : Int32)]) (rest := []) X hw 21 (xc_X10_at l D cy q σ 5 v4 (3 : Int32) (by decide) hB _) xm_X10_at xt_4_33 xt_3_165 xt_3_166 ⟨Nat.le_of_ble_eq_true rfl, Nat.le_of_ble_eq_true rfl⟩ (xl_A_Timetable_at (i := 5) (by decide)) rfl rfl rfl rfl hl.1 (Nat.le_of_ble_eq_true rfl) dX4_placeBreed_44 ⟨Nat.zero_le _, Nat.zero_le _⟩) (fun r15 σ14 H locs hB hw => ?_)
        refine lv_istore (lv' := [(5, .int r15), (0, .ref (q 7)), (1, .int a1), (2, .int a2), (3, .int v3), (4, .int v4)]) hx hb dX4_placeBreed_47 hl (by decide) rfl (fun ls hl => ?_)
        refine lv_iload hx hb dX4_placeBreed_49 (lv_at hl 0 rfl) ?_
        refine lv_iload_n hx hb dX4_placeBreed_51 rfl (lv_at hl 4 rfl) ?_
        refine lv_icmp_ge (tgt := 69) hx hb dX4_placeBreed_52 (by decide) (fun hc => ?_) (fun hc => ?_)
        · replace hB := hB.1 hc
          refine lv_iinc (v := (v4 + (1 : Int32))) (lv' := [(4, .int (v4 + (1 : Int32))), (5, .int r15), (0, .ref (q 7)), (1, .int a1), (2, .int a2), (3, .int v3)]) hx hb dX4_placeBreed_69 hl (k := 5) rfl rfl (by decide) rfl (fun ls hl => ?_)
          refine lv_goto (tgt := 20) hx hb dX4_placeBreed_72 (by decide) ?_
          exact hB _ _ _ hw (lv_sub hl [2, 3, 4, 5, 0] rfl)
        · replace hB := hB.2 hc
          refine lv_aload_n hx hb dX4_placeBreed_55 rfl (lv_at hl 1 rfl) ?_
          refine lv_iload_n hx hb dX4_placeBreed_56 rfl (lv_at hl 2 rfl) ?_
          refine lv_iload hx hb dX4_placeBreed_57 (lv_at hl 0 rfl) ?_
          refine lv_iload_n hx hb dX4_placeBreed_59 rfl (lv_at hl 3 rfl) ?_
          refine xr_i hw (xr_runV (As := [.int a1, .int r15, .int a2]) (rest := []) X hw 7 (xc_X4_fits l D cy q σ14 a1 r15 a2 hB _) xm_X4_fits xt_4_17 xt_4_19 xt_p_23 ⟨Nat.le_of_ble_eq_true rfl, Nat.le_of_ble_eq_true rfl⟩ xl_A_Planner_at rfl rfl rfl rfl hl.1 (Nat.le_of_ble_eq_true rfl) dX4_placeBreed_60 ⟨Nat.zero_le _, Nat.zero_le _⟩) (fun r17 σ16 H locs hB hw => ?_)
          refine lv_if_eq (tgt := 69) hx hb dX4_placeBreed_63 (by decide) (fun hc => ?_) (fun hc => ?_)
          · replace hB := hB.1 hc
            refine lv_iinc (v := (v4 + (1 : Int32))) (lv' := [(4, .int (v4 + (1 : Int32))), (5, .int r15), (0, .ref (q 7)), (1, .int a1), (2, .int a2), (3, .int v3)]) hx hb dX4_placeBreed_69 hl (k := 5) rfl rfl (by decide) rfl (fun ls hl => ?_)
            refine lv_goto (tgt := 20) hx hb dX4_placeBreed_72 (by decide) ?_
            exact hB _ _ _ hw (lv_sub hl [2, 3, 4, 5, 0] rfl)
          · replace hB := hB.2 hc
            refine lv_iload hx hb dX4_placeBreed_66 (lv_at hl 0 rfl) ?_
            refine lv_istore_n (lv' := [(3, .int r15), (5, .int r15), (0, .ref (q 7)), (1, .int a1), (2, .int a2), (4, .int v4)]) hx hb dX4_placeBreed_68 rfl hl (by decide) rfl (fun ls hl => ?_)
            refine lv_iinc (v := (v4 + (1 : Int32))) (lv' := [(4, .int (v4 + (1 : Int32))), (3, .int r15), (5, .int r15), (0, .ref (q 7)), (1, .int a1), (2, .int a2)]) hx hb dX4_placeBreed_69 hl (k := 5) rfl rfl (by decide) rfl (fun ls hl => ?_)
            refine lv_goto (tgt := 20) hx hb dX4_placeBreed_72 (by decide) ?_
            exact hB _ _ _ hw (lv_sub hl [3, 4, 5, 1, 0] rfl))
  unfold xb_X4_placeBreed_e at hB
  refine lv_aload_n hx hb dX4_placeBreed_0 rfl (lv_at hl 0 rfl) ?_
  refine lv_iload_n hx hb dX4_placeBreed_1 rfl (lv_at hl 1 rfl) ?_
  refine lv_iconst (v := (0 : Int32)) hx hb dX4_placeBreed_2 (by decide) ?_
  refine lv_iload_n hx hb dX4_placeBreed_3 rfl (lv_at hl 2 rfl) ?_
  refine xr_i hw (xr_runV (As := [.int a1, .int (0 : Int32), .int a2]) (rest := []) X hw 7 (xc_X4_fits l D cy q σ a1 (0 : Int32) a2 hB _) xm_X4_fits xt_4_17 xt_4_19 xt_p_23 ⟨Nat.le_of_ble_eq_true rfl, Nat.le_of_ble_eq_true rfl⟩ xl_A_Planner_at rfl rfl rfl rfl hl.1 (Nat.le_of_ble_eq_true rfl) dX4_placeBreed_4 ⟨Nat.zero_le _, Nat.zero_le _⟩) (fun r2 σ1 H locs hB hw => ?_)
  refine lv_if_eq (tgt := 14) hx hb dX4_placeBreed_7 (by decide) (fun hc => ?_) (fun hc => ?_)
  · replace hB := hB.1 hc
    refine lv_ldc (v := (1000000 : Int32)) hx hb X.2.2.2.1 (X.2.2.2.2.1 _ xt_4_2) dX4_placeBreed_14 ?_
    refine lv_istore_n (lv' := [(3, .int (1000000 : Int32)), (0, .ref (q 7)), (1, .int a1), (2, .int a2)]) hx hb dX4_placeBreed_16 rfl hl (by decide) rfl (fun ls hl => ?_)
    refine lv_iconst (v := (0 : Int32)) hx hb dX4_placeBreed_17 (by decide) ?_
    refine lv_istore (lv' := [(4, .int (0 : Int32)), (3, .int (1000000 : Int32)), (0, .ref (q 7)), (1, .int a1), (2, .int a2)]) hx hb dX4_placeBreed_18 hl (by decide) rfl (fun ls hl => ?_)
    exact hB _ _ _ hw (lv_sub hl [2, 3, 4, 1, 0] rfl)
  · replace hB := hB.2 hc
    refine lv_iconst (v := (0 : Int32)) hx hb dX4_placeBreed_10 (by decide) ?_
    refine lv_goto (tgt := 16) hx hb dX4_placeBreed_11 (by decide) ?_
    refine lv_istore_n (lv' := [(3, .int (0 : Int32)), (0, .ref (q 7)), (1, .int a1), (2, .int a2)]) hx hb dX4_placeBreed_16 rfl hl (by decide) rfl (fun ls hl => ?_)
    refine lv_iconst (v := (0 : Int32)) hx hb dX4_placeBreed_17 (by decide) ?_
    refine lv_istore (lv' := [(4, .int (0 : Int32)), (3, .int (0 : Int32)), (0, .ref (q 7)), (1, .int a1), (2, .int a2)]) hx hb dX4_placeBreed_18 hl (by decide) rfl (fun ls hl => ?_)
    exact hB _ _ _ hw (lv_sub hl [2, 3, 4, 1, 0] rfl)
set_option maxRecDepth 100000 in
set_option maxHeartbeats 4000000 in
theorem xc_X10_copyFrom (l : Launch) (D : va_G) (cy : Nat → ClassId) (q : Nat → Nat) (σ : xw_M) (o0 : Nat) (o1 : Nat) (h0 : o0 < 7) (h1 : o1 < 7) {Z : xw_M → Prop} (hU : xu_X10_copyFrom σ o0 o1 Z) : xr_CV l yX10_copyFrom cX10_copyFrom 2 { frames := 1, cells := 0, slots := 0, locals := 60 } D cy xl_A q σ [.ref (q (16 + o0)), .ref (q (16 + o1))] Z := by
  refine xr_CV.of RX10 rfl (by decide) (Nat.le_of_ble_eq_true rfl) (fun p e s m below meth c X hw hr hk ls hl => ?_)
  have hx := X.1
  have hb := X.2.1
  have hl : lv_has ls 2 [(0, .ref (q (16 + o0))), (1, .ref (q (16 + o1)))] := hl
  unfold xu_X10_copyFrom at hU
  have hB := hU
  refine lv_aload_n hx hb dX10_copyFrom_0 rfl (lv_at hl 1 rfl) ?_
  refine xr_getr X hw (xf_X10_9 X) (16 + o1) (xl_A_Timetable_at (i := o1) h1) rfl dX10_copyFrom_1 ?_
  refine lv_iconst (v := (0 : Int32)) hx hb dX10_copyFrom_4 (by decide) ?_
  refine lv_aload_n hx hb dX10_copyFrom_5 rfl (lv_at hl 0 rfl) ?_
  refine xr_getr X hw (xf_X10_9 X) (16 + o0) (xl_A_Timetable_at (i := o0) h0) rfl dX10_copyFrom_6 ?_
  refine lv_iconst (v := (0 : Int32)) hx hb dX10_copyFrom_9 (by decide) ?_
  refine lv_bipush (v := (24 : Int32)) hx hb dX10_copyFrom_10 (by decide) ?_
  refine xr_copy X hw hl.1 (66 + o1) (66 + o0) (xl_A_Timetable_cells_at (i := o1) h1) (xl_A_Timetable_cells_at (i := o0) h0) (N := 24) (by decide) (by decide) (by decide) (by decide) xt_4_12 (Nat.le_of_ble_eq_true rfl) (Nat.le_of_ble_eq_true rfl) dX10_copyFrom_12 hB (fun σ1 H locs hB hw => ?_)
  exact xr_vret X hw hr hk hB dX10_copyFrom_15
set_option maxRecDepth 100000 in
set_option maxHeartbeats 4000000 in
theorem xc_X10_clear (l : Launch) (D : va_G) (cy : Nat → ClassId) (q : Nat → Nat) (σ : xw_M) (o0 : Nat) (h0 : o0 < 7) {Z : xw_M → Prop} (hU : xu_X10_clear σ o0 Z) : xr_CV l yX10_clear cX10_clear 2 { frames := 0, cells := 0, slots := 0, locals := 0 } D cy xl_A q σ [.ref (q (16 + o0))] Z := by
  refine xr_CV.of RX10 rfl (by decide) (Nat.le_of_ble_eq_true rfl) (fun p e s m below meth c X hw hr hk ls hl => ?_)
  have hx := X.1
  have hb := X.2.1
  have hl : lv_has ls 2 [(0, .ref (q (16 + o0)))] := hl
  have hB := hU (fun (σ : xw_M) (v1 : Int32) => ∀ (H : Heap) (locs : List Loc) (ls : Array Slot), xr_H D cy xl_A q s σ H locs → lv_has ls 2 [(0, .ref (q (16 + o0))), (1, .int v1)] → W p l e ({ frames := 0, cells := 0, slots := 0, locals := 0 } : Room) s m ([.ref (q (16 + o0))] : List Value).toArray below meth c H locs 0 0 (MQ below (va_Qv Z (xr_po D cy xl_A q) (xw_A xl_A q s.heap.size)) ([.ref (q (16 + o0))] : List Value).toArray s 0 0 (xw_A xl_A q s.heap.size)) (F0 m 2 ls []))
    (by
    intro σ v1 hB H locs ls hw hl
    unfold xb_X10_clear_2 at hB
    refine lv_iload_n hx hb dX10_clear_2 rfl (lv_at hl 1 rfl) ?_
    refine lv_bipush (v := (24 : Int32)) hx hb dX10_clear_3 (by decide) ?_
    refine lv_icmp_ge (tgt := 21) hx hb dX10_clear_5 (by decide) (fun hc => ?_) (fun hc => ?_)
    · replace hB := hB.1 hc
      exact xr_vret X hw hr hk hB dX10_clear_21
    · replace hB := hB.2 hc
      refine lv_aload_n hx hb dX10_clear_8 rfl (lv_at hl 0 rfl) ?_
      refine xr_getr X hw (xf_X10_9 X) (16 + o0) (xl_A_Timetable_at (i := o0) h0) rfl dX10_clear_9 ?_
      refine lv_iload_n hx hb dX10_clear_12 rfl (lv_at hl 1 rfl) ?_
      refine lv_iconst (v := (-1 : Int32)) hx hb dX10_clear_13 (by decide) ?_
      refine xr_iast X hw (66 + o0) (xl_A_Timetable_cells_at (i := o0) h0) hB.1 dX10_clear_14 hB.2 (fun σ1 H locs hB hw => ?_)
      refine lv_iinc (v := (v1 + (1 : Int32))) (lv' := [(1, .int (v1 + (1 : Int32))), (0, .ref (q (16 + o0)))]) hx hb dX10_clear_15 hl (k := 1) rfl rfl (by decide) rfl (fun ls hl => ?_)
      refine lv_goto (tgt := 2) hx hb dX10_clear_18 (by decide) ?_
      exact hB _ _ _ hw (lv_sub hl [1, 0] rfl))
  unfold xb_X10_clear_e at hB
  refine lv_iconst (v := (0 : Int32)) hx hb dX10_clear_0 (by decide) ?_
  refine lv_istore_n (lv' := [(1, .int (0 : Int32)), (0, .ref (q (16 + o0)))]) hx hb dX10_clear_1 rfl hl (by decide) rfl (fun ls hl => ?_)
  exact hB _ _ _ hw (lv_sub hl [1, 0] rfl)
set_option maxRecDepth 100000 in
set_option maxHeartbeats 4000000 in
theorem xc_X11_planned (l : Launch) (D : va_G) (cy : Nat → ClassId) (q : Nat → Nat) (σ : xw_M) (a1 : Int32) (a2 : Int32) (a3 : Int32) {Z : Int32 → xw_M → Prop} (hU : xu_X11_planned σ a1 a2 a3 Z) : xr_CI l yX11_planned cX11_planned 4 .int { frames := 2, cells := 0, slots := 0, locals := 44 } D cy xl_A q σ [.ref (q 0), .int a1, .int a2, .int a3] Z := by
  refine xr_CI.of RX11 rfl (by decide) (Nat.le_of_ble_eq_true rfl) (fun p e s m below meth c X hw hr hk ls hl => ?_)
  have hx := X.1
  have hb := X.2.1
  have hl : lv_has ls 4 [(0, .ref (q 0)), (1, .int a1), (2, .int a2), (3, .int a3)] := hl
  unfold xu_X11_planned at hU
  have hB := hU
  refine lv_aload_n hx hb dX11_planned_0 rfl (lv_at hl 0 rfl) ?_
  refine lv_iload_n hx hb dX11_planned_1 rfl (lv_at hl 1 rfl) ?_
  refine xr_i hw (xr_runV (As := [.int a1]) (rest := []) X hw 0 (xc_X11_isShow l D cy q σ a1 hB _) xm_X11_isShow xt_3_131 xt_3_133 xt_p_14 ⟨Nat.le_of_ble_eq_true rfl, Nat.le_of_ble_eq_true rfl⟩ xl_A_ShowRings_at rfl rfl rfl rfl hl.1 (Nat.le_of_ble_eq_true rfl) dX11_planned_2 ⟨Nat.zero_le _, Nat.zero_le _⟩) (fun r2 σ1 H locs hB hw => ?_)
  refine lv_if_eq (tgt := 25) hx hb dX11_planned_5 (by decide) (fun hc => ?_) (fun hc => ?_)
  · replace hB := hB.1 hc
    refine lv_iconst (v := (-1 : Int32)) hx hb dX11_planned_25 (by decide) ?_
    exact xr_iret X hw hr hk hB dX11_planned_26
  · replace hB := hB.2 hc
    refine lv_aload_n hx hb dX11_planned_8 rfl (lv_at hl 0 rfl) ?_
    refine lv_iload_n hx hb dX11_planned_9 rfl (lv_at hl 2 rfl) ?_
    refine xr_i hw (xr_runV (As := [.int a2]) (rest := []) X hw 0 (xc_X11_isBreed l D cy q σ1 a2 hB _) xm_X11_isBreed xt_3_104 xt_3_106 xt_p_13 ⟨Nat.le_of_ble_eq_true rfl, Nat.le_of_ble_eq_true rfl⟩ xl_A_ShowRings_at rfl rfl rfl rfl hl.1 (Nat.le_of_ble_eq_true rfl) dX11_planned_10 ⟨Nat.zero_le _, Nat.zero_le _⟩) (fun r4 σ3 H locs hB hw => ?_)
    refine lv_if_eq (tgt := 25) hx hb dX11_planned_13 (by decide) (fun hc => ?_) (fun hc => ?_)
    · replace hB := hB.1 hc
      refine lv_iconst (v := (-1 : Int32)) hx hb dX11_planned_25 (by decide) ?_
      exact xr_iret X hw hr hk hB dX11_planned_26
    · replace hB := hB.2 hc
      refine lv_iload_n hx hb dX11_planned_16 rfl (lv_at hl 3 rfl) ?_
      refine lv_iconst (v := (0 : Int32)) hx hb dX11_planned_17 (by decide) ?_
      refine lv_iconst (v := (3 : Int32)) hx hb dX11_planned_18 (by decide) ?_
      refine xr_i hw (xr_runS (As := [.int a3, .int (0 : Int32), .int (3 : Int32)]) (rest := []) X hw (xc_X11_isWithin l D cy q σ3 a3 (0 : Int32) (3 : Int32) hB _) xm_X11_isWithin xt_3_80 xt_3_81 ⟨Nat.le_of_ble_eq_true rfl, Nat.le_of_ble_eq_true rfl⟩ rfl rfl hl.1 (Nat.le_of_ble_eq_true rfl) dX11_planned_19 ⟨Nat.zero_le _, Nat.zero_le _⟩) (fun r6 σ5 H locs hB hw => ?_)
      refine lv_if_ne (tgt := 27) hx hb dX11_planned_22 (by decide) (fun hc => ?_) (fun hc => ?_)
      · replace hB := hB.1 hc
        refine lv_aload_n hx hb dX11_planned_27 rfl (lv_at hl 0 rfl) ?_
        refine xr_getr X hw (xf_X11_82 X) 0 xl_A_ShowRings_at rfl dX11_planned_28 ?_
        refine lv_iload_n hx hb dX11_planned_31 rfl (lv_at hl 1 rfl) ?_
        have hi7 := hB.1
        refine xr_aald X hw 23 xl_A_ShowRings_shows_at hi7 dX11_planned_32 ?_
        replace hB := hB.2
        refine xr_getr X hw (xf_X11_177 X) (11 + (Int32.toNatClampNeg a1)) (xl_A_Show_at (i := (Int32.toNatClampNeg a1)) (xr_lt hi7)) rfl dX11_planned_33 ?_
        refine lv_iload_n hx hb dX11_planned_36 rfl (lv_at hl 2 rfl) ?_
        refine lv_iload_n hx hb dX11_planned_37 rfl (lv_at hl 3 rfl) ?_
        refine xr_i hw (xr_runV (As := [.int a2, .int a3]) (rest := []) X hw (16 + (Int32.toNatClampNeg a1)) (xc_X10_at l D cy q σ5 (Int32.toNatClampNeg a1) a2 a3 (Nat.lt_of_lt_of_le (xr_lt hi7) (by decide)) hB _) xm_X10_at xt_4_48 xt_3_165 xt_3_166 ⟨Nat.le_of_ble_eq_true rfl, Nat.le_of_ble_eq_true rfl⟩ (xl_A_Timetable_at (i := (Int32.toNatClampNeg a1)) (Nat.lt_of_lt_of_le (xr_lt hi7) (by decide))) rfl rfl rfl rfl hl.1 (Nat.le_of_ble_eq_true rfl) dX11_planned_38 ⟨Nat.zero_le _, Nat.zero_le _⟩) (fun r9 σ8 H locs hB hw => ?_)
        exact xr_iret X hw hr hk hB dX11_planned_41
      · replace hB := hB.2 hc
        refine lv_iconst (v := (-1 : Int32)) hx hb dX11_planned_25 (by decide) ?_
        exact xr_iret X hw hr hk hB dX11_planned_26
theorem xm_X11_isKnown : xr_MW yX11_isKnown cX11_isKnown 2 (some .boolean) 1 := ⟨xt_3_195, xt_1_1, by decide, by decide, by decide +kernel⟩
set_option maxRecDepth 100000 in
set_option maxHeartbeats 4000000 in
theorem xc_X11_barred (l : Launch) (D : va_G) (cy : Nat → ClassId) (q : Nat → Nat) (σ : xw_M) (a1 : Int32) (a2 : Int32) (a3 : Int32) (a4 : Int32) {Z : Int32 → xw_M → Prop} (hU : xu_X11_barred σ a1 a2 a3 a4 Z) : xr_CI l yX11_barred cX11_barred 5 .int { frames := 4, cells := 0, slots := 0, locals := 103 } D cy xl_A q σ [.ref (q 0), .int a1, .int a2, .int a3, .int a4] Z := by
  refine xr_CI.of RX11 rfl (by decide) (Nat.le_of_ble_eq_true rfl) (fun p e s m below meth c X hw hr hk ls hl => ?_)
  have hx := X.1
  have hb := X.2.1
  have hl : lv_has ls 5 [(0, .ref (q 0)), (1, .int a1), (2, .int a2), (3, .int a3), (4, .int a4)] := hl
  unfold xu_X11_barred at hU
  have hB := hU
  refine lv_iload_n hx hb dX11_barred_0 rfl (lv_at hl 1 rfl) ?_
  refine xr_i hw (xr_runS (As := [.int a1]) (rest := []) X hw (xc_X11_isPerson l D cy q σ a1 hB _) xm_X11_isPerson xt_3_77 xt_3_78 ⟨Nat.le_of_ble_eq_true rfl, Nat.le_of_ble_eq_true rfl⟩ rfl rfl hl.1 (Nat.le_of_ble_eq_true rfl) dX11_barred_1 ⟨Nat.zero_le _, Nat.zero_le _⟩) (fun r2 σ1 H locs hB hw => ?_)
  refine lv_if_eq (tgt := 32) hx hb dX11_barred_4 (by decide) (fun hc => ?_) (fun hc => ?_)
  · replace hB := hB.1 hc
    refine lv_iconst (v := (-1 : Int32)) hx hb dX11_barred_32 (by decide) ?_
    exact xr_iret X hw hr hk hB dX11_barred_33
  · replace hB := hB.2 hc
    refine lv_aload_n hx hb dX11_barred_7 rfl (lv_at hl 0 rfl) ?_
    refine lv_iload_n hx hb dX11_barred_8 rfl (lv_at hl 2 rfl) ?_
    refine xr_i hw (xr_runV (As := [.int a2]) (rest := []) X hw 0 (xc_X11_isShow l D cy q σ1 a2 hB _) xm_X11_isShow xt_3_131 xt_3_133 xt_p_14 ⟨Nat.le_of_ble_eq_true rfl, Nat.le_of_ble_eq_true rfl⟩ xl_A_ShowRings_at rfl rfl rfl rfl hl.1 (Nat.le_of_ble_eq_true rfl) dX11_barred_9 ⟨Nat.zero_le _, Nat.zero_le _⟩) (fun r4 σ3 H locs hB hw => ?_)
    refine lv_if_eq (tgt := 32) hx hb dX11_barred_12 (by decide) (fun hc => ?_) (fun hc => ?_)
    · replace hB := hB.1 hc
      refine lv_iconst (v := (-1 : Int32)) hx hb dX11_barred_32 (by decide) ?_
      exact xr_iret X hw hr hk hB dX11_barred_33
    · replace hB := hB.2 hc
      refine lv_aload_n hx hb dX11_barred_15 rfl (lv_at hl 0 rfl) ?_
      refine lv_iload_n hx hb dX11_barred_16 rfl (lv_at hl 3 rfl) ?_
      refine xr_i hw (xr_runV (As := [.int a3]) (rest := []) X hw 0 (xc_X11_isDog l D cy q σ3 a3 hB _) xm_X11_isDog xt_3_135 xt_3_137 xt_p_15 ⟨Nat.le_of_ble_eq_true rfl, Nat.le_of_ble_eq_true rfl⟩ xl_A_ShowRings_at rfl rfl rfl rfl hl.1 (Nat.le_of_ble_eq_true rfl) dX11_barred_17 ⟨Nat.zero_le _, Nat.zero_le _⟩) (fun r6 σ5 H locs hB hw => ?_)
      refine lv_if_eq (tgt := 32) hx hb dX11_barred_20 (by decide) (fun hc => ?_) (fun hc => ?_)
      · replace hB := hB.1 hc
        refine lv_iconst (v := (-1 : Int32)) hx hb dX11_barred_32 (by decide) ?_
        exact xr_iret X hw hr hk hB dX11_barred_33
      · replace hB := hB.2 hc
        refine lv_aload_n hx hb dX11_barred_23 rfl (lv_at hl 0 rfl) ?_
        refine lv_iload hx hb dX11_barred_24 (lv_at hl 4 rfl) ?_
        refine xr_i hw (xr_runV (As := [.int a4]) (rest := []) X hw 0 (xc_X11_isKnown l D cy q σ5 a4 hB _) xm_X11_isKnown xt_3_192 xt_3_194 xt_p_17 ⟨Nat.le_of_ble_eq_true rfl, Nat.le_of_ble_eq_true rfl⟩ xl_A_ShowRings_at rfl rfl rfl rfl hl.1 (Nat.le_of_ble_eq_true rfl) dX11_barred_26 ⟨Nat.zero_le _, Nat.zero_le _⟩) (fun r8 σ7 H locs hB hw => ?_)
        refine lv_if_ne (tgt := 34) hx hb dX11_barred_29 (by decide) (fun hc => ?_) (fun hc => ?_)
        · replace hB := hB.1 hc
          refine lv_aload_n hx hb dX11_barred_34 rfl (lv_at hl 0 rfl) ?_
          refine xr_getr X hw (xf_X11_58 X) 0 xl_A_ShowRings_at rfl dX11_barred_35 ?_
          refine lv_iload_n hx hb dX11_barred_38 rfl (lv_at hl 1 rfl) ?_
          refine lv_aload_n hx hb dX11_barred_39 rfl (lv_at hl 0 rfl) ?_
          refine xr_getr X hw (xf_X11_82 X) 0 xl_A_ShowRings_at rfl dX11_barred_40 ?_
          refine lv_iload_n hx hb dX11_barred_43 rfl (lv_at hl 2 rfl) ?_
          have hi9 := hB.1
          refine xr_aald X hw 23 xl_A_ShowRings_shows_at hi9 dX11_barred_44 ?_
          replace hB := hB.2
          refine lv_iload_n hx hb dX11_barred_45 rfl (lv_at hl 3 rfl) ?_
          refine lv_iload hx hb dX11_barred_46 (lv_at hl 4 rfl) ?_
          refine xr_i hw (xr_runV (As := [.int a1, .ref (q (11 + (Int32.toNatClampNeg a2))), .int a3, .int a4]) (rest := []) X hw 6 (xc_X0_firstBar l D cy q σ7 a1 (Int32.toNatClampNeg a2) a3 a4 (xr_lt hi9) hB _) xm_X0_firstBar xt_4_53 xt_3_219 xt_3_220 ⟨Nat.le_of_ble_eq_true rfl, Nat.le_of_ble_eq_true rfl⟩ xl_A_Club_at rfl rfl rfl rfl hl.1 (Nat.le_of_ble_eq_true rfl) dX11_barred_48 ⟨Nat.zero_le _, Nat.zero_le _⟩) (fun r11 σ10 H locs hB hw => ?_)
          exact xr_iret X hw hr hk hB dX11_barred_51
        · replace hB := hB.2 hc
          refine lv_iconst (v := (-1 : Int32)) hx hb dX11_barred_32 (by decide) ?_
          exact xr_iret X hw hr hk hB dX11_barred_33
