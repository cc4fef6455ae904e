theorem xf_X12_128 {p : Program} {s : State} {m : MethodId} {args : Array Value} {c : Code} {cc : ByteArray} {nL : Nat} {D : va_G} {cy : Nat → ClassId} {lay : List xw_E} {q : Nat → Nat} (X : xr_X p s m args c cc nL RX12 D cy lay q) : xr_F args s RX12 128 12 55 := ⟨RX12, TX12, 77, tyX12, rfl, by decide, fun w h => X.2.2.2.2.1 w (xt_inX12 w h), tyX12_ok, nmX12, Or.inl (X.2.2.2.2.1 _ xt_4_227)⟩
theorem xf_X12_152 {p : Program} {s : State} {m : MethodId} {args : Array Value} {c : Code} {cc : ByteArray} {nL : Nat} {D : va_G} {cy : Nat → ClassId} {lay : List xw_E} {q : Nat → Nat} (X : xr_X p s m args c cc nL RX12 D cy lay q) : xr_F args s RX12 152 12 64 := ⟨RX12, TX12, 77, tyX12, rfl, by decide, fun w h => X.2.2.2.2.1 w (xt_inX12 w h), tyX12_ok, nmX12, Or.inl (X.2.2.2.2.1 _ xt_4_236)⟩
set_option maxRecDepth 100000 in
set_option maxHeartbeats 4000000 in
theorem xc_X12_enter (l : Launch) (D : va_G) (cy : Nat → ClassId) (q : Nat → Nat) (σ : xw_M) (a1 : Int32) (a2 : Int32) {Z : Int32 → xw_M → Prop} (hU : xu_X12_enter σ a1 a2 Z) : xr_CI l yX12_enter cX12_enter 4 .int { frames := 4, cells := 0, slots := 0, locals := 97 } D cy xl_B q σ [.ref (q 0), .int a1, .int a2] Z := by
  refine xr_CI.of RX12 rfl (by decide) (Nat.le_of_ble_eq_true rfl) (fun p e s m below meth c X hw hr hk ls hl => ?_)
  have hx := X.1
  have hb := X.2.1
  have hl : lv_has ls 4 [(0, .ref (q 0)), (1, .int a1), (2, .int a2)] := hl
  unfold xu_X12_enter at hU
  have hB := hU
  refine lv_aload_n hx hb dX12_enter_0 rfl (lv_at hl 0 rfl) ?_
  refine lv_iload_n hx hb dX12_enter_1 rfl (lv_at hl 1 rfl) ?_
  refine xr_i hw (xr_runV (As := [.int a1]) (rest := []) X hw 0 (xc_X12_isShow l D cy q σ a1 hB _) xm_X12_isShow xt_6_46 xt_6_48 xt_p_44 ⟨Nat.le_of_ble_eq_true rfl, Nat.le_of_ble_eq_true rfl⟩ xl_B_ShowRingsModel_at rfl rfl rfl rfl hl.1 (Nat.le_of_ble_eq_true rfl) dX12_enter_2 ⟨Nat.zero_le _, Nat.zero_le _⟩) (fun r2 σ1 H locs hB hw => ?_)
  refine lv_if_eq (tgt := 30) hx hb dX12_enter_5 (by decide) (fun hc => ?_) (fun hc => ?_)
  · replace hB := hB.1 hc
    refine lv_iconst (v := (-1 : Int32)) hx hb dX12_enter_30 (by decide) ?_
    exact xr_iret X hw hr hk hB dX12_enter_31
  · replace hB := hB.2 hc
    refine lv_aload_n hx hb dX12_enter_8 rfl (lv_at hl 0 rfl) ?_
    refine lv_iload_n hx hb dX12_enter_9 rfl (lv_at hl 2 rfl) ?_
    refine xr_i hw (xr_runV (As := [.int a2]) (rest := []) X hw 0 (xc_X12_isDog l D cy q σ1 a2 hB _) xm_X12_isDog xt_6_50 xt_6_52 xt_p_45 ⟨Nat.le_of_ble_eq_true rfl, Nat.le_of_ble_eq_true rfl⟩ xl_B_ShowRingsModel_at rfl rfl rfl rfl hl.1 (Nat.le_of_ble_eq_true rfl) dX12_enter_10 ⟨Nat.zero_le _, Nat.zero_le _⟩) (fun r4 σ3 H locs hB hw => ?_)
    refine lv_if_eq (tgt := 30) hx hb dX12_enter_13 (by decide) (fun hc => ?_) (fun hc => ?_)
    · replace hB := hB.1 hc
      refine lv_iconst (v := (-1 : Int32)) hx hb dX12_enter_30 (by decide) ?_
      exact xr_iret X hw hr hk hB dX12_enter_31
    · replace hB := hB.2 hc
      refine lv_aload_n hx hb dX12_enter_16 rfl (lv_at hl 0 rfl) ?_
      refine xr_getr X hw (xf_X12_128 X) 0 xl_B_ShowRingsModel_at rfl dX12_enter_17 ?_
      refine lv_bipush (v := (20 : Int32)) hx hb dX12_enter_20 (by decide) ?_
      refine lv_iload_n hx hb dX12_enter_22 rfl (lv_at hl 1 rfl) ?_
      refine lv_imul hx hb dX12_enter_23 ?_
      refine lv_iload_n hx hb dX12_enter_24 rfl (lv_at hl 2 rfl) ?_
      refine lv_iadd hx hb dX12_enter_25 ?_
      refine xr_zald X hw 37 xl_B_ShowRingsModel_isEntry_at hB.1 dX12_enter_26 ?_
      replace hB := hB.2
      refine lv_if_eq (tgt := 32) hx hb dX12_enter_27 (by decide) (fun hc => ?_) (fun hc => ?_)
      · replace hB := hB.1 hc
        refine lv_aload_n hx hb dX12_enter_32 rfl (lv_at hl 0 rfl) ?_
        refine lv_iload_n hx hb dX12_enter_33 rfl (lv_at hl 1 rfl) ?_
        refine lv_iload_n hx hb dX12_enter_34 rfl (lv_at hl 2 rfl) ?_
        refine xr_i hw (xr_runV (As := [.int a1, .int a2]) (rest := []) X hw 0 (xc_X12_classOf l D cy q σ3 a1 a2 hB _) xm_X12_classOf xt_6_94 xt_6_96 xt_p_52 ⟨Nat.le_of_ble_eq_true rfl, Nat.le_of_ble_eq_true rfl⟩ xl_B_ShowRingsModel_at rfl rfl rfl rfl hl.1 (Nat.le_of_ble_eq_true rfl) dX12_enter_35 ⟨Nat.zero_le _, Nat.zero_le _⟩) (fun r6 σ5 H locs hB hw => ?_)
        refine lv_istore_n (lv' := [(3, .int r6), (0, .ref (q 0)), (1, .int a1), (2, .int a2)]) hx hb dX12_enter_38 rfl hl (by decide) rfl (fun ls hl => ?_)
        refine lv_iload_n hx hb dX12_enter_39 rfl (lv_at hl 0 rfl) ?_
        refine lv_iconst (v := (-1 : Int32)) hx hb dX12_enter_40 (by decide) ?_
        refine lv_icmp_ne (tgt := 47) hx hb dX12_enter_41 (by decide) (fun hc => ?_) (fun hc => ?_)
        · replace hB := hB.1 hc
          refine lv_aload_n hx hb dX12_enter_47 rfl (lv_at hl 1 rfl) ?_
          refine xr_getr X hw (xf_X12_152 X) 0 xl_B_ShowRingsModel_at rfl dX12_enter_48 ?_
          refine lv_bipush (v := (6 : Int32)) hx hb dX12_enter_51 (by decide) ?_
          refine lv_iload_n hx hb dX12_enter_53 rfl (lv_at hl 2 rfl) ?_
          refine lv_imul hx hb dX12_enter_54 ?_
          refine lv_aload_n hx hb dX12_enter_55 rfl (lv_at hl 1 rfl) ?_
          refine xr_getr X hw (xf_X12_110 X) 0 xl_B_ShowRingsModel_at rfl dX12_enter_56 ?_
          refine lv_iload_n hx hb dX12_enter_59 rfl (lv_at hl 3 rfl) ?_
          refine xr_iald X hw 31 xl_B_ShowRingsModel_breedOf_at hB.1 dX12_enter_60 ?_
          replace hB := hB.2
          refine lv_iadd hx hb dX12_enter_61 ?_
          refine xr_iald X hw 45 xl_B_ShowRingsModel_plannedJudge_at hB.1 dX12_enter_62 ?_
          replace hB := hB.2
          refine lv_iconst (v := (-1 : Int32)) hx hb dX12_enter_63 (by decide) ?_
          refine lv_icmp_eq (tgt := 70) hx hb dX12_enter_64 (by decide) (fun hc => ?_) (fun hc => ?_)
          · replace hB := hB.1 hc
            refine lv_aload_n hx hb dX12_enter_70 rfl (lv_at hl 1 rfl) ?_
            refine xr_getr X hw (xf_X12_128 X) 0 xl_B_ShowRingsModel_at rfl dX12_enter_71 ?_
            refine lv_bipush (v := (20 : Int32)) hx hb dX12_enter_74 (by decide) ?_
            refine lv_iload_n hx hb dX12_enter_76 rfl (lv_at hl 2 rfl) ?_
            refine lv_imul hx hb dX12_enter_77 ?_
            refine lv_iload_n hx hb dX12_enter_78 rfl (lv_at hl 3 rfl) ?_
            refine lv_iadd hx hb dX12_enter_79 ?_
            refine lv_iconst (v := (1 : Int32)) hx hb dX12_enter_80 (by decide) ?_
            refine xr_zast X hw 37 xl_B_ShowRingsModel_isEntry_at hB.1 dX12_enter_81 hB.2 (fun σ7 H locs hB hw => ?_)
            refine lv_iload_n hx hb dX12_enter_82 rfl (lv_at hl 0 rfl) ?_
            exact xr_iret X hw hr hk hB dX12_enter_83
          · replace hB := hB.2 hc
            refine lv_bipush (v := (-3 : Int32)) hx hb dX12_enter_67 (by decide) ?_
            exact xr_iret X hw hr hk hB dX12_enter_69
        · replace hB := hB.2 hc
          refine lv_bipush (v := (-2 : Int32)) hx hb dX12_enter_44 (by decide) ?_
          exact xr_iret X hw hr hk hB dX12_enter_46
      · replace hB := hB.2 hc
        refine lv_iconst (v := (-1 : Int32)) hx hb dX12_enter_30 (by decide) ?_
        exact xr_iret X hw hr hk hB dX12_enter_31
set_option maxRecDepth 100000 in
set_option maxHeartbeats 4000000 in
theorem xc_X12_handlersOf (l : Launch) (D : va_G) (cy : Nat → ClassId) (q : Nat → Nat) (σ : xw_M) (a1 : Int32) (a2 : Int32) {Z : Int32 → xw_M → Prop} (hU : xu_X12_handlersOf σ a1 a2 Z) : xr_CI l yX12_handlersOf cX12_handlersOf 5 .int { frames := 0, cells := 0, slots := 0, locals := 0 } D cy xl_B q σ [.ref (q 0), .int a1, .int a2] Z := by
  refine xr_CI.of RX12 rfl (by decide) (Nat.le_of_ble_eq_true rfl) (fun p e s m below meth c X hw hr hk ls hl => ?_)
  have hx := X.1
  have hb := X.2.1
  have hl : lv_has ls 5 [(0, .ref (q 0)), (1, .int a1), (2, .int a2)] := hl
  have hB := hU (fun (σ : xw_M) (v3 : Int32) (v4 : Int32) => ∀ (H : Heap) (locs : List Loc) (ls : Array Slot), xr_H D cy xl_B q s σ H locs → lv_has ls 5 [(0, .ref (q 0)), (1, .int a1), (2, .int a2), (3, .int v3), (4, .int v4)] → W p l e ({ frames := 0, cells := 0, slots := 0, locals := 0 } : Room) s m ([.ref (q 0), .int a1, .int a2] : List Value).toArray below meth c H locs 0 0 (MQ below (va_Qi Z (xr_po D cy xl_B q) (xw_A xl_B q s.heap.size)) ([.ref (q 0), .int a1, .int a2] : List Value).toArray s 0 0 (xw_A xl_B q s.heap.size)) (F0 m 5 ls []))
    (by
    intro σ v3 v4 hB H locs ls hw hl
    unfold xb_X12_handlersOf_5 at hB
    refine lv_iload hx hb dX12_handlersOf_5 (lv_at hl 4 rfl) ?_
    refine lv_aload_n hx hb dX12_handlersOf_7 rfl (lv_at hl 0 rfl) ?_
    refine xr_geti X hw (xf_X12_305 X) 0 xl_B_ShowRingsModel_at rfl dX12_handlersOf_8 ?_
    refine lv_icmp_ge (tgt := 58) hx hb dX12_handlersOf_11 (by decide) (fun hc => ?_) (fun hc => ?_)
    · replace hB := hB.1 hc
      refine lv_iload_n hx hb dX12_handlersOf_58 rfl (lv_at hl 3 rfl) ?_
      exact xr_iret X hw hr hk hB dX12_handlersOf_59
    · replace hB := hB.2 hc
      refine lv_aload_n hx hb dX12_handlersOf_14 rfl (lv_at hl 0 rfl) ?_
      refine xr_getr X hw (xf_X12_128 X) 0 xl_B_ShowRingsModel_at rfl dX12_handlersOf_15 ?_
      refine lv_bipush (v := (20 : Int32)) hx hb dX12_handlersOf_18 (by decide) ?_
      refine lv_iload_n hx hb dX12_handlersOf_20 rfl (lv_at hl 1 rfl) ?_
      refine lv_imul hx hb dX12_handlersOf_21 ?_
      refine lv_iload hx hb dX12_handlersOf_22 (lv_at hl 4 rfl) ?_
      refine lv_iadd hx hb dX12_handlersOf_24 ?_
      refine xr_zald X hw 37 xl_B_ShowRingsModel_isEntry_at hB.1 dX12_handlersOf_25 ?_
      replace hB := hB.2
      refine lv_if_eq (tgt := 52) hx hb dX12_handlersOf_26 (by decide) (fun hc => ?_) (fun hc => ?_)
      · replace hB := hB.1 hc
        refine lv_iinc (v := (v4 + (1 : Int32))) (lv' := [(4, .int (v4 + (1 : Int32))), (0, .ref (q 0)), (1, .int a1), (2, .int a2), (3, .int v3)]) hx hb dX12_handlersOf_52 hl (k := 4) rfl rfl (by decide) rfl (fun ls hl => ?_)
        refine lv_goto (tgt := 5) hx hb dX12_handlersOf_55 (by decide) ?_
        exact hB _ _ _ hw (lv_sub hl [1, 2, 3, 4, 0] rfl)
      · replace hB := hB.2 hc
        refine lv_aload_n hx hb dX12_handlersOf_29 rfl (lv_at hl 0 rfl) ?_
        refine xr_getr X hw (xf_X12_110 X) 0 xl_B_ShowRingsModel_at rfl dX12_handlersOf_30 ?_
        refine lv_iload hx hb dX12_handlersOf_33 (lv_at hl 4 rfl) ?_
        refine xr_iald X hw 31 xl_B_ShowRingsModel_breedOf_at hB.1 dX12_handlersOf_35 ?_
        replace hB := hB.2
        refine lv_iload_n hx hb dX12_handlersOf_36 rfl (lv_at hl 2 rfl) ?_
        refine lv_icmp_ne (tgt := 52) hx hb dX12_handlersOf_37 (by decide) (fun hc => ?_) (fun hc => ?_)
        · replace hB := hB.1 hc
          refine lv_iinc (v := (v4 + (1 : Int32))) (lv' := [(4, .int (v4 + (1 : Int32))), (0, .ref (q 0)), (1, .int a1), (2, .int a2), (3, .int v3)]) hx hb dX12_handlersOf_52 hl (k := 4) rfl rfl (by decide) rfl (fun ls hl => ?_)
          refine lv_goto (tgt := 5) hx hb dX12_handlersOf_55 (by decide) ?_
          exact hB _ _ _ hw (lv_sub hl [1, 2, 3, 4, 0] rfl)
        · replace hB := hB.2 hc
          refine lv_iload_n hx hb dX12_handlersOf_40 rfl (lv_at hl 3 rfl) ?_
          refine lv_iconst (v := (1 : Int32)) hx hb dX12_handlersOf_41 (by decide) ?_
          refine lv_aload_n hx hb dX12_handlersOf_42 rfl (lv_at hl 0 rfl) ?_
          refine xr_getr X hw (xf_X12_122 X) 0 xl_B_ShowRingsModel_at rfl dX12_handlersOf_43 ?_
          refine lv_iload hx hb dX12_handlersOf_46 (lv_at hl 4 rfl) ?_
          refine xr_iald X hw 35 xl_B_ShowRingsModel_handler_at hB.1 dX12_handlersOf_48 ?_
          replace hB := hB.2
          refine lv_ishl hx hb dX12_handlersOf_49 ?_
          refine lv_ior hx hb dX12_handlersOf_50 ?_
          refine lv_topi (fun x1 hx1 => ?_)
          replace hB := hB _ hx1
          refine lv_istore_n (lv' := [(3, .int x1), (0, .ref (q 0)), (1, .int a1), (2, .int a2), (4, .int v4)]) hx hb dX12_handlersOf_51 rfl hl (by decide) rfl (fun ls hl => ?_)
          refine lv_iinc (v := (v4 + (1 : Int32))) (lv' := [(4, .int (v4 + (1 : Int32))), (3, .int x1), (0, .ref (q 0)), (1, .int a1), (2, .int a2)]) hx hb dX12_handlersOf_52 hl (k := 4) rfl rfl (by decide) rfl (fun ls hl => ?_)
          refine lv_goto (tgt := 5) hx hb dX12_handlersOf_55 (by decide) ?_
          exact hB _ _ _ hw (lv_sub hl [2, 3, 4, 1, 0] rfl))
  unfold xb_X12_handlersOf_e at hB
  refine lv_iconst (v := (0 : Int32)) hx hb dX12_handlersOf_0 (by decide) ?_
  refine lv_istore_n (lv' := [(3, .int (0 : Int32)), (0, .ref (q 0)), (1, .int a1), (2, .int a2)]) hx hb dX12_handlersOf_1 rfl hl (by decide) rfl (fun ls hl => ?_)
  refine lv_iconst (v := (0 : Int32)) hx hb dX12_handlersOf_2 (by decide) ?_
  refine lv_istore (lv' := [(4, .int (0 : Int32)), (3, .int (0 : Int32)), (0, .ref (q 0)), (1, .int a1), (2, .int a2)]) hx hb dX12_handlersOf_3 hl (by decide) rfl (fun ls hl => ?_)
  exact hB _ _ _ hw (lv_sub hl [2, 3, 4, 1, 0] rfl)
theorem xf_X12_161 {p : Program} {s : State} {m : MethodId} {args : Array Value} {c : Code} {cc : ByteArray} {nL : Nat} {D : va_G} {cy : Nat → ClassId} {lay : List xw_E} {q : Nat → Nat} (X : xr_X p s m args c cc nL RX12 D cy lay q) : xr_F args s RX12 161 12 67 := ⟨RX12, TX12, 77, tyX12, rfl, by decide, fun w h => X.2.2.2.2.1 w (xt_inX12 w h), tyX12_ok, nmX12, Or.inl (X.2.2.2.2.1 _ xt_4_239)⟩
theorem xf_X12_164 {p : Program} {s : State} {m : MethodId} {args : Array Value} {c : Code} {cc : ByteArray} {nL : Nat} {D : va_G} {cy : Nat → ClassId} {lay : List xw_E} {q : Nat → Nat} (X : xr_X p s m args c cc nL RX12 D cy lay q) : xr_F args s RX12 164 12 68 := ⟨RX12, TX12, 77, tyX12, rfl, by decide, fun w h => X.2.2.2.2.1 w (xt_inX12 w h), tyX12_ok, nmX12, Or.inl (X.2.2.2.2.1 _ xt_5_0)⟩
theorem xf_X12_167 {p : Program} {s : State} {m : MethodId} {args : Array Value} {c : Code} {cc : ByteArray} {nL : Nat} {D : va_G} {cy : Nat → ClassId} {lay : List xw_E} {q : Nat → Nat} (X : xr_X p s m args c cc nL RX12 D cy lay q) : xr_F args s RX12 167 12 69 := ⟨RX12, TX12, 77, tyX12, rfl, by decide, fun w h => X.2.2.2.2.1 w (xt_inX12 w h), tyX12_ok, nmX12, Or.inl (X.2.2.2.2.1 _ xt_5_1)⟩
theorem xm_X12_handlersOf : xr_MW yX12_handlersOf cX12_handlersOf 5 (some .int) 2 := ⟨xt_6_133, xt_1_13, by decide, by decide, by decide +kernel⟩
set_option maxRecDepth 100000 in
set_option maxHeartbeats 4000000 in
theorem xc_X12_gathers (l : Launch) (D : va_G) (cy : Nat → ClassId) (q : Nat → Nat) (σ : xw_M) (a1 : Int32) (a2 : Int32) {Z : xw_M → Prop} (hU : xu_X12_gathers σ a1 a2 Z) : xr_CV l yX12_gathers cX12_gathers 6 { frames := 5, cells := 0, slots := 0, locals := 123 } D cy xl_B q σ [.ref (q 0), .int a1, .int a2] Z := by
  refine xr_CV.of RX12 rfl (by decide) (Nat.le_of_ble_eq_true rfl) (fun p e s m below meth c X hw hr hk ls hl => ?_)
  have hx := X.1
  have hb := X.2.1
  have hl : lv_has ls 6 [(0, .ref (q 0)), (1, .int a1), (2, .int a2)] := hl
  have hB := hU (fun (σ : xw_M) (v3 : Int32) => ∀ (H : Heap) (locs : List Loc) (ls : Array Slot), xr_H D cy xl_B q s σ H locs → lv_has ls 6 [(0, .ref (q 0)), (1, .int a1), (2, .int a2), (3, .int v3)] → W p l e ({ frames := 5, cells := 0, slots := 0, locals := 123 } : Room) s m ([.ref (q 0), .int a1, .int a2] : List Value).toArray below meth c H locs 0 0 (MQ below (va_Qv Z (xr_po D cy xl_B q) (xw_A xl_B q s.heap.size)) ([.ref (q 0), .int a1, .int a2] : List Value).toArray s 0 0 (xw_A xl_B q s.heap.size)) (F0 m 2 ls []))
    (fun (σ : xw_M) (v3 : Int32) (v4 : Int32) => ∀ (H : Heap) (locs : List Loc) (ls : Array Slot), xr_H D cy xl_B q s σ H locs → lv_has ls 6 [(0, .ref (q 0)), (1, .int a1), (2, .int a2), (3, .int v3), (4, .int v4)] → W p l e ({ frames := 5, cells := 0, slots := 0, locals := 123 } : Room) s m ([.ref (q 0), .int a1, .int a2] : List Value).toArray below meth c H locs 0 0 (MQ below (va_Qv Z (xr_po D cy xl_B q) (xw_A xl_B q s.heap.size)) ([.ref (q 0), .int a1, .int a2] : List Value).toArray s 0 0 (xw_A xl_B q s.heap.size)) (F0 m 39 ls []))
    (fun (σ : xw_M) (v3 : Int32) (v4 : Int32) => ∀ (H : Heap) (locs : List Loc) (ls : Array Slot), xr_H D cy xl_B q s σ H locs → lv_has ls 6 [(0, .ref (q 0)), (1, .int a1), (2, .int a2), (3, .int v3), (4, .int v4)] → W p l e ({ frames := 5, cells := 0, slots := 0, locals := 123 } : Room) s m ([.ref (q 0), .int a1, .int a2] : List Value).toArray below meth c H locs 0 0 (MQ below (va_Qv Z (xr_po D cy xl_B q) (xw_A xl_B q s.heap.size)) ([.ref (q 0), .int a1, .int a2] : List Value).toArray s 0 0 (xw_A xl_B q s.heap.size)) (F0 m 83 ls []))
    (fun (σ : xw_M) (v3 : Int32) (v4 : Int32) (v5 : Int32) => ∀ (H : Heap) (locs : List Loc) (ls : Array Slot), xr_H D cy xl_B q s σ H locs → lv_has ls 6 [(0, .ref (q 0)), (1, .int a1), (2, .int a2), (3, .int v3), (4, .int v4), (5, .int v5)] → W p l e ({ frames := 5, cells := 0, slots := 0, locals := 123 } : Room) s m ([.ref (q 0), .int a1, .int a2] : List Value).toArray below meth c H locs 0 0 (MQ below (va_Qv Z (xr_po D cy xl_B q) (xw_A xl_B q s.heap.size)) ([.ref (q 0), .int a1, .int a2] : List Value).toArray s 0 0 (xw_A xl_B q s.heap.size)) (F0 m 139 ls []))
    (by
    intro σ v3 hB H locs ls hw hl
    unfold xb_X12_gathers_2 at hB
    refine lv_iload_n hx hb dX12_gathers_2 rfl (lv_at hl 3 rfl) ?_
    refine lv_aload_n hx hb dX12_gathers_3 rfl (lv_at hl 0 rfl) ?_
    refine xr_geti X hw (xf_X12_302 X) 0 xl_B_ShowRingsModel_at rfl dX12_gathers_4 ?_
    refine lv_icmp_ge (tgt := 208) hx hb dX12_gathers_7 (by decide) (fun hc => ?_) (fun hc => ?_)
    · replace hB := hB.1 hc
      exact xr_vret X hw hr hk hB dX12_gathers_208
    · replace hB := hB.2 hc
      refine lv_aload_n hx hb dX12_gathers_10 rfl (lv_at hl 0 rfl) ?_
      refine xr_getr X hw (xf_X12_161 X) 0 xl_B_ShowRingsModel_at rfl dX12_gathers_11 ?_
      refine lv_iload_n hx hb dX12_gathers_14 rfl (lv_at hl 3 rfl) ?_
      refine lv_iconst (v := (0 : Int32)) hx hb dX12_gathers_15 (by decide) ?_
      refine xr_iast X hw 48 xl_B_ShowRingsModel_takes_at hB.1 dX12_gathers_16 hB.2 (fun σ1 H locs hB hw => ?_)
      refine lv_aload_n hx hb dX12_gathers_17 rfl (lv_at hl 0 rfl) ?_
      refine xr_getr X hw (xf_X12_164 X) 0 xl_B_ShowRingsModel_at rfl dX12_gathers_18 ?_
      refine lv_iload_n hx hb dX12_gathers_21 rfl (lv_at hl 3 rfl) ?_
      refine lv_iconst (v := (0 : Int32)) hx hb dX12_gathers_22 (by decide) ?_
      refine xr_iast X hw 49 xl_B_ShowRingsModel_mayJudge_at hB.1 dX12_gathers_23 hB.2 (fun σ2 H locs hB hw => ?_)
      refine lv_aload_n hx hb dX12_gathers_24 rfl (lv_at hl 0 rfl) ?_
      refine xr_getr X hw (xf_X12_167 X) 0 xl_B_ShowRingsModel_at rfl dX12_gathers_25 ?_
      refine lv_iload_n hx hb dX12_gathers_28 rfl (lv_at hl 3 rfl) ?_
      refine lv_aload_n hx hb dX12_gathers_29 rfl (lv_at hl 0 rfl) ?_
      refine lv_iload_n hx hb dX12_gathers_30 rfl (lv_at hl 1 rfl) ?_
      refine lv_iload_n hx hb dX12_gathers_31 rfl (lv_at hl 3 rfl) ?_
      refine xr_i hw (xr_runV (As := [.int a1, .int v3]) (rest := [.int v3, .ref (q 50)]) X hw 0 (xc_X12_handlersOf l D cy q σ2 a1 v3 hB _) xm_X12_handlersOf xt_6_130 xt_6_132 xt_p_58 ⟨Nat.le_of_ble_eq_true rfl, Nat.le_of_ble_eq_true rfl⟩ xl_B_ShowRingsModel_at rfl rfl rfl rfl hl.1 (Nat.le_of_ble_eq_true rfl) dX12_gathers_32 ⟨Nat.zero_le _, Nat.zero_le _⟩) (fun r4 σ3 H locs hB hw => ?_)
      refine xr_iast X hw 50 xl_B_ShowRingsModel_handles_at hB.1 dX12_gathers_35 hB.2 (fun σ5 H locs hB hw => ?_)
      refine lv_iconst (v := (0 : Int32)) hx hb dX12_gathers_36 (by decide) ?_
      refine lv_istore (lv' := [(4, .int (0 : Int32)), (0, .ref (q 0)), (1, .int a1), (2, .int a2), (3, .int v3)]) hx hb dX12_gathers_37 hl (by decide) rfl (fun ls hl => ?_)
      exact hB _ _ _ hw (lv_sub hl [1, 2, 3, 4, 0] rfl))
    (by
    intro σ v3 v4 hB H locs ls hw hl
    unfold xb_X12_gathers_39 at hB
    refine lv_iload hx hb dX12_gathers_39 (lv_at hl 4 rfl) ?_
    refine lv_bipush (v := (12 : Int32)) hx hb dX12_gathers_41 (by decide) ?_
    refine lv_icmp_ge (tgt := 80) hx hb dX12_gathers_43 (by decide) (fun hc => ?_) (fun hc => ?_)
    · replace hB := hB.1 hc
      refine lv_iconst (v := (0 : Int32)) hx hb dX12_gathers_80 (by decide) ?_
      refine lv_istore (lv' := [(4, .int (0 : Int32)), (0, .ref (q 0)), (1, .int a1), (2, .int a2), (3, .int v3)]) hx hb dX12_gathers_81 hl (by decide) rfl (fun ls hl => ?_)
      exact hB _ _ _ hw (lv_sub hl [1, 2, 3, 4, 0] rfl)
    · replace hB := hB.2 hc
      refine lv_aload_n hx hb dX12_gathers_46 rfl (lv_at hl 0 rfl) ?_
      refine xr_getr X hw (xf_X12_95 X) 0 xl_B_ShowRingsModel_at rfl dX12_gathers_47 ?_
      refine lv_iload hx hb dX12_gathers_50 (lv_at hl 4 rfl) ?_
      refine xr_iald X hw 26 xl_B_ShowRingsModel_permits_at hB.1 dX12_gathers_52 ?_
      replace hB := hB.2
      refine lv_iload_n hx hb dX12_gathers_53 rfl (lv_at hl 3 rfl) ?_
      refine lv_ishr hx hb dX12_gathers_54 ?_
      refine lv_iconst (v := (1 : Int32)) hx hb dX12_gathers_55 (by decide) ?_
      refine lv_iand hx hb dX12_gathers_56 ?_
      refine lv_iconst (v := (1 : Int32)) hx hb dX12_gathers_57 (by decide) ?_
      refine lv_icmp_ne (tgt := 74) hx hb dX12_gathers_58 (by decide) (fun hc => ?_) (fun hc => ?_)
      · replace hB := hB.1 hc
        refine lv_iinc (v := (v4 + (1 : Int32))) (lv' := [(4, .int (v4 + (1 : Int32))), (0, .ref (q 0)), (1, .int a1), (2, .int a2), (3, .int v3)]) hx hb dX12_gathers_74 hl (k := 4) rfl rfl (by decide) rfl (fun ls hl => ?_)
        refine lv_goto (tgt := 39) hx hb dX12_gathers_77 (by decide) ?_
        exact hB _ _ _ hw (lv_sub hl [1, 2, 3, 4, 0] rfl)
      · replace hB := hB.2 hc
        refine lv_aload_n hx hb dX12_gathers_61 rfl (lv_at hl 0 rfl) ?_
        refine xr_getr X hw (xf_X12_164 X) 0 xl_B_ShowRingsModel_at rfl dX12_gathers_62 ?_
        refine lv_iload_n hx hb dX12_gathers_65 rfl (lv_at hl 3 rfl) ?_
        refine lv_dup2_11 hx hb dX12_gathers_66 rfl rfl ?_
        refine xr_iald X hw 49 xl_B_ShowRingsModel_mayJudge_at hB.1 dX12_gathers_67 ?_
        replace hB := hB.2
        refine lv_iconst (v := (1 : Int32)) hx hb dX12_gathers_68 (by decide) ?_
        refine lv_iload hx hb dX12_gathers_69 (lv_at hl 4 rfl) ?_
        refine lv_ishl hx hb dX12_gathers_71 ?_
        refine lv_ior hx hb dX12_gathers_72 ?_
        refine xr_iast X hw 49 xl_B_ShowRingsModel_mayJudge_at hB.1 dX12_gathers_73 hB.2 (fun σ6 H locs hB hw => ?_)
        refine lv_iinc (v := (v4 + (1 : Int32))) (lv' := [(4, .int (v4 + (1 : Int32))), (0, .ref (q 0)), (1, .int a1), (2, .int a2), (3, .int v3)]) hx hb dX12_gathers_74 hl (k := 4) rfl rfl (by decide) rfl (fun ls hl => ?_)
        refine lv_goto (tgt := 39) hx hb dX12_gathers_77 (by decide) ?_
        exact hB _ _ _ hw (lv_sub hl [1, 2, 3, 4, 0] rfl))
    (by
    intro σ v3 v4 hB H locs ls hw hl
    unfold xb_X12_gathers_83 at hB
    refine lv_iload hx hb dX12_gathers_83 (lv_at hl 4 rfl) ?_
    refine lv_aload_n hx hb dX12_gathers_85 rfl (lv_at hl 0 rfl) ?_
    refine xr_geti X hw (xf_X12_305 X) 0 xl_B_ShowRingsModel_at rfl dX12_gathers_86 ?_
    refine lv_icmp_ge (tgt := 202) hx hb dX12_gathers_89 (by decide) (fun hc => ?_) (fun hc => ?_)
    · replace hB := hB.1 hc
      refine lv_iinc (v := (v3 + (1 : Int32))) (lv' := [(3, .int (v3 + (1 : Int32))), (0, .ref (q 0)), (1, .int a1), (2, .int a2), (4, .int v4)]) hx hb dX12_gathers_202 hl (k := 3) rfl rfl (by decide) rfl (fun ls hl => ?_)
      refine lv_goto (tgt := 2) hx hb dX12_gathers_205 (by decide) ?_
      exact hB _ _ _ hw (lv_sub hl [1, 2, 3, 0] rfl)
    · replace hB := hB.2 hc
      refine lv_aload_n hx hb dX12_gathers_92 rfl (lv_at hl 0 rfl) ?_
      refine xr_getr X hw (xf_X12_128 X) 0 xl_B_ShowRingsModel_at rfl dX12_gathers_93 ?_
      refine lv_bipush (v := (20 : Int32)) hx hb dX12_gathers_96 (by decide) ?_
      refine lv_iload_n hx hb dX12_gathers_98 rfl (lv_at hl 1 rfl) ?_
      refine lv_imul hx hb dX12_gathers_99 ?_
      refine lv_iload hx hb dX12_gathers_100 (lv_at hl 4 rfl) ?_
      refine lv_iadd hx hb dX12_gathers_102 ?_
      refine xr_zald X hw 37 xl_B_ShowRingsModel_isEntry_at hB.1 dX12_gathers_103 ?_
      replace hB := hB.2
      refine lv_if_eq (tgt := 196) hx hb dX12_gathers_104 (by decide) (fun hc => ?_) (fun hc => ?_)
      · replace hB := hB.1 hc
        refine lv_iinc (v := (v4 + (1 : Int32))) (lv' := [(4, .int (v4 + (1 : Int32))), (0, .ref (q 0)), (1, .int a1), (2, .int a2), (3, .int v3)]) hx hb dX12_gathers_196 hl (k := 4) rfl rfl (by decide) rfl (fun ls hl => ?_)
        refine lv_goto (tgt := 83) hx hb dX12_gathers_199 (by decide) ?_
        exact hB _ _ _ hw (lv_sub hl [1, 2, 3, 4, 0] rfl)
      · replace hB := hB.2 hc
        refine lv_aload_n hx hb dX12_gathers_107 rfl (lv_at hl 0 rfl) ?_
        refine xr_getr X hw (xf_X12_110 X) 0 xl_B_ShowRingsModel_at rfl dX12_gathers_108 ?_
        refine lv_iload hx hb dX12_gathers_111 (lv_at hl 4 rfl) ?_
        refine xr_iald X hw 31 xl_B_ShowRingsModel_breedOf_at hB.1 dX12_gathers_113 ?_
        replace hB := hB.2
        refine lv_iload_n hx hb dX12_gathers_114 rfl (lv_at hl 3 rfl) ?_
        refine lv_icmp_eq (tgt := 121) hx hb dX12_gathers_115 (by decide) (fun hc => ?_) (fun hc => ?_)
        · replace hB := hB.1 hc
          refine lv_aload_n hx hb dX12_gathers_121 rfl (lv_at hl 0 rfl) ?_
          refine xr_getr X hw (xf_X12_161 X) 0 xl_B_ShowRingsModel_at rfl dX12_gathers_122 ?_
          refine lv_iload_n hx hb dX12_gathers_125 rfl (lv_at hl 3 rfl) ?_
          refine lv_dup2_11 hx hb dX12_gathers_126 rfl rfl ?_
          refine xr_iald X hw 48 xl_B_ShowRingsModel_takes_at hB.1 dX12_gathers_127 ?_
          replace hB := hB.2
          refine lv_aload_n hx hb dX12_gathers_128 rfl (lv_at hl 0 rfl) ?_
          refine xr_getr X hw (xf_X12_101 X) 0 xl_B_ShowRingsModel_at rfl dX12_gathers_129 ?_
          refine lv_iload_n hx hb dX12_gathers_132 rfl (lv_at hl 3 rfl) ?_
          refine xr_iald X hw 28 xl_B_ShowRingsModel_minutes_at hB.1 dX12_gathers_133 ?_
          replace hB := hB.2
          refine lv_iadd hx hb dX12_gathers_134 ?_
          refine xr_iast X hw 48 xl_B_ShowRingsModel_takes_at hB.1 dX12_gathers_135 hB.2 (fun σ7 H locs hB hw => ?_)
          refine lv_iconst (v := (0 : Int32)) hx hb dX12_gathers_136 (by decide) ?_
          refine lv_istore (lv' := [(5, .int (0 : Int32)), (0, .ref (q 0)), (1, .int a1), (2, .int a2), (3, .int v3), (4, .int v4)]) hx hb dX12_gathers_137 hl (by decide) rfl (fun ls hl => ?_)
          exact hB _ _ _ hw (lv_sub hl [1, 2, 3, 4, 5, 0] rfl)
        · replace hB := hB.2 hc
          refine lv_goto (tgt := 196) hx hb dX12_gathers_118 (by decide) ?_
          refine lv_iinc (v := (v4 + (1 : Int32))) (lv' := [(4, .int (v4 + (1 : Int32))), (0, .ref (q 0)), (1, .int a1), (2, .int a2), (3, .int v3)]) hx hb dX12_gathers_196 hl (k := 4) rfl rfl (by decide) rfl (fun ls hl => ?_)
          refine lv_goto (tgt := 83) hx hb dX12_gathers_199 (by decide) ?_
          exact hB _ _ _ hw (lv_sub hl [1, 2, 3, 4, 0] rfl))
    (by
    intro σ v3 v4 v5 hB H locs ls hw hl
    unfold xb_X12_gathers_139 at hB
    refine lv_iload hx hb dX12_gathers_139 (lv_at hl 5 rfl) ?_
    refine lv_bipush (v := (12 : Int32)) hx hb dX12_gathers_141 (by decide) ?_
    refine lv_icmp_ge (tgt := 196) hx hb dX12_gathers_143 (by decide) (fun hc => ?_) (fun hc => ?_)
    · replace hB := hB.1 hc
      refine lv_iinc (v := (v4 + (1 : Int32))) (lv' := [(4, .int (v4 + (1 : Int32))), (0, .ref (q 0)), (1, .int a1), (2, .int a2), (3, .int v3), (5, .int v5)]) hx hb dX12_gathers_196 hl (k := 4) rfl rfl (by decide) rfl (fun ls hl => ?_)
      refine lv_goto (tgt := 83) hx hb dX12_gathers_199 (by decide) ?_
      exact hB _ _ _ hw (lv_sub hl [1, 2, 3, 4, 0] rfl)
    · replace hB := hB.2 hc
      refine lv_aload_n hx hb dX12_gathers_146 rfl (lv_at hl 0 rfl) ?_
      refine xr_getr X hw (xf_X12_164 X) 0 xl_B_ShowRingsModel_at rfl dX12_gathers_147 ?_
      refine lv_iload_n hx hb dX12_gathers_150 rfl (lv_at hl 3 rfl) ?_
      refine xr_iald X hw 49 xl_B_ShowRingsModel_mayJudge_at hB.1 dX12_gathers_151 ?_
      replace hB := hB.2
      refine lv_iload hx hb dX12_gathers_152 (lv_at hl 5 rfl) ?_
      refine lv_ishr hx hb dX12_gathers_154 ?_
      refine lv_iconst (v := (1 : Int32)) hx hb dX12_gathers_155 (by decide) ?_
      refine lv_iand hx hb dX12_gathers_156 ?_
      refine lv_iconst (v := (1 : Int32)) hx hb dX12_gathers_157 (by decide) ?_
      refine lv_icmp_ne (tgt := 190) hx hb dX12_gathers_158 (by decide) (fun hc => ?_) (fun hc => ?_)
      · replace hB := hB.1 hc
        refine lv_iinc (v := (v5 + (1 : Int32))) (lv' := [(5, .int (v5 + (1 : Int32))), (0, .ref (q 0)), (1, .int a1), (2, .int a2), (3, .int v3), (4, .int v4)]) hx hb dX12_gathers_190 hl (k := 5) rfl rfl (by decide) rfl (fun ls hl => ?_)
        refine lv_goto (tgt := 139) hx hb dX12_gathers_193 (by decide) ?_
        exact hB _ _ _ hw (lv_sub hl [1, 2, 3, 4, 5, 0] rfl)
      · replace hB := hB.2 hc
        refine lv_aload_n hx hb dX12_gathers_161 rfl (lv_at hl 0 rfl) ?_
        refine lv_iload hx hb dX12_gathers_162 (lv_at hl 5 rfl) ?_
        refine lv_iload_n hx hb dX12_gathers_164 rfl (lv_at hl 1 rfl) ?_
        refine lv_iload hx hb dX12_gathers_165 (lv_at hl 4 rfl) ?_
        refine lv_iload_n hx hb dX12_gathers_167 rfl (lv_at hl 2 rfl) ?_
        refine xr_i hw (xr_runV (As := [.int v5, .int a1, .int v4, .int a2]) (rest := []) X hw 0 (xc_X12_barOf l D cy q σ v5 a1 v4 a2 hB _) xm_X12_barOf xt_6_90 xt_6_92 xt_p_51 ⟨Nat.le_of_ble_eq_true rfl, Nat.le_of_ble_eq_true rfl⟩ xl_B_ShowRingsModel_at rfl rfl rfl rfl hl.1 (Nat.le_of_ble_eq_true rfl) dX12_gathers_168 ⟨Nat.zero_le _, Nat.zero_le _⟩) (fun r9 σ8 H locs hB hw => ?_)
        refine lv_iconst (v := (-1 : Int32)) hx hb dX12_gathers_171 (by decide) ?_
        refine lv_icmp_eq (tgt := 190) hx hb dX12_gathers_172 (by decide) (fun hc => ?_) (fun hc => ?_)
        · replace hB := hB.1 hc
          refine lv_iinc (v := (v5 + (1 : Int32))) (lv' := [(5, .int (v5 + (1 : Int32))), (0, .ref (q 0)), (1, .int a1), (2, .int a2), (3, .int v3), (4, .int v4)]) hx hb dX12_gathers_190 hl (k := 5) rfl rfl (by decide) rfl (fun ls hl => ?_)
          refine lv_goto (tgt := 139) hx hb dX12_gathers_193 (by decide) ?_
          exact hB _ _ _ hw (lv_sub hl [1, 2, 3, 4, 5, 0] rfl)
        · replace hB := hB.2 hc
          refine lv_aload_n hx hb dX12_gathers_175 rfl (lv_at hl 0 rfl) ?_
          refine xr_getr X hw (xf_X12_164 X) 0 xl_B_ShowRingsModel_at rfl dX12_gathers_176 ?_
          refine lv_iload_n hx hb dX12_gathers_179 rfl (lv_at hl 3 rfl) ?_
          refine lv_dup2_11 hx hb dX12_gathers_180 rfl rfl ?_
          refine xr_iald X hw 49 xl_B_ShowRingsModel_mayJudge_at hB.1 dX12_gathers_181 ?_
          replace hB := hB.2
          refine lv_iconst (v := (1 : Int32)) hx hb dX12_gathers_182 (by decide) ?_
          refine lv_iload hx hb dX12_gathers_183 (lv_at hl 5 rfl) ?_
          refine lv_ishl hx hb dX12_gathers_185 ?_
          refine lv_iconst (v := (-1 : Int32)) hx hb dX12_gathers_186 (by decide) ?_
          refine lv_ixor hx hb dX12_gathers_187 ?_
          refine lv_iand hx hb dX12_gathers_188 ?_
          refine xr_iast X hw 49 xl_B_ShowRingsModel_mayJudge_at hB.1 dX12_gathers_189 hB.2 (fun σ10 H locs hB hw => ?_)
          refine lv_iinc (v := (v5 + (1 : Int32))) (lv' := [(5, .int (v5 + (1 : Int32))), (0, .ref (q 0)), (1, .int a1), (2, .int a2), (3, .int v3), (4, .int v4)]) hx hb dX12_gathers_190 hl (k := 5) rfl rfl (by decide) rfl (fun ls hl => ?_)
          refine lv_goto (tgt := 139) hx hb dX12_gathers_193 (by decide) ?_
          exact hB _ _ _ hw (lv_sub hl [1, 2, 3, 4, 5, 0] rfl))
  unfold xb_X12_gathers_e at hB
  refine lv_iconst (v := (0 : Int32)) hx hb dX12_gathers_0 (by decide) ?_
  refine lv_istore_n (lv' := [(3, .int (0 : Int32)), (0, .ref (q 0)), (1, .int a1), (2, .int a2)]) hx hb dX12_gathers_1 rfl hl (by decide) rfl (fun ls hl => ?_)
  exact hB _ _ _ hw (lv_sub hl [1, 2, 3, 0] rfl)
set_option maxRecDepth 100000 in
set_option maxHeartbeats 4000000 in
theorem xc_X12_least (l : Launch) (D : va_G) (cy : Nat → ClassId) (q : Nat → Nat) (σ : xw_M) (a0 : Int32) {Z : Int32 → xw_M → Prop} (hU : xu_X12_least σ a0 Z) : xr_CI l yX12_least cX12_least 2 .int { frames := 0, cells := 0, slots := 0, locals := 0 } D cy xl_B q σ [.int a0] Z := by
  refine xr_CI.of RX12 rfl (by decide) (Nat.le_of_ble_eq_true rfl) (fun p e s m below meth c X hw hr hk ls hl => ?_)
  have hx := X.1
  have hb := X.2.1
  have hl : lv_has ls 2 [(0, .int a0)] := hl
  have hB := hU (fun (σ : xw_M) (v1 : Int32) => ∀ (H : Heap) (locs : List Loc) (ls : Array Slot), xr_H D cy xl_B q s σ H locs → lv_has ls 2 [(0, .int a0), (1, .int v1)] → W p l e ({ frames := 0, cells := 0, slots := 0, locals := 0 } : Room) s m ([.int a0] : List Value).toArray below meth c H locs 0 0 (MQ below (va_Qi Z (xr_po D cy xl_B q) (xw_A xl_B q s.heap.size)) ([.int a0] : List Value).toArray s 0 0 (xw_A xl_B q s.heap.size)) (F0 m 2 ls []))
    (by
    intro σ v1 hB H locs ls hw hl
    unfold xb_X12_least_2 at hB
    refine lv_iload_n hx hb dX12_least_2 rfl (lv_at hl 0 rfl) ?_
    refine lv_iload_n hx hb dX12_least_3 rfl (lv_at hl 1 rfl) ?_
    refine lv_ishr hx hb dX12_least_4 ?_
    refine lv_iconst (v := (1 : Int32)) hx hb dX12_least_5 (by decide) ?_
    refine lv_iand hx hb dX12_least_6 ?_
    refine lv_if_ne (tgt := 16) hx hb dX12_least_7 (by decide) (fun hc => ?_) (fun hc => ?_)
    · replace hB := hB.1 hc
      refine lv_iload_n hx hb dX12_least_16 rfl (lv_at hl 1 rfl) ?_
      exact xr_iret X hw hr hk hB dX12_least_17
    · replace hB := hB.2 hc
      refine lv_iinc (v := (v1 + (1 : Int32))) (lv' := [(1, .int (v1 + (1 : Int32))), (0, .int a0)]) hx hb dX12_least_10 hl (k := 1) rfl rfl (by decide) rfl (fun ls hl => ?_)
      refine lv_goto (tgt := 2) hx hb dX12_least_13 (by decide) ?_
      exact hB _ _ _ hw (lv_sub hl [1, 0] rfl))
  unfold xb_X12_least_e at hB
  refine lv_iconst (v := (0 : Int32)) hx hb dX12_least_0 (by decide) ?_
  refine lv_istore_n (lv' := [(1, .int (0 : Int32)), (0, .int a0)]) hx hb dX12_least_1 rfl hl (by decide) rfl (fun ls hl => ?_)
  exact hB _ _ _ hw (lv_sub hl [1, 0] rfl)
