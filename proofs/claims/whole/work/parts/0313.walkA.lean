theorem xf_X2_45 {p : Program} {s : State} {m : MethodId} {args : Array Value} {c : Code} {cc : ByteArray} {nL : Nat} {D : va_G} {cy : Nat → ClassId} {lay : List xw_E} {q : Nat → Nat} (X : xr_X p s m args c cc nL RX2 D cy lay q) : xr_F args s RX2 45 2 11 := ⟨RX2, TX2, 13, tyX2, rfl, by decide, fun w h => X.2.2.2.2.1 w (xt_inX2 w h), tyX2_ok, nmX2, Or.inl (X.2.2.2.2.1 _ xt_1_170)⟩
theorem xf_X2_18 {p : Program} {s : State} {m : MethodId} {args : Array Value} {c : Code} {cc : ByteArray} {nL : Nat} {D : va_G} {cy : Nat → ClassId} {lay : List xw_E} {q : Nat → Nat} (X : xr_X p s m args c cc nL RX2 D cy lay q) : xr_F args s RX2 18 2 2 := ⟨RX2, TX2, 13, tyX2, rfl, by decide, fun w h => X.2.2.2.2.1 w (xt_inX2 w h), tyX2_ok, nmX2, Or.inl (X.2.2.2.2.1 _ xt_1_153)⟩
theorem xf_X2_21 {p : Program} {s : State} {m : MethodId} {args : Array Value} {c : Code} {cc : ByteArray} {nL : Nat} {D : va_G} {cy : Nat → ClassId} {lay : List xw_E} {q : Nat → Nat} (X : xr_X p s m args c cc nL RX2 D cy lay q) : xr_F args s RX2 21 2 3 := ⟨RX2, TX2, 13, tyX2, rfl, by decide, fun w h => X.2.2.2.2.1 w (xt_inX2 w h), tyX2_ok, nmX2, Or.inl (X.2.2.2.2.1 _ xt_1_155)⟩
theorem xf_X2_24 {p : Program} {s : State} {m : MethodId} {args : Array Value} {c : Code} {cc : ByteArray} {nL : Nat} {D : va_G} {cy : Nat → ClassId} {lay : List xw_E} {q : Nat → Nat} (X : xr_X p s m args c cc nL RX2 D cy lay q) : xr_F args s RX2 24 2 4 := ⟨RX2, TX2, 13, tyX2, rfl, by decide, fun w h => X.2.2.2.2.1 w (xt_inX2 w h), tyX2_ok, nmX2, Or.inl (X.2.2.2.2.1 _ xt_1_157)⟩
theorem xf_X2_27 {p : Program} {s : State} {m : MethodId} {args : Array Value} {c : Code} {cc : ByteArray} {nL : Nat} {D : va_G} {cy : Nat → ClassId} {lay : List xw_E} {q : Nat → Nat} (X : xr_X p s m args c cc nL RX2 D cy lay q) : xr_F args s RX2 27 2 5 := ⟨RX2, TX2, 13, tyX2, rfl, by decide, fun w h => X.2.2.2.2.1 w (xt_inX2 w h), tyX2_ok, nmX2, Or.inl (X.2.2.2.2.1 _ xt_1_158)⟩
theorem xp_X2_45 {p : Program} {s : State} {m : MethodId} {args : Array Value} {c : Code} {cc : ByteArray} {nL : Nat} {D : va_G} {cy : Nat → ClassId} {lay : List xw_E} {q : Nat → Nat} (X : xr_X p s m args c cc nL RX2 D cy lay q) : xr_P args s RX2 45 2 11 := ⟨RX2, TX2, 13, tyX2, rfl, by decide, fun w h => X.2.2.2.2.1 w (xt_inX2 w h), tyX2_ok, nmX2, Or.inl (X.2.2.2.2.1 _ xt_1_170), rfl, by decide +kernel⟩
set_option maxRecDepth 100000 in
set_option maxHeartbeats 4000000 in
theorem xc_X2_addBreed (l : Launch) (D : va_G) (cy : Nat → ClassId) (q : Nat → Nat) (σ : xw_M) (a1 : Int32) (a2 : Int32) (a3 : Int32) (a4 : Int32) {Z : Int32 → xw_M → Prop} (hU : xu_X2_addBreed σ a1 a2 a3 a4 Z) : xr_CI l yX2_addBreed cX2_addBreed 5 .int { frames := 0, cells := 0, slots := 0, locals := 0 } D cy xl_A q σ [.ref (q 4), .int a1, .int a2, .int a3, .int a4] Z := by
  refine xr_CI.of RX2 rfl (by decide) (Nat.le_of_ble_eq_true rfl) (fun p e s m below meth c X hw hr hk ls hl => ?_)
  have hx := X.1
  have hb := X.2.1
  have hl : lv_has ls 5 [(0, .ref (q 4)), (1, .int a1), (2, .int a2), (3, .int a3), (4, .int a4)] := hl
  unfold xu_X2_addBreed at hU
  have hB := hU
  refine lv_aload_n hx hb dX2_addBreed_0 rfl (lv_at hl 0 rfl) ?_
  refine xr_geti X hw (xf_X2_45 X) 4 xl_A_Kennel_at rfl dX2_addBreed_1 ?_
  refine lv_bipush (v := (6 : Int32)) hx hb dX2_addBreed_4 (by decide) ?_
  refine lv_icmp_lt (tgt := 11) hx hb dX2_addBreed_6 (by decide) (fun hc => ?_) (fun hc => ?_)
  · replace hB := hB.1 hc
    refine lv_aload_n hx hb dX2_addBreed_11 rfl (lv_at hl 0 rfl) ?_
    refine xr_getr X hw (xf_X2_18 X) 4 xl_A_Kennel_at rfl dX2_addBreed_12 ?_
    refine lv_aload_n hx hb dX2_addBreed_15 rfl (lv_at hl 0 rfl) ?_
    refine xr_geti X hw (xf_X2_45 X) 4 xl_A_Kennel_at rfl dX2_addBreed_16 ?_
    refine lv_iload_n hx hb dX2_addBreed_19 rfl (lv_at hl 1 rfl) ?_
    refine xr_iast X hw 30 xl_A_Kennel_group_at hB.1 dX2_addBreed_20 hB.2 (fun σ1 H locs hB hw => ?_)
    refine lv_aload_n hx hb dX2_addBreed_21 rfl (lv_at hl 0 rfl) ?_
    refine xr_getr X hw (xf_X2_21 X) 4 xl_A_Kennel_at rfl dX2_addBreed_22 ?_
    refine lv_aload_n hx hb dX2_addBreed_25 rfl (lv_at hl 0 rfl) ?_
    refine xr_geti X hw (xf_X2_45 X) 4 xl_A_Kennel_at rfl dX2_addBreed_26 ?_
    refine lv_iload_n hx hb dX2_addBreed_29 rfl (lv_at hl 2 rfl) ?_
    refine xr_iast X hw 31 xl_A_Kennel_minutes_at hB.1 dX2_addBreed_30 hB.2 (fun σ2 H locs hB hw => ?_)
    refine lv_aload_n hx hb dX2_addBreed_31 rfl (lv_at hl 0 rfl) ?_
    refine xr_getr X hw (xf_X2_24 X) 4 xl_A_Kennel_at rfl dX2_addBreed_32 ?_
    refine lv_aload_n hx hb dX2_addBreed_35 rfl (lv_at hl 0 rfl) ?_
    refine xr_geti X hw (xf_X2_45 X) 4 xl_A_Kennel_at rfl dX2_addBreed_36 ?_
    refine lv_iload_n hx hb dX2_addBreed_39 rfl (lv_at hl 3 rfl) ?_
    refine xr_iast X hw 32 xl_A_Kennel_heightFrom_at hB.1 dX2_addBreed_40 hB.2 (fun σ3 H locs hB hw => ?_)
    refine lv_aload_n hx hb dX2_addBreed_41 rfl (lv_at hl 0 rfl) ?_
    refine xr_getr X hw (xf_X2_27 X) 4 xl_A_Kennel_at rfl dX2_addBreed_42 ?_
    refine lv_aload_n hx hb dX2_addBreed_45 rfl (lv_at hl 0 rfl) ?_
    refine xr_geti X hw (xf_X2_45 X) 4 xl_A_Kennel_at rfl dX2_addBreed_46 ?_
    refine lv_iload hx hb dX2_addBreed_49 (lv_at hl 4 rfl) ?_
    refine xr_iast X hw 33 xl_A_Kennel_heightTo_at hB.1 dX2_addBreed_51 hB.2 (fun σ4 H locs hB hw => ?_)
    refine lv_aload_n hx hb dX2_addBreed_52 rfl (lv_at hl 0 rfl) ?_
    refine lv_dup hx hb dX2_addBreed_53 rfl ?_
    refine xr_geti X hw (xf_X2_45 X) 4 xl_A_Kennel_at rfl dX2_addBreed_54 ?_
    refine lv_iconst (v := (1 : Int32)) hx hb dX2_addBreed_57 (by decide) ?_
    refine lv_iadd hx hb dX2_addBreed_58 ?_
    refine xr_puti X hw (xp_X2_45 X) 4 xl_A_Kennel_at rfl dX2_addBreed_59 hB (fun σ5 H locs hB hw => ?_)
    refine lv_aload_n hx hb dX2_addBreed_62 rfl (lv_at hl 0 rfl) ?_
    refine xr_geti X hw (xf_X2_45 X) 4 xl_A_Kennel_at rfl dX2_addBreed_63 ?_
    refine lv_iconst (v := (1 : Int32)) hx hb dX2_addBreed_66 (by decide) ?_
    refine lv_isub hx hb dX2_addBreed_67 ?_
    exact xr_iret X hw hr hk hB dX2_addBreed_68
  · replace hB := hB.2 hc
    refine lv_iconst (v := (-1 : Int32)) hx hb dX2_addBreed_9 (by decide) ?_
    exact xr_iret X hw hr hk hB dX2_addBreed_10
theorem xf_X11_137 {p : Program} {s : State} {m : MethodId} {args : Array Value} {c : Code} {cc : ByteArray} {nL : Nat} {D : va_G} {cy : Nat → ClassId} {lay : List xw_E} {q : Nat → Nat} (X : xr_X p s m args c cc nL RX11 D cy lay q) : xr_F args s RX11 137 2 11 := ⟨RX2, TX2, 13, tyX2, rfl, by decide, fun w h => X.2.2.2.2.1 w (xt_inX2 w h), tyX2_ok, nmX2, Or.inr (va_Nw.use rfl (X.2.2.2.2.2.1.1 _ (List.mem_of_getElem? (i := 26) rfl)))⟩
theorem xm_X2_addBreed : xr_MW yX2_addBreed cX2_addBreed 5 (some .int) 4 := ⟨xt_3_99, xt_1_6, by decide, by decide, by decide +kernel⟩
set_option maxRecDepth 100000 in
set_option maxHeartbeats 4000000 in
theorem xc_X11_breed (l : Launch) (D : va_G) (cy : Nat → ClassId) (q : Nat → Nat) (σ : xw_M) (a1 : Int32) (a2 : Int32) (a3 : Int32) (a4 : Int32) {Z : Int32 → xw_M → Prop} (hU : xu_X11_breed σ a1 a2 a3 a4 Z) : xr_CI l yX11_breed cX11_breed 6 .int { frames := 1, cells := 0, slots := 0, locals := 24 } D cy xl_A q σ [.ref (q 0), .int a1, .int a2, .int a3, .int a4] Z := by
  refine xr_CI.of RX11 rfl (by decide) (Nat.le_of_ble_eq_true rfl) (fun p e s m below meth c X hw hr hk ls hl => ?_)
  have hx := X.1
  have hb := X.2.1
  have hl : lv_has ls 6 [(0, .ref (q 0)), (1, .int a1), (2, .int a2), (3, .int a3), (4, .int a4)] := hl
  have hB := hU (fun (σ : xw_M) (s0 : Int32) => ∀ (H : Heap) (locs : List Loc) (ls : Array Slot), xr_H D cy xl_A q s σ H locs → lv_has ls 6 [(0, .ref (q 0)), (1, .int a1), (2, .int a2), (3, .int a3), (4, .int a4)] → W p l e ({ frames := 1, cells := 0, slots := 0, locals := 24 } : Room) s m ([.ref (q 0), .int a1, .int a2, .int a3, .int a4] : List Value).toArray below meth c H locs 0 0 (MQ below (va_Qi Z (xr_po D cy xl_A q) (xw_A xl_A q s.heap.size)) ([.ref (q 0), .int a1, .int a2, .int a3, .int a4] : List Value).toArray s 0 0 (xw_A xl_A q s.heap.size)) (F0 m 45 ls [.int s0]))
    (by
    intro σ s0 hB H locs ls hw hl
    unfold xb_X11_breed_45 at hB
    refine lv_istore (lv' := [(5, .int s0), (0, .ref (q 0)), (1, .int a1), (2, .int a2), (3, .int a3), (4, .int a4)]) hx hb dX11_breed_45 hl (by decide) rfl (fun ls hl => ?_)
    refine lv_iload hx hb dX11_breed_47 (lv_at hl 0 rfl) ?_
    refine lv_if_eq (tgt := 64) hx hb dX11_breed_49 (by decide) (fun hc => ?_) (fun hc => ?_)
    · replace hB := hB.1 hc
      refine lv_iconst (v := (-1 : Int32)) hx hb dX11_breed_64 (by decide) ?_
      exact xr_iret X hw hr hk hB dX11_breed_65
    · replace hB := hB.2 hc
      refine lv_aload_n hx hb dX11_breed_52 rfl (lv_at hl 1 rfl) ?_
      refine xr_getr X hw (xf_X11_40 X) 0 xl_A_ShowRings_at rfl dX11_breed_53 ?_
      refine xr_geti X hw (xf_X11_137 X) 4 xl_A_Kennel_at rfl dX11_breed_56 ?_
      refine lv_bipush (v := (6 : Int32)) hx hb dX11_breed_59 (by decide) ?_
      refine lv_icmp_lt (tgt := 66) hx hb dX11_breed_61 (by decide) (fun hc => ?_) (fun hc => ?_)
      · replace hB := hB.1 hc
        refine lv_aload_n hx hb dX11_breed_66 rfl (lv_at hl 1 rfl) ?_
        refine xr_getr X hw (xf_X11_40 X) 0 xl_A_ShowRings_at rfl dX11_breed_67 ?_
        refine lv_iload_n hx hb dX11_breed_70 rfl (lv_at hl 2 rfl) ?_
        refine lv_iload_n hx hb dX11_breed_71 rfl (lv_at hl 3 rfl) ?_
        refine lv_iload_n hx hb dX11_breed_72 rfl (lv_at hl 4 rfl) ?_
        refine lv_iload hx hb dX11_breed_73 (lv_at hl 5 rfl) ?_
        refine xr_i hw (xr_runV (As := [.int a1, .int a2, .int a3, .int a4]) (rest := []) X hw 4 (xc_X2_addBreed l D cy q σ a1 a2 a3 a4 hB _) xm_X2_addBreed xt_3_96 xt_3_97 xt_3_98 ⟨Nat.le_of_ble_eq_true rfl, Nat.le_of_ble_eq_true rfl⟩ xl_A_Kennel_at rfl rfl rfl rfl hl.1 (Nat.le_of_ble_eq_true rfl) dX11_breed_75 ⟨Nat.zero_le _, Nat.zero_le _⟩) (fun r10 σ9 H locs hB hw => ?_)
        exact xr_iret X hw hr hk hB dX11_breed_78
      · replace hB := hB.2 hc
        refine lv_iconst (v := (-1 : Int32)) hx hb dX11_breed_64 (by decide) ?_
        exact xr_iret X hw hr hk hB dX11_breed_65)
  unfold xb_X11_breed_e at hB
  refine lv_iload_n hx hb dX11_breed_0 rfl (lv_at hl 1 rfl) ?_
  refine lv_iconst (v := (0 : Int32)) hx hb dX11_breed_1 (by decide) ?_
  refine lv_iconst (v := (2 : Int32)) hx hb dX11_breed_2 (by decide) ?_
  refine xr_i hw (xr_runS (As := [.int a1, .int (0 : Int32), .int (2 : Int32)]) (rest := []) X hw (xc_X11_isWithin l D cy q σ a1 (0 : Int32) (2 : Int32) hB _) xm_X11_isWithin xt_3_80 xt_3_81 ⟨Nat.le_of_ble_eq_true rfl, Nat.le_of_ble_eq_true rfl⟩ rfl rfl hl.1 (Nat.le_of_ble_eq_true rfl) dX11_breed_3 ⟨Nat.zero_le _, Nat.zero_le _⟩) (fun r2 σ1 H locs hB hw => ?_)
  refine lv_if_eq (tgt := 44) hx hb dX11_breed_6 (by decide) (fun hc => ?_) (fun hc => ?_)
  · replace hB := hB.1 hc
    refine lv_iconst (v := (0 : Int32)) hx hb dX11_breed_44 (by decide) ?_
    exact hB _ _ _ hw (lv_sub hl [0, 1, 2, 3, 4] rfl)
  · replace hB := hB.2 hc
    refine lv_iload_n hx hb dX11_breed_9 rfl (lv_at hl 2 rfl) ?_
    refine lv_iconst (v := (1 : Int32)) hx hb dX11_breed_10 (by decide) ?_
    refine lv_bipush (v := (9 : Int32)) hx hb dX11_breed_11 (by decide) ?_
    refine xr_i hw (xr_runS (As := [.int a2, .int (1 : Int32), .int (9 : Int32)]) (rest := []) X hw (xc_X11_isWithin l D cy q σ1 a2 (1 : Int32) (9 : Int32) hB _) xm_X11_isWithin xt_3_80 xt_3_81 ⟨Nat.le_of_ble_eq_true rfl, Nat.le_of_ble_eq_true rfl⟩ rfl rfl hl.1 (Nat.le_of_ble_eq_true rfl) dX11_breed_13 ⟨Nat.zero_le _, Nat.zero_le _⟩) (fun r4 σ3 H locs hB hw => ?_)
    refine lv_if_eq (tgt := 44) hx hb dX11_breed_16 (by decide) (fun hc => ?_) (fun hc => ?_)
    · replace hB := hB.1 hc
      refine lv_iconst (v := (0 : Int32)) hx hb dX11_breed_44 (by decide) ?_
      exact hB _ _ _ hw (lv_sub hl [0, 1, 2, 3, 4] rfl)
    · replace hB := hB.2 hc
      refine lv_iload_n hx hb dX11_breed_19 rfl (lv_at hl 3 rfl) ?_
      refine lv_iconst (v := (0 : Int32)) hx hb dX11_breed_20 (by decide) ?_
      refine lv_bipush (v := (99 : Int32)) hx hb dX11_breed_21 (by decide) ?_
      refine xr_i hw (xr_runS (As := [.int a3, .int (0 : Int32), .int (99 : Int32)]) (rest := []) X hw (xc_X11_isWithin l D cy q σ3 a3 (0 : Int32) (99 : Int32) hB _) xm_X11_isWithin xt_3_80 xt_3_81 ⟨Nat.le_of_ble_eq_true rfl, Nat.le_of_ble_eq_true rfl⟩ rfl rfl hl.1 (Nat.le_of_ble_eq_true rfl) dX11_breed_23 ⟨Nat.zero_le _, Nat.zero_le _⟩) (fun r6 σ5 H locs hB hw => ?_)
      refine lv_if_eq (tgt := 44) hx hb dX11_breed_26 (by decide) (fun hc => ?_) (fun hc => ?_)
      · replace hB := hB.1 hc
        refine lv_iconst (v := (0 : Int32)) hx hb dX11_breed_44 (by decide) ?_
        exact hB _ _ _ hw (lv_sub hl [0, 1, 2, 3, 4] rfl)
      · replace hB := hB.2 hc
        refine lv_iload hx hb dX11_breed_29 (lv_at hl 4 rfl) ?_
        refine lv_iload_n hx hb dX11_breed_31 rfl (lv_at hl 3 rfl) ?_
        refine lv_bipush (v := (99 : Int32)) hx hb dX11_breed_32 (by decide) ?_
        refine xr_i hw (xr_runS (As := [.int a4, .int a3, .int (99 : Int32)]) (rest := []) X hw (xc_X11_isWithin l D cy q σ5 a4 a3 (99 : Int32) hB _) xm_X11_isWithin xt_3_80 xt_3_81 ⟨Nat.le_of_ble_eq_true rfl, Nat.le_of_ble_eq_true rfl⟩ rfl rfl hl.1 (Nat.le_of_ble_eq_true rfl) dX11_breed_34 ⟨Nat.zero_le _, Nat.zero_le _⟩) (fun r8 σ7 H locs hB hw => ?_)
        refine lv_if_eq (tgt := 44) hx hb dX11_breed_37 (by decide) (fun hc => ?_) (fun hc => ?_)
        · replace hB := hB.1 hc
          refine lv_iconst (v := (0 : Int32)) hx hb dX11_breed_44 (by decide) ?_
          exact hB _ _ _ hw (lv_sub hl [0, 1, 2, 3, 4] rfl)
        · replace hB := hB.2 hc
          refine lv_iconst (v := (1 : Int32)) hx hb dX11_breed_40 (by decide) ?_
          refine lv_goto (tgt := 45) hx hb dX11_breed_41 (by decide) ?_
          exact hB _ _ _ hw (lv_sub hl [0, 1, 2, 3, 4] rfl)
set_option maxRecDepth 100000 in
set_option maxHeartbeats 4000000 in
theorem xc_X11_isBreed (l : Launch) (D : va_G) (cy : Nat → ClassId) (q : Nat → Nat) (σ : xw_M) (a1 : Int32) {Z : Int32 → xw_M → Prop} (hU : xu_X11_isBreed σ a1 Z) : xr_CI l yX11_isBreed cX11_isBreed 2 .boolean { frames := 1, cells := 0, slots := 0, locals := 22 } D cy xl_A q σ [.ref (q 0), .int a1] Z := by
  refine xr_CI.of RX11 rfl (by decide) (Nat.le_of_ble_eq_true rfl) (fun p e s m below meth c X hw hr hk ls hl => ?_)
  have hx := X.1
  have hb := X.2.1
  have hl : lv_has ls 2 [(0, .ref (q 0)), (1, .int a1)] := hl
  unfold xu_X11_isBreed at hU
  have hB := hU
  refine lv_iload_n hx hb dX11_isBreed_0 rfl (lv_at hl 1 rfl) ?_
  refine lv_iconst (v := (0 : Int32)) hx hb dX11_isBreed_1 (by decide) ?_
  refine lv_aload_n hx hb dX11_isBreed_2 rfl (lv_at hl 0 rfl) ?_
  refine xr_getr X hw (xf_X11_40 X) 0 xl_A_ShowRings_at rfl dX11_isBreed_3 ?_
  refine xr_geti X hw (xf_X11_137 X) 4 xl_A_Kennel_at rfl dX11_isBreed_6 ?_
  refine lv_iconst (v := (1 : Int32)) hx hb dX11_isBreed_9 (by decide) ?_
  refine lv_isub hx hb dX11_isBreed_10 ?_
  refine xr_i hw (xr_runS (As := [.int a1, .int (0 : Int32), .int ((σ.1 4 11) - (1 : Int32))]) (rest := []) X hw (xc_X11_isWithin l D cy q σ a1 (0 : Int32) ((σ.1 4 11) - (1 : Int32)) hB _) xm_X11_isWithin xt_3_80 xt_3_81 ⟨Nat.le_of_ble_eq_true rfl, Nat.le_of_ble_eq_true rfl⟩ rfl rfl hl.1 (Nat.le_of_ble_eq_true rfl) dX11_isBreed_11 ⟨Nat.zero_le _, Nat.zero_le _⟩) (fun r2 σ1 H locs hB hw => ?_)
  exact xr_zret X hw hr hk hB dX11_isBreed_14
set_option maxRecDepth 100000 in
set_option maxHeartbeats 4000000 in
theorem xc_X11_isDay (l : Launch) (D : va_G) (cy : Nat → ClassId) (q : Nat → Nat) (σ : xw_M) (a0 : Int32) {Z : Int32 → xw_M → Prop} (hU : xu_X11_isDay σ a0 Z) : xr_CI l yX11_isDay cX11_isDay 1 .boolean { frames := 1, cells := 0, slots := 0, locals := 22 } D cy xl_A q σ [.int a0] Z := by
  refine xr_CI.of RX11 rfl (by decide) (Nat.le_of_ble_eq_true rfl) (fun p e s m below meth c X hw hr hk ls hl => ?_)
  have hx := X.1
  have hb := X.2.1
  have hl : lv_has ls 1 [(0, .int a0)] := hl
  unfold xu_X11_isDay at hU
  have hB := hU
  refine lv_iload_n hx hb dX11_isDay_0 rfl (lv_at hl 0 rfl) ?_
  refine lv_iconst (v := (0 : Int32)) hx hb dX11_isDay_1 (by decide) ?_
  refine lv_sipush (v := (9999 : Int32)) hx hb dX11_isDay_2 (by decide) ?_
  refine xr_i hw (xr_runS (As := [.int a0, .int (0 : Int32), .int (9999 : Int32)]) (rest := []) X hw (xc_X11_isWithin l D cy q σ a0 (0 : Int32) (9999 : Int32) hB _) xm_X11_isWithin xt_3_80 xt_3_81 ⟨Nat.le_of_ble_eq_true rfl, Nat.le_of_ble_eq_true rfl⟩ rfl rfl hl.1 (Nat.le_of_ble_eq_true rfl) dX11_isDay_5 ⟨Nat.zero_le _, Nat.zero_le _⟩) (fun r2 σ1 H locs hB hw => ?_)
  exact xr_zret X hw hr hk hB dX11_isDay_8
theorem xf_X2_49 {p : Program} {s : State} {m : MethodId} {args : Array Value} {c : Code} {cc : ByteArray} {nL : Nat} {D : va_G} {cy : Nat → ClassId} {lay : List xw_E} {q : Nat → Nat} (X : xr_X p s m args c cc nL RX2 D cy lay q) : xr_F args s RX2 49 2 12 := ⟨RX2, TX2, 13, tyX2, rfl, by decide, fun w h => X.2.2.2.2.1 w (xt_inX2 w h), tyX2_ok, nmX2, Or.inl (X.2.2.2.2.1 _ xt_1_173)⟩
theorem xf_X2_30 {p : Program} {s : State} {m : MethodId} {args : Array Value} {c : Code} {cc : ByteArray} {nL : Nat} {D : va_G} {cy : Nat → ClassId} {lay : List xw_E} {q : Nat → Nat} (X : xr_X p s m args c cc nL RX2 D cy lay q) : xr_F args s RX2 30 2 6 := ⟨RX2, TX2, 13, tyX2, rfl, by decide, fun w h => X.2.2.2.2.1 w (xt_inX2 w h), tyX2_ok, nmX2, Or.inl (X.2.2.2.2.1 _ xt_1_159)⟩
theorem xf_X2_33 {p : Program} {s : State} {m : MethodId} {args : Array Value} {c : Code} {cc : ByteArray} {nL : Nat} {D : va_G} {cy : Nat → ClassId} {lay : List xw_E} {q : Nat → Nat} (X : xr_X p s m args c cc nL RX2 D cy lay q) : xr_F args s RX2 33 2 7 := ⟨RX2, TX2, 13, tyX2, rfl, by decide, fun w h => X.2.2.2.2.1 w (xt_inX2 w h), tyX2_ok, nmX2, Or.inl (X.2.2.2.2.1 _ xt_1_163)⟩
theorem xf_X2_36 {p : Program} {s : State} {m : MethodId} {args : Array Value} {c : Code} {cc : ByteArray} {nL : Nat} {D : va_G} {cy : Nat → ClassId} {lay : List xw_E} {q : Nat → Nat} (X : xr_X p s m args c cc nL RX2 D cy lay q) : xr_F args s RX2 36 2 8 := ⟨RX2, TX2, 13, tyX2, rfl, by decide, fun w h => X.2.2.2.2.1 w (xt_inX2 w h), tyX2_ok, nmX2, Or.inl (X.2.2.2.2.1 _ xt_1_165)⟩
theorem xf_X2_39 {p : Program} {s : State} {m : MethodId} {args : Array Value} {c : Code} {cc : ByteArray} {nL : Nat} {D : va_G} {cy : Nat → ClassId} {lay : List xw_E} {q : Nat → Nat} (X : xr_X p s m args c cc nL RX2 D cy lay q) : xr_F args s RX2 39 2 9 := ⟨RX2, TX2, 13, tyX2, rfl, by decide, fun w h => X.2.2.2.2.1 w (xt_inX2 w h), tyX2_ok, nmX2, Or.inl (X.2.2.2.2.1 _ xt_1_167)⟩
theorem xf_X2_42 {p : Program} {s : State} {m : MethodId} {args : Array Value} {c : Code} {cc : ByteArray} {nL : Nat} {D : va_G} {cy : Nat → ClassId} {lay : List xw_E} {q : Nat → Nat} (X : xr_X p s m args c cc nL RX2 D cy lay q) : xr_F args s RX2 42 2 10 := ⟨RX2, TX2, 13, tyX2, rfl, by decide, fun w h => X.2.2.2.2.1 w (xt_inX2 w h), tyX2_ok, nmX2, Or.inl (X.2.2.2.2.1 _ xt_1_169)⟩
theorem xp_X2_49 {p : Program} {s : State} {m : MethodId} {args : Array Value} {c : Code} {cc : ByteArray} {nL : Nat} {D : va_G} {cy : Nat → ClassId} {lay : List xw_E} {q : Nat → Nat} (X : xr_X p s m args c cc nL RX2 D cy lay q) : xr_P args s RX2 49 2 12 := ⟨RX2, TX2, 13, tyX2, rfl, by decide, fun w h => X.2.2.2.2.1 w (xt_inX2 w h), tyX2_ok, nmX2, Or.inl (X.2.2.2.2.1 _ xt_1_173), rfl, by decide +kernel⟩
set_option maxRecDepth 100000 in
set_option maxHeartbeats 4000000 in
theorem xc_X2_addDog (l : Launch) (D : va_G) (cy : Nat → ClassId) (q : Nat → Nat) (σ : xw_M) (a1 : Int32) (a2 : Int32) (a3 : Int32) (a4 : Int32) (a5 : Int32) {Z : Int32 → xw_M → Prop} (hU : xu_X2_addDog σ a1 a2 a3 a4 a5 Z) : xr_CI l yX2_addDog cX2_addDog 6 .int { frames := 0, cells := 0, slots := 0, locals := 0 } D cy xl_A q σ [.ref (q 4), .int a1, .int a2, .int a3, .int a4, .int a5] Z := by
  refine xr_CI.of RX2 rfl (by decide) (Nat.le_of_ble_eq_true rfl) (fun p e s m below meth c X hw hr hk ls hl => ?_)
  have hx := X.1
  have hb := X.2.1
  have hl : lv_has ls 6 [(0, .ref (q 4)), (1, .int a1), (2, .int a2), (3, .int a3), (4, .int a4), (5, .int a5)] := hl
  unfold xu_X2_addDog at hU
  have hB := hU
  refine lv_aload_n hx hb dX2_addDog_0 rfl (lv_at hl 0 rfl) ?_
  refine xr_geti X hw (xf_X2_49 X) 4 xl_A_Kennel_at rfl dX2_addDog_1 ?_
  refine lv_bipush (v := (20 : Int32)) hx hb dX2_addDog_4 (by decide) ?_
  refine lv_icmp_lt (tgt := 11) hx hb dX2_addDog_6 (by decide) (fun hc => ?_) (fun hc => ?_)
  · replace hB := hB.1 hc
    refine lv_aload_n hx hb dX2_addDog_11 rfl (lv_at hl 0 rfl) ?_
    refine xr_getr X hw (xf_X2_30 X) 4 xl_A_Kennel_at rfl dX2_addDog_12 ?_
    refine lv_aload_n hx hb dX2_addDog_15 rfl (lv_at hl 0 rfl) ?_
    refine xr_geti X hw (xf_X2_49 X) 4 xl_A_Kennel_at rfl dX2_addDog_16 ?_
    refine lv_iload_n hx hb dX2_addDog_19 rfl (lv_at hl 1 rfl) ?_
    refine xr_iast X hw 34 xl_A_Kennel_breed_at hB.1 dX2_addDog_20 hB.2 (fun σ1 H locs hB hw => ?_)
    refine lv_aload_n hx hb dX2_addDog_21 rfl (lv_at hl 0 rfl) ?_
    refine xr_getr X hw (xf_X2_33 X) 4 xl_A_Kennel_at rfl dX2_addDog_22 ?_
    refine lv_aload_n hx hb dX2_addDog_25 rfl (lv_at hl 0 rfl) ?_
    refine xr_geti X hw (xf_X2_49 X) 4 xl_A_Kennel_at rfl dX2_addDog_26 ?_
    refine lv_iload_n hx hb dX2_addDog_29 rfl (lv_at hl 2 rfl) ?_
    refine xr_iast X hw 35 xl_A_Kennel_birth_at hB.1 dX2_addDog_30 hB.2 (fun σ2 H locs hB hw => ?_)
    refine lv_aload_n hx hb dX2_addDog_31 rfl (lv_at hl 0 rfl) ?_
    refine xr_getr X hw (xf_X2_36 X) 4 xl_A_Kennel_at rfl dX2_addDog_32 ?_
    refine lv_aload_n hx hb dX2_addDog_35 rfl (lv_at hl 0 rfl) ?_
    refine xr_geti X hw (xf_X2_49 X) 4 xl_A_Kennel_at rfl dX2_addDog_36 ?_
    refine lv_iload_n hx hb dX2_addDog_39 rfl (lv_at hl 3 rfl) ?_
    refine xr_iast X hw 36 xl_A_Kennel_sex_at hB.1 dX2_addDog_40 hB.2 (fun σ3 H locs hB hw => ?_)
    refine lv_aload_n hx hb dX2_addDog_41 rfl (lv_at hl 0 rfl) ?_
    refine xr_getr X hw (xf_X2_39 X) 4 xl_A_Kennel_at rfl dX2_addDog_42 ?_
    refine lv_aload_n hx hb dX2_addDog_45 rfl (lv_at hl 0 rfl) ?_
    refine xr_geti X hw (xf_X2_49 X) 4 xl_A_Kennel_at rfl dX2_addDog_46 ?_
    refine lv_iload hx hb dX2_addDog_49 (lv_at hl 4 rfl) ?_
    refine xr_iast X hw 37 xl_A_Kennel_firstOwner_at hB.1 dX2_addDog_51 hB.2 (fun σ4 H locs hB hw => ?_)
    refine lv_aload_n hx hb dX2_addDog_52 rfl (lv_at hl 0 rfl) ?_
    refine xr_getr X hw (xf_X2_42 X) 4 xl_A_Kennel_at rfl dX2_addDog_53 ?_
    refine lv_aload_n hx hb dX2_addDog_56 rfl (lv_at hl 0 rfl) ?_
    refine xr_geti X hw (xf_X2_49 X) 4 xl_A_Kennel_at rfl dX2_addDog_57 ?_
    refine lv_iload hx hb dX2_addDog_60 (lv_at hl 5 rfl) ?_
    refine xr_iast X hw 38 xl_A_Kennel_handler_at hB.1 dX2_addDog_62 hB.2 (fun σ5 H locs hB hw => ?_)
    refine lv_aload_n hx hb dX2_addDog_63 rfl (lv_at hl 0 rfl) ?_
    refine lv_dup hx hb dX2_addDog_64 rfl ?_
    refine xr_geti X hw (xf_X2_49 X) 4 xl_A_Kennel_at rfl dX2_addDog_65 ?_
    refine lv_iconst (v := (1 : Int32)) hx hb dX2_addDog_68 (by decide) ?_
    refine lv_iadd hx hb dX2_addDog_69 ?_
    refine xr_puti X hw (xp_X2_49 X) 4 xl_A_Kennel_at rfl dX2_addDog_70 hB (fun σ6 H locs hB hw => ?_)
    refine lv_aload_n hx hb dX2_addDog_73 rfl (lv_at hl 0 rfl) ?_
    refine xr_geti X hw (xf_X2_49 X) 4 xl_A_Kennel_at rfl dX2_addDog_74 ?_
    refine lv_iconst (v := (1 : Int32)) hx hb dX2_addDog_77 (by decide) ?_
    refine lv_isub hx hb dX2_addDog_78 ?_
    exact xr_iret X hw hr hk hB dX2_addDog_79
  · replace hB := hB.2 hc
    refine lv_iconst (v := (-1 : Int32)) hx hb dX2_addDog_9 (by decide) ?_
    exact xr_iret X hw hr hk hB dX2_addDog_10
theorem xm_X11_isBreed : xr_MW yX11_isBreed cX11_isBreed 2 (some .boolean) 1 := ⟨xt_3_107, xt_1_1, by decide, by decide, by decide +kernel⟩
theorem xm_X11_isDay : xr_MW yX11_isDay cX11_isDay 1 (some .boolean) 1 := ⟨xt_3_110, xt_1_1, by decide, by decide, by decide +kernel⟩
theorem xf_X11_150 {p : Program} {s : State} {m : MethodId} {args : Array Value} {c : Code} {cc : ByteArray} {nL : Nat} {D : va_G} {cy : Nat → ClassId} {lay : List xw_E} {q : Nat → Nat} (X : xr_X p s m args c cc nL RX11 D cy lay q) : xr_F args s RX11 150 2 12 := ⟨RX2, TX2, 13, tyX2, rfl, by decide, fun w h => X.2.2.2.2.1 w (xt_inX2 w h), tyX2_ok, nmX2, Or.inr (va_Nw.use rfl (X.2.2.2.2.2.1.1 _ (List.mem_of_getElem? (i := 31) rfl)))⟩
theorem xm_X2_addDog : xr_MW yX2_addDog cX2_addDog 6 (some .int) 5 := ⟨xt_3_114, xt_1_6, by decide, by decide, by decide +kernel⟩
set_option maxRecDepth 100000 in
set_option maxHeartbeats 4000000 in
theorem xc_X11_dog (l : Launch) (D : va_G) (cy : Nat → ClassId) (q : Nat → Nat) (σ : xw_M) (a1 : Int32) (a2 : Int32) (a3 : Int32) (a4 : Int32) (a5 : Int32) {Z : Int32 → xw_M → Prop} (hU : xu_X11_dog σ a1 a2 a3 a4 a5 Z) : xr_CI l yX11_dog cX11_dog 7 .int { frames := 2, cells := 0, slots := 0, locals := 43 } D cy xl_A q σ [.ref (q 0), .int a1, .int a2, .int a3, .int a4, .int a5] Z := by
  refine xr_CI.of RX11 rfl (by decide) (Nat.le_of_ble_eq_true rfl) (fun p e s m below meth c X hw hr hk ls hl => ?_)
  have hx := X.1
  have hb := X.2.1
  have hl : lv_has ls 7 [(0, .ref (q 0)), (1, .int a1), (2, .int a2), (3, .int a3), (4, .int a4), (5, .int a5)] := hl
  have hB := hU (fun (σ : xw_M) (s0 : Int32) => ∀ (H : Heap) (locs : List Loc) (ls : Array Slot), xr_H D cy xl_A q s σ H locs → lv_has ls 7 [(0, .ref (q 0)), (1, .int a1), (2, .int a2), (3, .int a3), (4, .int a4), (5, .int a5)] → W p l e ({ frames := 2, cells := 0, slots := 0, locals := 43 } : Room) s m ([.ref (q 0), .int a1, .int a2, .int a3, .int a4, .int a5] : List Value).toArray below meth c H locs 0 0 (MQ below (va_Qi Z (xr_po D cy xl_A q) (xw_A xl_A q s.heap.size)) ([.ref (q 0), .int a1, .int a2, .int a3, .int a4, .int a5] : List Value).toArray s 0 0 (xw_A xl_A q s.heap.size)) (F0 m 45 ls [.int s0]))
    (by
    intro σ s0 hB H locs ls hw hl
    unfold xb_X11_dog_45 at hB
    refine lv_istore (lv' := [(6, .int s0), (0, .ref (q 0)), (1, .int a1), (2, .int a2), (3, .int a3), (4, .int a4), (5, .int a5)]) hx hb dX11_dog_45 hl (by decide) rfl (fun ls hl => ?_)
    refine lv_iload hx hb dX11_dog_47 (lv_at hl 0 rfl) ?_
    refine lv_if_eq (tgt := 64) hx hb dX11_dog_49 (by decide) (fun hc => ?_) (fun hc => ?_)
    · replace hB := hB.1 hc
      refine lv_iconst (v := (-1 : Int32)) hx hb dX11_dog_64 (by decide) ?_
      exact xr_iret X hw hr hk hB dX11_dog_65
    · replace hB := hB.2 hc
      refine lv_aload_n hx hb dX11_dog_52 rfl (lv_at hl 1 rfl) ?_
      refine xr_getr X hw (xf_X11_40 X) 0 xl_A_ShowRings_at rfl dX11_dog_53 ?_
      refine xr_geti X hw (xf_X11_150 X) 4 xl_A_Kennel_at rfl dX11_dog_56 ?_
      refine lv_bipush (v := (20 : Int32)) hx hb dX11_dog_59 (by decide) ?_
      refine lv_icmp_lt (tgt := 66) hx hb dX11_dog_61 (by decide) (fun hc => ?_) (fun hc => ?_)
      · replace hB := hB.1 hc
        refine lv_aload_n hx hb dX11_dog_66 rfl (lv_at hl 1 rfl) ?_
        refine xr_getr X hw (xf_X11_40 X) 0 xl_A_ShowRings_at rfl dX11_dog_67 ?_
        refine lv_iload_n hx hb dX11_dog_70 rfl (lv_at hl 2 rfl) ?_
        refine lv_iload_n hx hb dX11_dog_71 rfl (lv_at hl 3 rfl) ?_
        refine lv_iload_n hx hb dX11_dog_72 rfl (lv_at hl 4 rfl) ?_
        refine lv_iload hx hb dX11_dog_73 (lv_at hl 5 rfl) ?_
        refine lv_iload hx hb dX11_dog_75 (lv_at hl 6 rfl) ?_
        refine xr_i hw (xr_runV (As := [.int a1, .int a2, .int a3, .int a4, .int a5]) (rest := []) X hw 4 (xc_X2_addDog l D cy q σ a1 a2 a3 a4 a5 hB _) xm_X2_addDog xt_3_111 xt_3_112 xt_3_113 ⟨Nat.le_of_ble_eq_true rfl, Nat.le_of_ble_eq_true rfl⟩ xl_A_Kennel_at rfl rfl rfl rfl hl.1 (Nat.le_of_ble_eq_true rfl) dX11_dog_77 ⟨Nat.zero_le _, Nat.zero_le _⟩) (fun r12 σ11 H locs hB hw => ?_)
        exact xr_iret X hw hr hk hB dX11_dog_80
      · replace hB := hB.2 hc
        refine lv_iconst (v := (-1 : Int32)) hx hb dX11_dog_64 (by decide) ?_
        exact xr_iret X hw hr hk hB dX11_dog_65)
  unfold xb_X11_dog_e at hB
  refine lv_aload_n hx hb dX11_dog_0 rfl (lv_at hl 0 rfl) ?_
  refine lv_iload_n hx hb dX11_dog_1 rfl (lv_at hl 1 rfl) ?_
  refine xr_i hw (xr_runV (As := [.int a1]) (rest := []) X hw 0 (xc_X11_isBreed l D cy q σ a1 hB _) xm_X11_isBreed xt_3_104 xt_3_106 xt_p_13 ⟨Nat.le_of_ble_eq_true rfl, Nat.le_of_ble_eq_true rfl⟩ xl_A_ShowRings_at rfl rfl rfl rfl hl.1 (Nat.le_of_ble_eq_true rfl) dX11_dog_2 ⟨Nat.zero_le _, Nat.zero_le _⟩) (fun r2 σ1 H locs hB hw => ?_)
  refine lv_if_eq (tgt := 44) hx hb dX11_dog_5 (by decide) (fun hc => ?_) (fun hc => ?_)
  · replace hB := hB.1 hc
    refine lv_iconst (v := (0 : Int32)) hx hb dX11_dog_44 (by decide) ?_
    exact hB _ _ _ hw (lv_sub hl [0, 1, 2, 3, 4, 5] rfl)
  · replace hB := hB.2 hc
    refine lv_iload_n hx hb dX11_dog_8 rfl (lv_at hl 2 rfl) ?_
    refine xr_i hw (xr_runS (As := [.int a2]) (rest := []) X hw (xc_X11_isDay l D cy q σ1 a2 hB _) xm_X11_isDay xt_3_108 xt_3_109 ⟨Nat.le_of_ble_eq_true rfl, Nat.le_of_ble_eq_true rfl⟩ rfl rfl hl.1 (Nat.le_of_ble_eq_true rfl) dX11_dog_9 ⟨Nat.zero_le _, Nat.zero_le _⟩) (fun r4 σ3 H locs hB hw => ?_)
    refine lv_if_eq (tgt := 44) hx hb dX11_dog_12 (by decide) (fun hc => ?_) (fun hc => ?_)
    · replace hB := hB.1 hc
      refine lv_iconst (v := (0 : Int32)) hx hb dX11_dog_44 (by decide) ?_
      exact hB _ _ _ hw (lv_sub hl [0, 1, 2, 3, 4, 5] rfl)
    · replace hB := hB.2 hc
      refine lv_iload_n hx hb dX11_dog_15 rfl (lv_at hl 3 rfl) ?_
      refine lv_iconst (v := (0 : Int32)) hx hb dX11_dog_16 (by decide) ?_
      refine lv_iconst (v := (1 : Int32)) hx hb dX11_dog_17 (by decide) ?_
      refine xr_i hw (xr_runS (As := [.int a3, .int (0 : Int32), .int (1 : Int32)]) (rest := []) X hw (xc_X11_isWithin l D cy q σ3 a3 (0 : Int32) (1 : Int32) hB _) xm_X11_isWithin xt_3_80 xt_3_81 ⟨Nat.le_of_ble_eq_true rfl, Nat.le_of_ble_eq_true rfl⟩ rfl rfl hl.1 (Nat.le_of_ble_eq_true rfl) dX11_dog_18 ⟨Nat.zero_le _, Nat.zero_le _⟩) (fun r6 σ5 H locs hB hw => ?_)
      refine lv_if_eq (tgt := 44) hx hb dX11_dog_21 (by decide) (fun hc => ?_) (fun hc => ?_)
      · replace hB := hB.1 hc
        refine lv_iconst (v := (0 : Int32)) hx hb dX11_dog_44 (by decide) ?_
        exact hB _ _ _ hw (lv_sub hl [0, 1, 2, 3, 4, 5] rfl)
      · replace hB := hB.2 hc
        refine lv_iload hx hb dX11_dog_24 (lv_at hl 4 rfl) ?_
        refine xr_i hw (xr_runS (As := [.int a4]) (rest := []) X hw (xc_X11_isPerson l D cy q σ5 a4 hB _) xm_X11_isPerson xt_3_77 xt_3_78 ⟨Nat.le_of_ble_eq_true rfl, Nat.le_of_ble_eq_true rfl⟩ rfl rfl hl.1 (Nat.le_of_ble_eq_true rfl) dX11_dog_26 ⟨Nat.zero_le _, Nat.zero_le _⟩) (fun r8 σ7 H locs hB hw => ?_)
        refine lv_if_eq (tgt := 44) hx hb dX11_dog_29 (by decide) (fun hc => ?_) (fun hc => ?_)
        · replace hB := hB.1 hc
          refine lv_iconst (v := (0 : Int32)) hx hb dX11_dog_44 (by decide) ?_
          exact hB _ _ _ hw (lv_sub hl [0, 1, 2, 3, 4, 5] rfl)
        · replace hB := hB.2 hc
          refine lv_iload hx hb dX11_dog_32 (lv_at hl 5 rfl) ?_
          refine xr_i hw (xr_runS (As := [.int a5]) (rest := []) X hw (xc_X11_isPerson l D cy q σ7 a5 hB _) xm_X11_isPerson xt_3_77 xt_3_78 ⟨Nat.le_of_ble_eq_true rfl, Nat.le_of_ble_eq_true rfl⟩ rfl rfl hl.1 (Nat.le_of_ble_eq_true rfl) dX11_dog_34 ⟨Nat.zero_le _, Nat.zero_le _⟩) (fun r10 σ9 H locs hB hw => ?_)
          refine lv_if_eq (tgt := 44) hx hb dX11_dog_37 (by decide) (fun hc => ?_) (fun hc => ?_)
          · replace hB := hB.1 hc
            refine lv_iconst (v := (0 : Int32)) hx hb dX11_dog_44 (by decide) ?_
            exact hB _ _ _ hw (lv_sub hl [0, 1, 2, 3, 4, 5] rfl)
          · replace hB := hB.2 hc
            refine lv_iconst (v := (1 : Int32)) hx hb dX11_dog_40 (by decide) ?_
            refine lv_goto (tgt := 45) hx hb dX11_dog_41 (by decide) ?_
            exact hB _ _ _ hw (lv_sub hl [0, 1, 2, 3, 4, 5] rfl)
theorem xf_X11_157 {p : Program} {s : State} {m : MethodId} {args : Array Value} {c : Code} {cc : ByteArray} {nL : Nat} {D : va_G} {cy : Nat → ClassId} {lay : List xw_E} {q : Nat → Nat} (X : xr_X p s m args c cc nL RX11 D cy lay q) : xr_F args s RX11 157 2 1 := ⟨RX2, TX2, 13, tyX2, rfl, by decide, fun w h => X.2.2.2.2.1 w (xt_inX2 w h), tyX2_ok, nmX2, Or.inr (va_Nw.use rfl (X.2.2.2.2.2.1.1 _ (List.mem_of_getElem? (i := 16) rfl)))⟩
set_option maxRecDepth 100000 in
set_option maxHeartbeats 4000000 in
theorem xc_X11_permits (l : Launch) (D : va_G) (cy : Nat → ClassId) (q : Nat → Nat) (σ : xw_M) (a1 : Int32) (a2 : Int32) {Z : Int32 → xw_M → Prop} (hU : xu_X11_permits σ a1 a2 Z) : xr_CI l yX11_permits cX11_permits 3 .boolean { frames := 2, cells := 0, slots := 0, locals := 42 } D cy xl_A q σ [.ref (q 0), .int a1, .int a2] Z := by
  refine xr_CI.of RX11 rfl (by decide) (Nat.le_of_ble_eq_true rfl) (fun p e s m below meth c X hw hr hk ls hl => ?_)
  have hx := X.1
  have hb := X.2.1
  have hl : lv_has ls 3 [(0, .ref (q 0)), (1, .int a1), (2, .int a2)] := hl
  unfold xu_X11_permits at hU
  have hB := hU
  refine lv_iload_n hx hb dX11_permits_0 rfl (lv_at hl 1 rfl) ?_
  refine xr_i hw (xr_runS (As := [.int a1]) (rest := []) X hw (xc_X11_isPerson l D cy q σ a1 hB _) xm_X11_isPerson xt_3_77 xt_3_78 ⟨Nat.le_of_ble_eq_true rfl, Nat.le_of_ble_eq_true rfl⟩ rfl rfl hl.1 (Nat.le_of_ble_eq_true rfl) dX11_permits_1 ⟨Nat.zero_le _, Nat.zero_le _⟩) (fun r2 σ1 H locs hB hw => ?_)
  refine lv_if_eq (tgt := 17) hx hb dX11_permits_4 (by decide) (fun hc => ?_) (fun hc => ?_)
  · replace hB := hB.1 hc
    refine lv_iconst (v := (0 : Int32)) hx hb dX11_permits_17 (by decide) ?_
    exact xr_zret X hw hr hk hB dX11_permits_18
  · replace hB := hB.2 hc
    refine lv_iload_n hx hb dX11_permits_7 rfl (lv_at hl 2 rfl) ?_
    refine lv_iconst (v := (0 : Int32)) hx hb dX11_permits_8 (by decide) ?_
    refine lv_bipush (v := (63 : Int32)) hx hb dX11_permits_9 (by decide) ?_
    refine xr_i hw (xr_runS (As := [.int a2, .int (0 : Int32), .int (63 : Int32)]) (rest := []) X hw (xc_X11_isWithin l D cy q σ1 a2 (0 : Int32) (63 : Int32) hB _) xm_X11_isWithin xt_3_80 xt_3_81 ⟨Nat.le_of_ble_eq_true rfl, Nat.le_of_ble_eq_true rfl⟩ rfl rfl hl.1 (Nat.le_of_ble_eq_true rfl) dX11_permits_11 ⟨Nat.zero_le _, Nat.zero_le _⟩) (fun r4 σ3 H locs hB hw => ?_)
    refine lv_if_ne (tgt := 19) hx hb dX11_permits_14 (by decide) (fun hc => ?_) (fun hc => ?_)
    · replace hB := hB.1 hc
      refine lv_aload_n hx hb dX11_permits_19 rfl (lv_at hl 0 rfl) ?_
      refine xr_getr X hw (xf_X11_40 X) 0 xl_A_ShowRings_at rfl dX11_permits_20 ?_
      refine xr_getr X hw (xf_X11_157 X) 4 xl_A_Kennel_at rfl dX11_permits_23 ?_
      refine lv_iload_n hx hb dX11_permits_26 rfl (lv_at hl 1 rfl) ?_
      refine lv_iload_n hx hb dX11_permits_27 rfl (lv_at hl 2 rfl) ?_
      refine xr_iast X hw 29 xl_A_Kennel_permits_at hB.1 dX11_permits_28 hB.2 (fun σ5 H locs hB hw => ?_)
      refine lv_iconst (v := (1 : Int32)) hx hb dX11_permits_29 (by decide) ?_
      exact xr_zret X hw hr hk hB dX11_permits_30
    · replace hB := hB.2 hc
      refine lv_iconst (v := (0 : Int32)) hx hb dX11_permits_17 (by decide) ?_
      exact xr_zret X hw hr hk hB dX11_permits_18
theorem xp_X11_93 {p : Program} {s : State} {m : MethodId} {args : Array Value} {c : Code} {cc : ByteArray} {nL : Nat} {D : va_G} {cy : Nat → ClassId} {lay : List xw_E} {q : Nat → Nat} (X : xr_X p s m args c cc nL RX11 D cy lay q) : xr_P args s RX11 93 11 10 := ⟨RX11, TX11, 12, tyX11, rfl, by decide, fun w h => X.2.2.2.2.1 w (xt_inX11 w h), tyX11_ok, nmX11, Or.inl (X.2.2.2.2.1 _ xt_2_122), rfl, by decide +kernel⟩
set_option maxRecDepth 100000 in
set_option maxHeartbeats 4000000 in
theorem xc_X11_rings (l : Launch) (D : va_G) (cy : Nat → ClassId) (q : Nat → Nat) (σ : xw_M) (a1 : Int32) {Z : Int32 → xw_M → Prop} (hU : xu_X11_rings σ a1 Z) : xr_CI l yX11_rings cX11_rings 2 .boolean { frames := 1, cells := 0, slots := 0, locals := 22 } D cy xl_A q σ [.ref (q 0), .int a1] Z := by
  refine xr_CI.of RX11 rfl (by decide) (Nat.le_of_ble_eq_true rfl) (fun p e s m below meth c X hw hr hk ls hl => ?_)
  have hx := X.1
  have hb := X.2.1
  have hl : lv_has ls 2 [(0, .ref (q 0)), (1, .int a1)] := hl
  unfold xu_X11_rings at hU
  have hB := hU
  refine lv_iload_n hx hb dX11_rings_0 rfl (lv_at hl 1 rfl) ?_
  refine lv_iconst (v := (1 : Int32)) hx hb dX11_rings_1 (by decide) ?_
  refine lv_iconst (v := (3 : Int32)) hx hb dX11_rings_2 (by decide) ?_
  refine xr_i hw (xr_runS (As := [.int a1, .int (1 : Int32), .int (3 : Int32)]) (rest := []) X hw (xc_X11_isWithin l D cy q σ a1 (1 : Int32) (3 : Int32) hB _) xm_X11_isWithin xt_3_80 xt_3_81 ⟨Nat.le_of_ble_eq_true rfl, Nat.le_of_ble_eq_true rfl⟩ rfl rfl hl.1 (Nat.le_of_ble_eq_true rfl) dX11_rings_3 ⟨Nat.zero_le _, Nat.zero_le _⟩) (fun r2 σ1 H locs hB hw => ?_)
  refine lv_if_ne (tgt := 11) hx hb dX11_rings_6 (by decide) (fun hc => ?_) (fun hc => ?_)
  · replace hB := hB.1 hc
    refine lv_aload_n hx hb dX11_rings_11 rfl (lv_at hl 0 rfl) ?_
    refine lv_iload_n hx hb dX11_rings_12 rfl (lv_at hl 1 rfl) ?_
    refine xr_puti X hw (xp_X11_93 X) 0 xl_A_ShowRings_at rfl dX11_rings_13 hB (fun σ3 H locs hB hw => ?_)
    refine lv_iconst (v := (1 : Int32)) hx hb dX11_rings_16 (by decide) ?_
    exact xr_zret X hw hr hk hB dX11_rings_17
  · replace hB := hB.2 hc
    refine lv_iconst (v := (0 : Int32)) hx hb dX11_rings_9 (by decide) ?_
    exact xr_zret X hw hr hk hB dX11_rings_10
