set_option maxRecDepth 100000 in
set_option maxHeartbeats 4000000 in
theorem xc_X4_taken (l : Launch) (D : va_G) (cy : Nat → ClassId) (q : Nat → Nat) (σ : xw_M) (a1 : Int32) (a2 : Int32) {Z : Int32 → xw_M → Prop} (hU : xu_X4_taken σ a1 a2 Z) : xr_CI l yX4_taken cX4_taken 5 .int { frames := 2, cells := 0, slots := 0, locals := 44 } D cy xl_A q σ [.ref (q 7), .int a1, .int a2] Z := by
  refine xr_CI.of RX4 rfl (by decide) (Nat.le_of_ble_eq_true rfl) (fun p e s m below meth c X hw hr hk ls hl => ?_)
  have hx := X.1
  have hb := X.2.1
  have hl : lv_has ls 5 [(0, .ref (q 7)), (1, .int a1), (2, .int a2)] := hl
  have hB := hU (fun (σ : xw_M) (v3 : Int32) (v4 : Int32) => ∀ (H : Heap) (locs : List Loc) (ls : Array Slot), xr_H D cy xl_A q s σ H locs → lv_has ls 5 [(0, .ref (q 7)), (1, .int a1), (2, .int a2), (3, .int v3), (4, .int v4)] → W p l e ({ frames := 2, cells := 0, slots := 0, locals := 44 } : Room) s m ([.ref (q 7), .int a1, .int a2] : List Value).toArray below meth c H locs 0 0 (MQ below (va_Qi Z (xr_po D cy xl_A q) (xw_A xl_A q s.heap.size)) ([.ref (q 7), .int a1, .int a2] : List Value).toArray s 0 0 (xw_A xl_A q s.heap.size)) (F0 m 5 ls []))
    (by
    intro σ v3 v4 hB H locs ls hw hl
    unfold xb_X4_taken_5 at hB
    refine lv_iload hx hb dX4_taken_5 (lv_at hl 4 rfl) ?_
    refine lv_bipush (v := (6 : Int32)) hx hb dX4_taken_7 (by decide) ?_
    refine lv_icmp_ge (tgt := 43) hx hb dX4_taken_9 (by decide) (fun hc => ?_) (fun hc => ?_)
    · replace hB := hB.1 hc
      refine lv_iload_n hx hb dX4_taken_43 rfl (lv_at hl 3 rfl) ?_
      exact xr_iret X hw hr hk hB dX4_taken_44
    · replace hB := hB.2 hc
      refine lv_iload_n hx hb dX4_taken_12 rfl (lv_at hl 1 rfl) ?_
      refine lv_iload hx hb dX4_taken_13 (lv_at hl 4 rfl) ?_
      refine lv_ishr hx hb dX4_taken_15 ?_
      refine lv_iconst (v := (1 : Int32)) hx hb dX4_taken_16 (by decide) ?_
      refine lv_iand hx hb dX4_taken_17 ?_
      refine lv_iconst (v := (1 : Int32)) hx hb dX4_taken_18 (by decide) ?_
      refine lv_icmp_ne (tgt := 37) hx hb dX4_taken_19 (by decide) (fun hc => ?_) (fun hc => ?_)
      · replace hB := hB.1 hc
        refine lv_iinc (v := (v4 + (1 : Int32))) (lv' := [(4, .int (v4 + (1 : Int32))), (0, .ref (q 7)), (1, .int a1), (2, .int a2), (3, .int v3)]) hx hb dX4_taken_37 hl (k := 4) rfl rfl (by decide) rfl (fun ls hl => ?_)
        refine lv_goto (tgt := 5) hx hb dX4_taken_40 (by decide) ?_
        exact hB _ _ _ hw (lv_sub hl [1, 2, 3, 4, 0] rfl)
      · replace hB := hB.2 hc
        refine lv_iload_n hx hb dX4_taken_22 rfl (lv_at hl 3 rfl) ?_
        refine lv_iconst (v := (1 : Int32)) hx hb dX4_taken_23 (by decide) ?_
        refine lv_aload_n hx hb dX4_taken_24 rfl (lv_at hl 0 rfl) ?_
        refine xr_getr X hw (xf_X4_24 X) 7 xl_A_Planner_at rfl dX4_taken_25 ?_
        refine lv_iload hx hb dX4_taken_28 (lv_at hl 4 rfl) ?_
        refine lv_iload_n hx hb dX4_taken_30 rfl (lv_at hl 2 rfl) ?_
        refine xr_i hw (xr_runV (As := [.int v4, .int a2]) (rest := [.int (1 : Int32), .int v3]) X hw 21 (xc_X10_at l D cy q σ 5 v4 a2 (by decide) hB _) xm_X10_at xt_4_33 xt_3_165 xt_3_166 ⟨Nat.le_of_ble_eq_true rfl, Nat.le_of_ble_eq_true rfl⟩ (xl_A_Timetable_at (i := 5) (by decide)) rfl rfl rfl rfl hl.1 (Nat.le_of_ble_eq_true rfl) dX4_taken_31 ⟨Nat.zero_le _, Nat.zero_le _⟩) (fun r2 σ1 H locs hB hw => ?_)
        refine lv_ishl hx hb dX4_taken_34 ?_
        refine lv_ior hx hb dX4_taken_35 ?_
        refine lv_istore_n (lv' := [(3, .int (v3 ||| ((1 : Int32) <<< (r2 &&& 31)))), (0, .ref (q 7)), (1, .int a1), (2, .int a2), (4, .int v4)]) hx hb dX4_taken_36 rfl hl (by decide) rfl (fun ls hl => ?_)
        refine lv_iinc (v := (v4 + (1 : Int32))) (lv' := [(4, .int (v4 + (1 : Int32))), (3, .int (v3 ||| ((1 : Int32) <<< (r2 &&& 31)))), (0, .ref (q 7)), (1, .int a1), (2, .int a2)]) hx hb dX4_taken_37 hl (k := 4) rfl rfl (by decide) rfl (fun ls hl => ?_)
        refine lv_goto (tgt := 5) hx hb dX4_taken_40 (by decide) ?_
        exact hB _ _ _ hw (lv_sub hl [2, 3, 4, 1, 0] rfl))
  unfold xb_X4_taken_e at hB
  refine lv_iconst (v := (0 : Int32)) hx hb dX4_taken_0 (by decide) ?_
  refine lv_istore_n (lv' := [(3, .int (0 : Int32)), (0, .ref (q 7)), (1, .int a1), (2, .int a2)]) hx hb dX4_taken_1 rfl hl (by decide) rfl (fun ls hl => ?_)
  refine lv_iconst (v := (0 : Int32)) hx hb dX4_taken_2 (by decide) ?_
  refine lv_istore (lv' := [(4, .int (0 : Int32)), (3, .int (0 : Int32)), (0, .ref (q 7)), (1, .int a1), (2, .int a2)]) hx hb dX4_taken_3 hl (by decide) rfl (fun ls hl => ?_)
  exact hB _ _ _ hw (lv_sub hl [2, 3, 4, 1, 0] rfl)
set_option maxRecDepth 100000 in
set_option maxHeartbeats 4000000 in
theorem xc_J6_bitCount_0f7a4 (l : Launch) (D : va_G) (cy : Nat → ClassId) (q : Nat → Nat) (σ : xw_M) (a0 : Int32) {Z : Int32 → xw_M → Prop} (hU : xu_J6_bitCount_0f7a4 σ a0 Z) : xr_CI l yJ6_bitCount_0f7a4 cJ6_bitCount_0f7a4 1 .int { frames := 0, cells := 0, slots := 0, locals := 0 } D cy xl_A q σ [.int a0] Z := by
  refine xr_CI.of RJ6 rfl (by decide) (Nat.le_of_ble_eq_true rfl) (fun p e s m below meth c X hw hr hk ls hl => ?_)
  have hx := X.1
  have hb := X.2.1
  have hl : lv_has ls 1 [(0, .int a0)] := hl
  unfold xu_J6_bitCount_0f7a4 at hU
  have hB := hU
  refine lv_iload_n hx hb dJ6_bitCount_0f7a4_0 rfl (lv_at hl 0 rfl) ?_
  refine lv_iload_n hx hb dJ6_bitCount_0f7a4_1 rfl (lv_at hl 0 rfl) ?_
  refine lv_iconst (v := (1 : Int32)) hx hb dJ6_bitCount_0f7a4_2 (by decide) ?_
  refine lv_iushr (v := (Int32.toUInt32 a0 >>> (Int32.toUInt32 (1 : Int32) &&& Int32.toUInt32 31)).toInt32) hx hb dJ6_bitCount_0f7a4_3 rfl ?_
  refine lv_ldcw (v := (1431655765 : Int32)) hx hb X.2.2.2.1 (X.2.2.2.2.1 _ xt_3_207) dJ6_bitCount_0f7a4_4 ?_
  refine lv_iand hx hb dJ6_bitCount_0f7a4_7 ?_
  refine lv_isub hx hb dJ6_bitCount_0f7a4_8 ?_
  refine lv_topi (fun x1 hx1 => ?_)
  replace hB := hB _ hx1
  refine lv_istore_n (lv' := [(0, .int x1)]) hx hb dJ6_bitCount_0f7a4_9 rfl hl (by decide) rfl (fun ls hl => ?_)
  refine lv_iload_n hx hb dJ6_bitCount_0f7a4_10 rfl (lv_at hl 0 rfl) ?_
  refine lv_ldcw (v := (858993459 : Int32)) hx hb X.2.2.2.1 (X.2.2.2.2.1 _ xt_3_208) dJ6_bitCount_0f7a4_11 ?_
  refine lv_iand hx hb dJ6_bitCount_0f7a4_14 ?_
  refine lv_iload_n hx hb dJ6_bitCount_0f7a4_15 rfl (lv_at hl 0 rfl) ?_
  refine lv_iconst (v := (2 : Int32)) hx hb dJ6_bitCount_0f7a4_16 (by decide) ?_
  refine lv_iushr (v := (Int32.toUInt32 x1 >>> (Int32.toUInt32 (2 : Int32) &&& Int32.toUInt32 31)).toInt32) hx hb dJ6_bitCount_0f7a4_17 rfl ?_
  refine lv_ldcw (v := (858993459 : Int32)) hx hb X.2.2.2.1 (X.2.2.2.2.1 _ xt_3_208) dJ6_bitCount_0f7a4_18 ?_
  refine lv_iand hx hb dJ6_bitCount_0f7a4_21 ?_
  refine lv_iadd hx hb dJ6_bitCount_0f7a4_22 ?_
  refine lv_topi (fun x2 hx2 => ?_)
  replace hB := hB _ hx2
  refine lv_istore_n (lv' := [(0, .int x2)]) hx hb dJ6_bitCount_0f7a4_23 rfl hl (by decide) rfl (fun ls hl => ?_)
  refine lv_iload_n hx hb dJ6_bitCount_0f7a4_24 rfl (lv_at hl 0 rfl) ?_
  refine lv_iload_n hx hb dJ6_bitCount_0f7a4_25 rfl (lv_at hl 0 rfl) ?_
  refine lv_iconst (v := (4 : Int32)) hx hb dJ6_bitCount_0f7a4_26 (by decide) ?_
  refine lv_iushr (v := (Int32.toUInt32 x2 >>> (Int32.toUInt32 (4 : Int32) &&& Int32.toUInt32 31)).toInt32) hx hb dJ6_bitCount_0f7a4_27 rfl ?_
  refine lv_iadd hx hb dJ6_bitCount_0f7a4_28 ?_
  refine lv_ldcw (v := (252645135 : Int32)) hx hb X.2.2.2.1 (X.2.2.2.2.1 _ xt_3_209) dJ6_bitCount_0f7a4_29 ?_
  refine lv_iand hx hb dJ6_bitCount_0f7a4_32 ?_
  refine lv_topi (fun x3 hx3 => ?_)
  replace hB := hB _ hx3
  refine lv_istore_n (lv' := [(0, .int x3)]) hx hb dJ6_bitCount_0f7a4_33 rfl hl (by decide) rfl (fun ls hl => ?_)
  refine lv_iload_n hx hb dJ6_bitCount_0f7a4_34 rfl (lv_at hl 0 rfl) ?_
  refine lv_iload_n hx hb dJ6_bitCount_0f7a4_35 rfl (lv_at hl 0 rfl) ?_
  refine lv_bipush (v := (8 : Int32)) hx hb dJ6_bitCount_0f7a4_36 (by decide) ?_
  refine lv_iushr (v := (Int32.toUInt32 x3 >>> (Int32.toUInt32 (8 : Int32) &&& Int32.toUInt32 31)).toInt32) hx hb dJ6_bitCount_0f7a4_38 rfl ?_
  refine lv_iadd hx hb dJ6_bitCount_0f7a4_39 ?_
  refine lv_topi (fun x4 hx4 => ?_)
  replace hB := hB _ hx4
  refine lv_istore_n (lv' := [(0, .int x4)]) hx hb dJ6_bitCount_0f7a4_40 rfl hl (by decide) rfl (fun ls hl => ?_)
  refine lv_iload_n hx hb dJ6_bitCount_0f7a4_41 rfl (lv_at hl 0 rfl) ?_
  refine lv_iload_n hx hb dJ6_bitCount_0f7a4_42 rfl (lv_at hl 0 rfl) ?_
  refine lv_bipush (v := (16 : Int32)) hx hb dJ6_bitCount_0f7a4_43 (by decide) ?_
  refine lv_iushr (v := (Int32.toUInt32 x4 >>> (Int32.toUInt32 (16 : Int32) &&& Int32.toUInt32 31)).toInt32) hx hb dJ6_bitCount_0f7a4_45 rfl ?_
  refine lv_iadd hx hb dJ6_bitCount_0f7a4_46 ?_
  refine lv_topi (fun x5 hx5 => ?_)
  replace hB := hB _ hx5
  refine lv_istore_n (lv' := [(0, .int x5)]) hx hb dJ6_bitCount_0f7a4_47 rfl hl (by decide) rfl (fun ls hl => ?_)
  refine lv_iload_n hx hb dJ6_bitCount_0f7a4_48 rfl (lv_at hl 0 rfl) ?_
  refine lv_bipush (v := (63 : Int32)) hx hb dJ6_bitCount_0f7a4_49 (by decide) ?_
  refine lv_iand hx hb dJ6_bitCount_0f7a4_51 ?_
  exact xr_iret X hw hr hk hB dJ6_bitCount_0f7a4_52
theorem xm_X4_meanwhile : xr_MW yX4_meanwhile cX4_meanwhile 6 (some .int) 3 := ⟨xt_4_24, xt_1_9, by decide, by decide, by decide +kernel⟩
theorem xm_X4_taken : xr_MW yX4_taken cX4_taken 5 (some .int) 2 := ⟨xt_4_32, xt_1_9, by decide, by decide, by decide +kernel⟩
theorem xm_J6_bitCount_0f7a4 : xr_MW yJ6_bitCount_0f7a4 cJ6_bitCount_0f7a4 1 (some .int) 1 := ⟨xt_3_206, xt_1_20, by decide, by decide, by decide +kernel⟩
theorem xf_X4_31 {p : Program} {s : State} {m : MethodId} {args : Array Value} {c : Code} {cc : ByteArray} {nL : Nat} {D : va_G} {cy : Nat → ClassId} {lay : List xw_E} {q : Nat → Nat} (X : xr_X p s m args c cc nL RX4 D cy lay q) : xr_F args s RX4 31 4 7 := ⟨RX4, TX4, 10, tyX4, rfl, by decide, fun w h => X.2.2.2.2.1 w (xt_inX4 w h), tyX4_ok, nmX4, Or.inl (X.2.2.2.2.1 _ xt_2_42)⟩
theorem xf_X4_15 {p : Program} {s : State} {m : MethodId} {args : Array Value} {c : Code} {cc : ByteArray} {nL : Nat} {D : va_G} {cy : Nat → ClassId} {lay : List xw_E} {q : Nat → Nat} (X : xr_X p s m args c cc nL RX4 D cy lay q) : xr_F args s RX4 15 4 3 := ⟨RX4, TX4, 10, tyX4, rfl, by decide, fun w h => X.2.2.2.2.1 w (xt_inX4 w h), tyX4_ok, nmX4, Or.inl (X.2.2.2.2.1 _ xt_2_37)⟩
theorem xf_X4_18 {p : Program} {s : State} {m : MethodId} {args : Array Value} {c : Code} {cc : ByteArray} {nL : Nat} {D : va_G} {cy : Nat → ClassId} {lay : List xw_E} {q : Nat → Nat} (X : xr_X p s m args c cc nL RX4 D cy lay q) : xr_F args s RX4 18 4 4 := ⟨RX4, TX4, 10, tyX4, rfl, by decide, fun w h => X.2.2.2.2.1 w (xt_inX4 w h), tyX4_ok, nmX4, Or.inl (X.2.2.2.2.1 _ xt_2_38)⟩
set_option maxRecDepth 100000 in
set_option maxHeartbeats 4000000 in
theorem xc_X4_fits (l : Launch) (D : va_G) (cy : Nat → ClassId) (q : Nat → Nat) (σ : xw_M) (a1 : Int32) (a2 : Int32) (a3 : Int32) {Z : Int32 → xw_M → Prop} (hU : xu_X4_fits σ a1 a2 a3 Z) : xr_CI l yX4_fits cX4_fits 9 .boolean { frames := 3, cells := 0, slots := 0, locals := 68 } D cy xl_A q σ [.ref (q 7), .int a1, .int a2, .int a3] Z := by
  refine xr_CI.of RX4 rfl (by decide) (Nat.le_of_ble_eq_true rfl) (fun p e s m below meth c X hw hr hk ls hl => ?_)
  have hx := X.1
  have hb := X.2.1
  have hl : lv_has ls 9 [(0, .ref (q 7)), (1, .int a1), (2, .int a2), (3, .int a3)] := hl
  have hB := hU (fun (σ : xw_M) (s0 : Int32) (v4 : Int32) => ∀ (H : Heap) (locs : List Loc) (ls : Array Slot), xr_H D cy xl_A q s σ H locs → lv_has ls 9 [(0, .ref (q 7)), (1, .int a1), (4, .int v4)] → W p l e ({ frames := 3, cells := 0, slots := 0, locals := 68 } : Room) s m ([.ref (q 7), .int a1, .int a2, .int a3] : List Value).toArray below meth c H locs 0 0 (MQ below (va_Qi Z (xr_po D cy xl_A q) (xw_A xl_A q s.heap.size)) ([.ref (q 7), .int a1, .int a2, .int a3] : List Value).toArray s 0 0 (xw_A xl_A q s.heap.size)) (F0 m 31 ls [.int s0]))
    (fun (σ : xw_M) (v4 : Int32) (v5 : Int32) (v6 : Int32) (v7 : Int32) (v8 : Int32) => ∀ (H : Heap) (locs : List Loc) (ls : Array Slot), xr_H D cy xl_A q s σ H locs → lv_has ls 9 [(0, .ref (q 7)), (1, .int a1), (4, .int v4), (5, .int v5), (6, .int v6), (7, .int v7), (8, .int v8)] → W p l e ({ frames := 3, cells := 0, slots := 0, locals := 68 } : Room) s m ([.ref (q 7), .int a1, .int a2, .int a3] : List Value).toArray below meth c H locs 0 0 (MQ below (va_Qi Z (xr_po D cy xl_A q) (xw_A xl_A q s.heap.size)) ([.ref (q 7), .int a1, .int a2, .int a3] : List Value).toArray s 0 0 (xw_A xl_A q s.heap.size)) (F0 m 65 ls []))
    (by
    intro σ s0 v4 hB H locs ls hw hl
    unfold xb_X4_fits_31 at hB
    refine lv_istore (lv' := [(5, .int s0), (0, .ref (q 7)), (1, .int a1), (4, .int v4)]) hx hb dX4_fits_31 hl (by decide) rfl (fun ls hl => ?_)
    refine lv_aload_n hx hb dX4_fits_33 rfl (lv_at hl 1 rfl) ?_
    refine xr_getr X hw (xf_X4_15 X) 7 xl_A_Planner_at rfl dX4_fits_34 ?_
    refine lv_iload_n hx hb dX4_fits_37 rfl (lv_at hl 2 rfl) ?_
    refine xr_iald X hw 46 xl_A_Planner_judges_at hB.1 dX4_fits_38 ?_
    replace hB := hB.2
    refine lv_aload_n hx hb dX4_fits_39 rfl (lv_at hl 1 rfl) ?_
    refine lv_iload hx hb dX4_fits_40 (lv_at hl 3 rfl) ?_
    refine lv_iconst (v := (1 : Int32)) hx hb dX4_fits_42 (by decide) ?_
    refine xr_i hw (xr_runV (As := [.int v4, .int (1 : Int32)]) (rest := [.int (σ.1 46 (Int32.toNatClampNeg a1))]) X hw 7 (xc_X4_taken l D cy q σ v4 (1 : Int32) hB _) xm_X4_taken xt_4_29 xt_4_31 xt_p_25 ⟨Nat.le_of_ble_eq_true rfl, Nat.le_of_ble_eq_true rfl⟩ xl_A_Planner_at rfl rfl rfl rfl hl.1 (Nat.le_of_ble_eq_true rfl) dX4_fits_43 ⟨Nat.zero_le _, Nat.zero_le _⟩) (fun r8 σ7 H locs hB hw => ?_)
    refine lv_iconst (v := (-1 : Int32)) hx hb dX4_fits_46 (by decide) ?_
    refine lv_ixor hx hb dX4_fits_47 ?_
    refine lv_iand hx hb dX4_fits_48 ?_
    refine lv_if_eq (tgt := 56) hx hb dX4_fits_49 (by decide) (fun hc => ?_) (fun hc => ?_)
    · replace hB := hB.1 hc
      refine lv_iconst (v := (0 : Int32)) hx hb dX4_fits_56 (by decide) ?_
      refine lv_istore (lv' := [(6, .int (0 : Int32)), (5, .int s0), (0, .ref (q 7)), (1, .int a1), (4, .int v4)]) hx hb dX4_fits_57 hl (by decide) rfl (fun ls hl => ?_)
      refine lv_iconst (v := (1 : Int32)) hx hb dX4_fits_59 (by decide) ?_
      refine lv_istore (lv' := [(7, .int (1 : Int32)), (6, .int (0 : Int32)), (5, .int s0), (0, .ref (q 7)), (1, .int a1), (4, .int v4)]) hx hb dX4_fits_60 hl (by decide) rfl (fun ls hl => ?_)
      refine lv_iconst (v := (0 : Int32)) hx hb dX4_fits_62 (by decide) ?_
      refine lv_istore (lv' := [(8, .int (0 : Int32)), (7, .int (1 : Int32)), (6, .int (0 : Int32)), (5, .int s0), (0, .ref (q 7)), (1, .int a1), (4, .int v4)]) hx hb dX4_fits_63 hl (by decide) rfl (fun ls hl => ?_)
      exact hB _ _ _ hw (lv_sub hl [4, 5, 6, 3, 2, 1, 0] rfl)
    · replace hB := hB.2 hc
      refine lv_iconst (v := (1 : Int32)) hx hb dX4_fits_52 (by decide) ?_
      refine lv_goto (tgt := 57) hx hb dX4_fits_53 (by decide) ?_
      refine lv_istore (lv' := [(6, .int (1 : Int32)), (5, .int s0), (0, .ref (q 7)), (1, .int a1), (4, .int v4)]) hx hb dX4_fits_57 hl (by decide) rfl (fun ls hl => ?_)
      refine lv_iconst (v := (1 : Int32)) hx hb dX4_fits_59 (by decide) ?_
      refine lv_istore (lv' := [(7, .int (1 : Int32)), (6, .int (1 : Int32)), (5, .int s0), (0, .ref (q 7)), (1, .int a1), (4, .int v4)]) hx hb dX4_fits_60 hl (by decide) rfl (fun ls hl => ?_)
      refine lv_iconst (v := (0 : Int32)) hx hb dX4_fits_62 (by decide) ?_
      refine lv_istore (lv' := [(8, .int (0 : Int32)), (7, .int (1 : Int32)), (6, .int (1 : Int32)), (5, .int s0), (0, .ref (q 7)), (1, .int a1), (4, .int v4)]) hx hb dX4_fits_63 hl (by decide) rfl (fun ls hl => ?_)
      exact hB _ _ _ hw (lv_sub hl [4, 5, 6, 3, 2, 1, 0] rfl))
    (by
    intro σ v4 v5 v6 v7 v8 hB H locs ls hw hl
    unfold xb_X4_fits_65 at hB
    refine lv_iload hx hb dX4_fits_65 (lv_at hl 6 rfl) ?_
    refine lv_bipush (v := (6 : Int32)) hx hb dX4_fits_67 (by decide) ?_
    refine lv_icmp_ge (tgt := 109) hx hb dX4_fits_69 (by decide) (fun hc => ?_) (fun hc => ?_)
    · replace hB := hB.1 hc
      refine lv_iload hx hb dX4_fits_109 (lv_at hl 3 rfl) ?_
      refine lv_if_eq (tgt := 128) hx hb dX4_fits_111 (by decide) (fun hc => ?_) (fun hc => ?_)
      · replace hB := hB.1 hc
        refine lv_iconst (v := (0 : Int32)) hx hb dX4_fits_128 (by decide) ?_
        exact xr_zret X hw hr hk hB dX4_fits_129
      · replace hB := hB.2 hc
        refine lv_iload hx hb dX4_fits_114 (lv_at hl 4 rfl) ?_
        refine lv_if_eq (tgt := 128) hx hb dX4_fits_116 (by decide) (fun hc => ?_) (fun hc => ?_)
        · replace hB := hB.1 hc
          refine lv_iconst (v := (0 : Int32)) hx hb dX4_fits_128 (by decide) ?_
          exact xr_zret X hw hr hk hB dX4_fits_129
        · replace hB := hB.2 hc
          refine lv_iload hx hb dX4_fits_119 (lv_at hl 5 rfl) ?_
          refine lv_if_eq (tgt := 128) hx hb dX4_fits_121 (by decide) (fun hc => ?_) (fun hc => ?_)
          · replace hB := hB.1 hc
            refine lv_iconst (v := (0 : Int32)) hx hb dX4_fits_128 (by decide) ?_
            exact xr_zret X hw hr hk hB dX4_fits_129
          · replace hB := hB.2 hc
            refine lv_iconst (v := (1 : Int32)) hx hb dX4_fits_124 (by decide) ?_
            refine lv_goto (tgt := 129) hx hb dX4_fits_125 (by decide) ?_
            exact xr_zret X hw hr hk hB dX4_fits_129
    · replace hB := hB.2 hc
      refine lv_iload hx hb dX4_fits_72 (lv_at hl 2 rfl) ?_
      refine lv_iload hx hb dX4_fits_74 (lv_at hl 6 rfl) ?_
      refine lv_ishr hx hb dX4_fits_76 ?_
      refine lv_iconst (v := (1 : Int32)) hx hb dX4_fits_77 (by decide) ?_
      refine lv_iand hx hb dX4_fits_78 ?_
      refine lv_iconst (v := (1 : Int32)) hx hb dX4_fits_79 (by decide) ?_
      refine lv_icmp_ne (tgt := 103) hx hb dX4_fits_80 (by decide) (fun hc => ?_) (fun hc => ?_)
      · replace hB := hB.1 hc
        refine lv_iinc (v := (v8 + (1 : Int32))) (lv' := [(8, .int (v8 + (1 : Int32))), (0, .ref (q 7)), (1, .int a1), (4, .int v4), (5, .int v5), (6, .int v6), (7, .int v7)]) hx hb dX4_fits_103 hl (k := 6) rfl rfl (by decide) rfl (fun ls hl => ?_)
        refine lv_goto (tgt := 65) hx hb dX4_fits_106 (by decide) ?_
        exact hB _ _ _ hw (lv_sub hl [1, 2, 3, 4, 5, 6, 0] rfl)
      · replace hB := hB.2 hc
        refine lv_aload_n hx hb dX4_fits_83 rfl (lv_at hl 0 rfl) ?_
        refine xr_getr X hw (xf_X4_18 X) 7 xl_A_Planner_at rfl dX4_fits_84 ?_
        refine lv_iload hx hb dX4_fits_87 (lv_at hl 6 rfl) ?_
        refine xr_iald X hw 47 xl_A_Planner_handlers_at hB.1 dX4_fits_89 ?_
        replace hB := hB.2
        refine lv_aload_n hx hb dX4_fits_90 rfl (lv_at hl 0 rfl) ?_
        refine xr_getr X hw (xf_X4_18 X) 7 xl_A_Planner_at rfl dX4_fits_91 ?_
        refine lv_iload_n hx hb dX4_fits_94 rfl (lv_at hl 1 rfl) ?_
        refine xr_iald X hw 47 xl_A_Planner_handlers_at hB.1 dX4_fits_95 ?_
        replace hB := hB.2
        refine lv_iand hx hb dX4_fits_96 ?_
        refine lv_if_eq (tgt := 103) hx hb dX4_fits_97 (by decide) (fun hc => ?_) (fun hc => ?_)
        · replace hB := hB.1 hc
          refine lv_iinc (v := (v8 + (1 : Int32))) (lv' := [(8, .int (v8 + (1 : Int32))), (0, .ref (q 7)), (1, .int a1), (4, .int v4), (5, .int v5), (6, .int v6), (7, .int v7)]) hx hb dX4_fits_103 hl (k := 6) rfl rfl (by decide) rfl (fun ls hl => ?_)
          refine lv_goto (tgt := 65) hx hb dX4_fits_106 (by decide) ?_
          exact hB _ _ _ hw (lv_sub hl [1, 2, 3, 4, 5, 6, 0] rfl)
        · replace hB := hB.2 hc
          refine lv_iconst (v := (0 : Int32)) hx hb dX4_fits_100 (by decide) ?_
          refine lv_istore (lv' := [(7, .int (0 : Int32)), (0, .ref (q 7)), (1, .int a1), (4, .int v4), (5, .int v5), (6, .int v6), (8, .int v8)]) hx hb dX4_fits_101 hl (by decide) rfl (fun ls hl => ?_)
          refine lv_iinc (v := (v8 + (1 : Int32))) (lv' := [(8, .int (v8 + (1 : Int32))), (7, .int (0 : Int32)), (0, .ref (q 7)), (1, .int a1), (4, .int v4), (5, .int v5), (6, .int v6)]) hx hb dX4_fits_103 hl (k := 6) rfl rfl (by decide) rfl (fun ls hl => ?_)
          refine lv_goto (tgt := 65) hx hb dX4_fits_106 (by decide) ?_
          exact hB _ _ _ hw (lv_sub hl [2, 3, 4, 5, 6, 1, 0] rfl))
  unfold xb_X4_fits_e at hB
  refine lv_aload_n hx hb dX4_fits_0 rfl (lv_at hl 0 rfl) ?_
  refine lv_iload_n hx hb dX4_fits_1 rfl (lv_at hl 1 rfl) ?_
  refine lv_iload_n hx hb dX4_fits_2 rfl (lv_at hl 2 rfl) ?_
  refine lv_iload_n hx hb dX4_fits_3 rfl (lv_at hl 3 rfl) ?_
  refine xr_i hw (xr_runV (As := [.int a1, .int a2, .int a3]) (rest := []) X hw 7 (xc_X4_meanwhile l D cy q σ a1 a2 a3 hB _) xm_X4_meanwhile xt_4_21 xt_4_23 xt_p_24 ⟨Nat.le_of_ble_eq_true rfl, Nat.le_of_ble_eq_true rfl⟩ xl_A_Planner_at rfl rfl rfl rfl hl.1 (Nat.le_of_ble_eq_true rfl) dX4_fits_4 ⟨Nat.zero_le _, Nat.zero_le _⟩) (fun r2 σ1 H locs hB hw => ?_)
  refine lv_istore (lv' := [(4, .int r2), (0, .ref (q 7)), (1, .int a1), (2, .int a2), (3, .int a3)]) hx hb dX4_fits_7 hl (by decide) rfl (fun ls hl => ?_)
  refine lv_aload_n hx hb dX4_fits_9 rfl (lv_at hl 1 rfl) ?_
  refine lv_iload hx hb dX4_fits_10 (lv_at hl 0 rfl) ?_
  refine lv_iconst (v := (0 : Int32)) hx hb dX4_fits_12 (by decide) ?_
  refine xr_i hw (xr_runV (As := [.int r2, .int (0 : Int32)]) (rest := []) X hw 7 (xc_X4_taken l D cy q σ1 r2 (0 : Int32) hB _) xm_X4_taken xt_4_29 xt_4_31 xt_p_25 ⟨Nat.le_of_ble_eq_true rfl, Nat.le_of_ble_eq_true rfl⟩ xl_A_Planner_at rfl rfl rfl rfl hl.1 (Nat.le_of_ble_eq_true rfl) dX4_fits_13 ⟨Nat.zero_le _, Nat.zero_le _⟩) (fun r4 σ3 H locs hB hw => ?_)
  refine xr_i hw (xr_runS (As := [.int r4]) (rest := []) X hw (xc_J6_bitCount_0f7a4 l D cy q σ3 r4 hB _) xm_J6_bitCount_0f7a4 xt_3_204 xt_3_205 ⟨Nat.le_of_ble_eq_true rfl, Nat.le_of_ble_eq_true rfl⟩ rfl rfl hl.1 (Nat.le_of_ble_eq_true rfl) dX4_fits_16 ⟨Nat.zero_le _, Nat.zero_le _⟩) (fun r6 σ5 H locs hB hw => ?_)
  refine lv_aload_n hx hb dX4_fits_19 rfl (lv_at hl 1 rfl) ?_
  refine xr_geti X hw (xf_X4_31 X) 7 xl_A_Planner_at rfl dX4_fits_20 ?_
  refine lv_icmp_ge (tgt := 30) hx hb dX4_fits_23 (by decide) (fun hc => ?_) (fun hc => ?_)
  · replace hB := hB.1 hc
    refine lv_iconst (v := (0 : Int32)) hx hb dX4_fits_30 (by decide) ?_
    exact hB _ _ _ hw (lv_sub hl [1, 2, 0] rfl)
  · replace hB := hB.2 hc
    refine lv_iconst (v := (1 : Int32)) hx hb dX4_fits_26 (by decide) ?_
    refine lv_goto (tgt := 31) hx hb dX4_fits_27 (by decide) ?_
    exact hB _ _ _ hw (lv_sub hl [1, 2, 0] rfl)
set_option maxRecDepth 100000 in
set_option maxHeartbeats 4000000 in
theorem xc_X10_put (l : Launch) (D : va_G) (cy : Nat → ClassId) (q : Nat → Nat) (σ : xw_M) (o0 : Nat) (a1 : Int32) (a2 : Int32) (a3 : Int32) (a4 : Int32) (a5 : Int32) (h0 : o0 < 7) {Z : xw_M → Prop} (hU : xu_X10_put σ o0 a1 a2 a3 a4 a5 Z) : xr_CV l yX10_put cX10_put 6 { frames := 1, cells := 0, slots := 0, locals := 22 } D cy xl_A q σ [.ref (q (16 + o0)), .int a1, .int a2, .int a3, .int a4, .int a5] Z := by
  refine xr_CV.of RX10 rfl (by decide) (Nat.le_of_ble_eq_true rfl) (fun p e s m below meth c X hw hr hk ls hl => ?_)
  have hx := X.1
  have hb := X.2.1
  have hl : lv_has ls 6 [(0, .ref (q (16 + o0))), (1, .int a1), (2, .int a2), (3, .int a3), (4, .int a4), (5, .int a5)] := hl
  unfold xu_X10_put at hU
  have hB := hU
  refine lv_iload_n hx hb dX10_put_0 rfl (lv_at hl 1 rfl) ?_
  refine lv_iconst (v := (0 : Int32)) hx hb dX10_put_1 (by decide) ?_
  refine lv_iconst (v := (5 : Int32)) hx hb dX10_put_2 (by decide) ?_
  refine xr_i hw (xr_runSN (As := [.int a1, .int (0 : Int32), .int (5 : Int32)]) (rest := []) X hw (xc_X11_isWithin l D cy q σ a1 (0 : Int32) (5 : Int32) hB _) xm_X11_isWithin (X.2.2.2.2.2.1.2 _ (List.mem_of_getElem? (i := 6) rfl)) xt_3_81 ⟨Nat.le_of_ble_eq_true rfl, Nat.le_of_ble_eq_true rfl⟩ rfl rfl hl.1 (Nat.le_of_ble_eq_true rfl) dX10_put_3 ⟨Nat.zero_le _, Nat.zero_le _⟩) (fun r2 σ1 H locs hB hw => ?_)
  refine lv_if_eq (tgt := 55) hx hb dX10_put_6 (by decide) (fun hc => ?_) (fun hc => ?_)
  · replace hB := hB.1 hc
    exact xr_vret X hw hr hk hB dX10_put_55
  · replace hB := hB.2 hc
    refine lv_aload_n hx hb dX10_put_9 rfl (lv_at hl 0 rfl) ?_
    refine xr_getr X hw (xf_X10_9 X) (16 + o0) (xl_A_Timetable_at (i := o0) h0) rfl dX10_put_10 ?_
    refine lv_iload_n hx hb dX10_put_13 rfl (lv_at hl 1 rfl) ?_
    refine lv_iconst (v := (4 : Int32)) hx hb dX10_put_14 (by decide) ?_
    refine lv_imul hx hb dX10_put_15 ?_
    refine lv_iconst (v := (0 : Int32)) hx hb dX10_put_16 (by decide) ?_
    refine lv_iadd hx hb dX10_put_17 ?_
    refine lv_iload_n hx hb dX10_put_18 rfl (lv_at hl 2 rfl) ?_
    refine xr_iast X hw (66 + o0) (xl_A_Timetable_cells_at (i := o0) h0) hB.1 dX10_put_19 hB.2 (fun σ3 H locs hB hw => ?_)
    refine lv_aload_n hx hb dX10_put_20 rfl (lv_at hl 0 rfl) ?_
    refine xr_getr X hw (xf_X10_9 X) (16 + o0) (xl_A_Timetable_at (i := o0) h0) rfl dX10_put_21 ?_
    refine lv_iload_n hx hb dX10_put_24 rfl (lv_at hl 1 rfl) ?_
    refine lv_iconst (v := (4 : Int32)) hx hb dX10_put_25 (by decide) ?_
    refine lv_imul hx hb dX10_put_26 ?_
    refine lv_iconst (v := (1 : Int32)) hx hb dX10_put_27 (by decide) ?_
    refine lv_iadd hx hb dX10_put_28 ?_
    refine lv_iload_n hx hb dX10_put_29 rfl (lv_at hl 3 rfl) ?_
    refine xr_iast X hw (66 + o0) (xl_A_Timetable_cells_at (i := o0) h0) hB.1 dX10_put_30 hB.2 (fun σ4 H locs hB hw => ?_)
    refine lv_aload_n hx hb dX10_put_31 rfl (lv_at hl 0 rfl) ?_
    refine xr_getr X hw (xf_X10_9 X) (16 + o0) (xl_A_Timetable_at (i := o0) h0) rfl dX10_put_32 ?_
    refine lv_iload_n hx hb dX10_put_35 rfl (lv_at hl 1 rfl) ?_
    refine lv_iconst (v := (4 : Int32)) hx hb dX10_put_36 (by decide) ?_
    refine lv_imul hx hb dX10_put_37 ?_
    refine lv_iconst (v := (2 : Int32)) hx hb dX10_put_38 (by decide) ?_
    refine lv_iadd hx hb dX10_put_39 ?_
    refine lv_iload hx hb dX10_put_40 (lv_at hl 4 rfl) ?_
    refine xr_iast X hw (66 + o0) (xl_A_Timetable_cells_at (i := o0) h0) hB.1 dX10_put_42 hB.2 (fun σ5 H locs hB hw => ?_)
    refine lv_aload_n hx hb dX10_put_43 rfl (lv_at hl 0 rfl) ?_
    refine xr_getr X hw (xf_X10_9 X) (16 + o0) (xl_A_Timetable_at (i := o0) h0) rfl dX10_put_44 ?_
    refine lv_iload_n hx hb dX10_put_47 rfl (lv_at hl 1 rfl) ?_
    refine lv_iconst (v := (4 : Int32)) hx hb dX10_put_48 (by decide) ?_
    refine lv_imul hx hb dX10_put_49 ?_
    refine lv_iconst (v := (3 : Int32)) hx hb dX10_put_50 (by decide) ?_
    refine lv_iadd hx hb dX10_put_51 ?_
    refine lv_iload hx hb dX10_put_52 (lv_at hl 5 rfl) ?_
    refine xr_iast X hw (66 + o0) (xl_A_Timetable_cells_at (i := o0) h0) hB.1 dX10_put_54 hB.2 (fun σ6 H locs hB hw => ?_)
    exact xr_vret X hw hr hk hB dX10_put_55
set_option maxRecDepth 100000 in
set_option maxHeartbeats 4000000 in
theorem xc_J6_numberOfTrailingZeros_0f7a4 (l : Launch) (D : va_G) (cy : Nat → ClassId) (q : Nat → Nat) (σ : xw_M) (a0 : Int32) {Z : Int32 → xw_M → Prop} (hU : xu_J6_numberOfTrailingZeros_0f7a4 σ a0 Z) : xr_CI l yJ6_numberOfTrailingZeros_0f7a4 cJ6_numberOfTrailingZeros_0f7a4 2 .int { frames := 0, cells := 0, slots := 0, locals := 0 } D cy xl_A q σ [.int a0] Z := by
  refine xr_CI.of RJ6 rfl (by decide) (Nat.le_of_ble_eq_true rfl) (fun p e s m below meth c X hw hr hk ls hl => ?_)
  have hx := X.1
  have hb := X.2.1
  have hl : lv_has ls 2 [(0, .int a0)] := hl
  have hB := hU (fun (σ : xw_M) (v0 : Int32) (v1 : Int32) => ∀ (H : Heap) (locs : List Loc) (ls : Array Slot), xr_H D cy xl_A q s σ H locs → lv_has ls 2 [(0, .int v0), (1, .int v1)] → W p l e ({ frames := 0, cells := 0, slots := 0, locals := 0 } : Room) s m ([.int a0] : List Value).toArray below meth c H locs 0 0 (MQ below (va_Qi Z (xr_po D cy xl_A q) (xw_A xl_A q s.heap.size)) ([.int a0] : List Value).toArray s 0 0 (xw_A xl_A q s.heap.size)) (F0 m 34 ls []))
    (fun (σ : xw_M) (v0 : Int32) (v1 : Int32) => ∀ (H : Heap) (locs : List Loc) (ls : Array Slot), xr_H D cy xl_A q s σ H locs → lv_has ls 2 [(0, .int v0), (1, .int v1)] → W p l e ({ frames := 0, cells := 0, slots := 0, locals := 0 } : Room) s m ([.int a0] : List Value).toArray below meth c H locs 0 0 (MQ below (va_Qi Z (xr_po D cy xl_A q) (xw_A xl_A q s.heap.size)) ([.int a0] : List Value).toArray s 0 0 (xw_A xl_A q s.heap.size)) (F0 m 62 ls []))
    (by
    intro σ v0 v1 hB H locs ls hw hl
    unfold xb_J6_numberOfTrailingZeros_0f7a4_34 at hB
    refine lv_iload_n hx hb dJ6_numberOfTrailingZeros_0f7a4_34 rfl (lv_at hl 0 rfl) ?_
    refine lv_sipush (v := (256 : Int32)) hx hb dJ6_numberOfTrailingZeros_0f7a4_35 (by decide) ?_
    refine lv_icmp_le (tgt := 49) hx hb dJ6_numberOfTrailingZeros_0f7a4_38 (by decide) (fun hc => ?_) (fun hc => ?_)
    · replace hB := hB.1 hc
      refine lv_iload_n hx hb dJ6_numberOfTrailingZeros_0f7a4_49 rfl (lv_at hl 0 rfl) ?_
      refine lv_bipush (v := (16 : Int32)) hx hb dJ6_numberOfTrailingZeros_0f7a4_50 (by decide) ?_
      refine lv_icmp_le (tgt := 62) hx hb dJ6_numberOfTrailingZeros_0f7a4_52 (by decide) (fun hc => ?_) (fun hc => ?_)
      · replace hB := hB.1 hc
        exact hB _ _ _ hw (lv_sub hl [0, 1] rfl)
      · replace hB := hB.2 hc
        refine lv_iinc (v := (v1 + (4 : Int32))) (lv' := [(1, .int (v1 + (4 : Int32))), (0, .int v0)]) hx hb dJ6_numberOfTrailingZeros_0f7a4_55 hl (k := 1) rfl rfl (by decide) rfl (fun ls hl => ?_)
        refine lv_iload_n hx hb dJ6_numberOfTrailingZeros_0f7a4_58 rfl (lv_at hl 1 rfl) ?_
        refine lv_iconst (v := (4 : Int32)) hx hb dJ6_numberOfTrailingZeros_0f7a4_59 (by decide) ?_
        refine lv_iushr (v := (Int32.toUInt32 v0 >>> (Int32.toUInt32 (4 : Int32) &&& Int32.toUInt32 31)).toInt32) hx hb dJ6_numberOfTrailingZeros_0f7a4_60 rfl ?_
        refine lv_topi (fun x3 hx3 => ?_)
        replace hB := hB _ hx3
        refine lv_istore_n (lv' := [(0, .int x3), (1, .int (v1 + (4 : Int32)))]) hx hb dJ6_numberOfTrailingZeros_0f7a4_61 rfl hl (by decide) rfl (fun ls hl => ?_)
        exact hB _ _ _ hw (lv_sub hl [0, 1] rfl)
    · replace hB := hB.2 hc
      refine lv_iinc (v := (v1 + (8 : Int32))) (lv' := [(1, .int (v1 + (8 : Int32))), (0, .int v0)]) hx hb dJ6_numberOfTrailingZeros_0f7a4_41 hl (k := 1) rfl rfl (by decide) rfl (fun ls hl => ?_)
      refine lv_iload_n hx hb dJ6_numberOfTrailingZeros_0f7a4_44 rfl (lv_at hl 1 rfl) ?_
      refine lv_bipush (v := (8 : Int32)) hx hb dJ6_numberOfTrailingZeros_0f7a4_45 (by decide) ?_
      refine lv_iushr (v := (Int32.toUInt32 v0 >>> (Int32.toUInt32 (8 : Int32) &&& Int32.toUInt32 31)).toInt32) hx hb dJ6_numberOfTrailingZeros_0f7a4_47 rfl ?_
      refine lv_topi (fun x4 hx4 => ?_)
      replace hB := hB _ hx4
      refine lv_istore_n (lv' := [(0, .int x4), (1, .int (v1 + (8 : Int32)))]) hx hb dJ6_numberOfTrailingZeros_0f7a4_48 rfl hl (by decide) rfl (fun ls hl => ?_)
      refine lv_iload_n hx hb dJ6_numberOfTrailingZeros_0f7a4_49 rfl (lv_at hl 0 rfl) ?_
      refine lv_bipush (v := (16 : Int32)) hx hb dJ6_numberOfTrailingZeros_0f7a4_50 (by decide) ?_
      refine lv_icmp_le (tgt := 62) hx hb dJ6_numberOfTrailingZeros_0f7a4_52 (by decide) (fun hc => ?_) (fun hc => ?_)
      · replace hB := hB.1 hc
        exact hB _ _ _ hw (lv_sub hl [0, 1] rfl)
      · replace hB := hB.2 hc
        refine lv_iinc (v := ((v1 + (8 : Int32)) + (4 : Int32))) (lv' := [(1, .int ((v1 + (8 : Int32)) + (4 : Int32))), (0, .int x4)]) hx hb dJ6_numberOfTrailingZeros_0f7a4_55 hl (k := 1) rfl rfl (by decide) rfl (fun ls hl => ?_)
        refine lv_iload_n hx hb dJ6_numberOfTrailingZeros_0f7a4_58 rfl (lv_at hl 1 rfl) ?_
        refine lv_iconst (v := (4 : Int32)) hx hb dJ6_numberOfTrailingZeros_0f7a4_59 (by decide) ?_
        refine lv_iushr (v := (Int32.toUInt32 x4 >>> (Int32.toUInt32 (4 : Int32) &&& Int32.toUInt32 31)).toInt32) hx hb dJ6_numberOfTrailingZeros_0f7a4_60 rfl ?_
        refine lv_topi (fun x5 hx5 => ?_)
        replace hB := hB _ hx5
        refine lv_istore_n (lv' := [(0, .int x5), (1, .int ((v1 + (8 : Int32)) + (4 : Int32)))]) hx hb dJ6_numberOfTrailingZeros_0f7a4_61 rfl hl (by decide) rfl (fun ls hl => ?_)
        exact hB _ _ _ hw (lv_sub hl [0, 1] rfl))
    (by
    intro σ v0 v1 hB H locs ls hw hl
    unfold xb_J6_numberOfTrailingZeros_0f7a4_62 at hB
    refine lv_iload_n hx hb dJ6_numberOfTrailingZeros_0f7a4_62 rfl (lv_at hl 0 rfl) ?_
    refine lv_iconst (v := (4 : Int32)) hx hb dJ6_numberOfTrailingZeros_0f7a4_63 (by decide) ?_
    refine lv_icmp_le (tgt := 74) hx hb dJ6_numberOfTrailingZeros_0f7a4_64 (by decide) (fun hc => ?_) (fun hc => ?_)
    · replace hB := hB.1 hc
      refine lv_iload_n hx hb dJ6_numberOfTrailingZeros_0f7a4_74 rfl (lv_at hl 1 rfl) ?_
      refine lv_iload_n hx hb dJ6_numberOfTrailingZeros_0f7a4_75 rfl (lv_at hl 0 rfl) ?_
      refine lv_iconst (v := (1 : Int32)) hx hb dJ6_numberOfTrailingZeros_0f7a4_76 (by decide) ?_
      refine lv_iushr (v := (Int32.toUInt32 v0 >>> (Int32.toUInt32 (1 : Int32) &&& Int32.toUInt32 31)).toInt32) hx hb dJ6_numberOfTrailingZeros_0f7a4_77 rfl ?_
      refine lv_iadd hx hb dJ6_numberOfTrailingZeros_0f7a4_78 ?_
      exact xr_iret X hw hr hk hB dJ6_numberOfTrailingZeros_0f7a4_79
    · replace hB := hB.2 hc
      refine lv_iinc (v := (v1 + (2 : Int32))) (lv' := [(1, .int (v1 + (2 : Int32))), (0, .int v0)]) hx hb dJ6_numberOfTrailingZeros_0f7a4_67 hl (k := 1) rfl rfl (by decide) rfl (fun ls hl => ?_)
      refine lv_iload_n hx hb dJ6_numberOfTrailingZeros_0f7a4_70 rfl (lv_at hl 1 rfl) ?_
      refine lv_iconst (v := (2 : Int32)) hx hb dJ6_numberOfTrailingZeros_0f7a4_71 (by decide) ?_
      refine lv_iushr (v := (Int32.toUInt32 v0 >>> (Int32.toUInt32 (2 : Int32) &&& Int32.toUInt32 31)).toInt32) hx hb dJ6_numberOfTrailingZeros_0f7a4_72 rfl ?_
      refine lv_topi (fun x6 hx6 => ?_)
      replace hB := hB _ hx6
      refine lv_istore_n (lv' := [(0, .int x6), (1, .int (v1 + (2 : Int32)))]) hx hb dJ6_numberOfTrailingZeros_0f7a4_73 rfl hl (by decide) rfl (fun ls hl => ?_)
      refine lv_iload_n hx hb dJ6_numberOfTrailingZeros_0f7a4_74 rfl (lv_at hl 1 rfl) ?_
      refine lv_iload_n hx hb dJ6_numberOfTrailingZeros_0f7a4_75 rfl (lv_at hl 0 rfl) ?_
      refine lv_iconst (v := (1 : Int32)) hx hb dJ6_numberOfTrailingZeros_0f7a4_76 (by decide) ?_
      refine lv_iushr (v := (Int32.toUInt32 x6 >>> (Int32.toUInt32 (1 : Int32) &&& Int32.toUInt32 31)).toInt32) hx hb dJ6_numberOfTrailingZeros_0f7a4_77 rfl ?_
      refine lv_iadd hx hb dJ6_numberOfTrailingZeros_0f7a4_78 ?_
      exact xr_iret X hw hr hk hB dJ6_numberOfTrailingZeros_0f7a4_79)
  unfold xb_J6_numberOfTrailingZeros_0f7a4_e at hB
  refine lv_iload_n hx hb dJ6_numberOfTrailingZeros_0f7a4_0 rfl (lv_at hl 0 rfl) ?_
  refine lv_iconst (v := (-1 : Int32)) hx hb dJ6_numberOfTrailingZeros_0f7a4_1 (by decide) ?_
  refine lv_ixor hx hb dJ6_numberOfTrailingZeros_0f7a4_2 ?_
  refine lv_iload_n hx hb dJ6_numberOfTrailingZeros_0f7a4_3 rfl (lv_at hl 0 rfl) ?_
  refine lv_iconst (v := (1 : Int32)) hx hb dJ6_numberOfTrailingZeros_0f7a4_4 (by decide) ?_
  refine lv_isub hx hb dJ6_numberOfTrailingZeros_0f7a4_5 ?_
  refine lv_iand hx hb dJ6_numberOfTrailingZeros_0f7a4_6 ?_
  refine lv_topi (fun x1 hx1 => ?_)
  replace hB := hB _ hx1
  refine lv_istore_n (lv' := [(0, .int x1)]) hx hb dJ6_numberOfTrailingZeros_0f7a4_7 rfl hl (by decide) rfl (fun ls hl => ?_)
  refine lv_iload_n hx hb dJ6_numberOfTrailingZeros_0f7a4_8 rfl (lv_at hl 0 rfl) ?_
  refine lv_if_gt (tgt := 17) hx hb dJ6_numberOfTrailingZeros_0f7a4_9 (by decide) (fun hc => ?_) (fun hc => ?_)
  · replace hB := hB.1 hc
    refine lv_iconst (v := (1 : Int32)) hx hb dJ6_numberOfTrailingZeros_0f7a4_17 (by decide) ?_
    refine lv_istore_n (lv' := [(1, .int (1 : Int32)), (0, .int x1)]) hx hb dJ6_numberOfTrailingZeros_0f7a4_18 rfl hl (by decide) rfl (fun ls hl => ?_)
    refine lv_iload_n hx hb dJ6_numberOfTrailingZeros_0f7a4_19 rfl (lv_at hl 1 rfl) ?_
    refine lv_ldcw (v := (65536 : Int32)) hx hb X.2.2.2.1 (X.2.2.2.2.1 _ xt_4_37) dJ6_numberOfTrailingZeros_0f7a4_20 ?_
    refine lv_icmp_le (tgt := 34) hx hb dJ6_numberOfTrailingZeros_0f7a4_23 (by decide) (fun hc => ?_) (fun hc => ?_)
    · replace hB := hB.1 hc
      exact hB _ _ _ hw (lv_sub hl [1, 0] rfl)
    · replace hB := hB.2 hc
      refine lv_iinc (v := ((1 : Int32) + (16 : Int32))) (lv' := [(1, .int ((1 : Int32) + (16 : Int32))), (0, .int x1)]) hx hb dJ6_numberOfTrailingZeros_0f7a4_26 hl (k := 0) rfl rfl (by decide) rfl (fun ls hl => ?_)
      refine lv_iload_n hx hb dJ6_numberOfTrailingZeros_0f7a4_29 rfl (lv_at hl 1 rfl) ?_
      refine lv_bipush (v := (16 : Int32)) hx hb dJ6_numberOfTrailingZeros_0f7a4_30 (by decide) ?_
      refine lv_iushr (v := (Int32.toUInt32 x1 >>> (Int32.toUInt32 (16 : Int32) &&& Int32.toUInt32 31)).toInt32) hx hb dJ6_numberOfTrailingZeros_0f7a4_32 rfl ?_
      refine lv_topi (fun x2 hx2 => ?_)
      replace hB := hB _ hx2
      refine lv_istore_n (lv' := [(0, .int x2), (1, .int ((1 : Int32) + (16 : Int32)))]) hx hb dJ6_numberOfTrailingZeros_0f7a4_33 rfl hl (by decide) rfl (fun ls hl => ?_)
      exact hB _ _ _ hw (lv_sub hl [0, 1] rfl)
  · replace hB := hB.2 hc
    refine lv_iload_n hx hb dJ6_numberOfTrailingZeros_0f7a4_12 rfl (lv_at hl 0 rfl) ?_
    refine lv_bipush (v := (32 : Int32)) hx hb dJ6_numberOfTrailingZeros_0f7a4_13 (by decide) ?_
    refine lv_iand hx hb dJ6_numberOfTrailingZeros_0f7a4_15 ?_
    exact xr_iret X hw hr hk hB dJ6_numberOfTrailingZeros_0f7a4_16
