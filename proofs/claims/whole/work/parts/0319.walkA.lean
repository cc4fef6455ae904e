theorem xf_X0_23 {p : Program} {s : State} {m : MethodId} {args : Array Value} {c : Code} {cc : ByteArray} {nL : Nat} {D : va_G} {cy : Nat → ClassId} {lay : List xw_E} {q : Nat → Nat} (X : xr_X p s m args c cc nL RX0 D cy lay q) : xr_F args s RX0 23 0 2 := ⟨RX0, TX0, 4, tyX0, rfl, by decide, fun w h => X.2.2.2.2.1 w (xt_inX0 w h), tyX0_ok, nmX0, Or.inl (X.2.2.2.2.1 _ xt_2_3)⟩
theorem xm_X1_daysSinceOwned : xr_MW yX1_daysSinceOwned cX1_daysSinceOwned 8 (some .int) 4 := ⟨xt_3_239, xt_1_7, by decide, by decide, by decide +kernel⟩
set_option maxRecDepth 100000 in
set_option maxHeartbeats 4000000 in
theorem xc_X0_firstBar (l : Launch) (D : va_G) (cy : Nat → ClassId) (q : Nat → Nat) (σ : xw_M) (a1 : Int32) (o2 : Nat) (a3 : Int32) (a4 : Int32) (h2 : o2 < 5) {Z : Int32 → xw_M → Prop} (hU : xu_X0_firstBar σ a1 o2 a3 a4 Z) : xr_CI l yX0_firstBar cX0_firstBar 7 .int { frames := 3, cells := 0, slots := 0, locals := 77 } D cy xl_A q σ [.ref (q 6), .int a1, .ref (q (11 + o2)), .int a3, .int a4] Z := by
  refine xr_CI.of RX0 rfl (by decide) (Nat.le_of_ble_eq_true rfl) (fun p e s m below meth c X hw hr hk ls hl => ?_)
  have hx := X.1
  have hb := X.2.1
  have hl : lv_has ls 7 [(0, .ref (q 6)), (1, .int a1), (2, .ref (q (11 + o2))), (3, .int a3), (4, .int a4)] := hl
  have hB := hU (fun (σ : xw_M) (s0 : Int32) (s1 : Int32) (v6 : Int32) => ∀ (H : Heap) (locs : List Loc) (ls : Array Slot), xr_H D cy xl_A q s σ H locs → lv_has ls 7 [(0, .ref (q 6)), (1, .int a1), (2, .ref (q (11 + o2))), (3, .int a3), (4, .int a4), (6, .int v6)] → W p l e ({ frames := 3, cells := 0, slots := 0, locals := 77 } : Room) s m ([.ref (q 6), .int a1, .ref (q (11 + o2)), .int a3, .int a4] : List Value).toArray below meth c H locs 0 0 (MQ below (va_Qi Z (xr_po D cy xl_A q) (xw_A xl_A q s.heap.size)) ([.ref (q 6), .int a1, .ref (q (11 + o2)), .int a3, .int a4] : List Value).toArray s 0 0 (xw_A xl_A q s.heap.size)) (F0 m 48 ls [.int s1, .int s0, .ref (q 44)]))
    (fun (σ : xw_M) (s0 : Int32) (s1 : Int32) => ∀ (H : Heap) (locs : List Loc) (ls : Array Slot), xr_H D cy xl_A q s σ H locs → lv_has ls 7 [(0, .ref (q 6)), (1, .int a1), (2, .ref (q (11 + o2))), (3, .int a3), (4, .int a4)] → W p l e ({ frames := 3, cells := 0, slots := 0, locals := 77 } : Room) s m ([.ref (q 6), .int a1, .ref (q (11 + o2)), .int a3, .int a4] : List Value).toArray below meth c H locs 0 0 (MQ below (va_Qi Z (xr_po D cy xl_A q) (xw_A xl_A q s.heap.size)) ([.ref (q 6), .int a1, .ref (q (11 + o2)), .int a3, .int a4] : List Value).toArray s 0 0 (xw_A xl_A q s.heap.size)) (F0 m 73 ls [.int s1, .int s0, .ref (q 44)]))
    (by
    intro σ s0 s1 v6 hB H locs ls hw hl
    unfold xb_X0_firstBar_48 at hB
    refine xr_iast X hw 44 xl_A_Club_vars_at hB.1 dX0_firstBar_48 hB.2 (fun σ6 H locs hB hw => ?_)
    refine lv_aload_n hx hb dX0_firstBar_49 rfl (lv_at hl 0 rfl) ?_
    refine xr_getr X hw (xf_X0_9 X) 6 xl_A_Club_at rfl dX0_firstBar_50 ?_
    refine lv_bipush (v := (6 : Int32)) hx hb dX0_firstBar_53 (by decide) ?_
    refine lv_aload_n hx hb dX0_firstBar_55 rfl (lv_at hl 0 rfl) ?_
    refine xr_getr X hw (xf_X0_19 X) 6 xl_A_Club_at rfl dX0_firstBar_56 ?_
    refine lv_iload hx hb dX0_firstBar_59 (lv_at hl 5 rfl) ?_
    refine lv_iload_n hx hb dX0_firstBar_61 rfl (lv_at hl 1 rfl) ?_
    refine xr_i hw (xr_runV (As := [.int v6, .int a1]) (rest := [.int (6 : Int32), .ref (q 44)]) X hw 4 (xc_X2_areKin l D cy q σ6 v6 a1 hB _) xm_X2_areKin xt_3_235 xt_3_84 xt_3_85 ⟨Nat.le_of_ble_eq_true rfl, Nat.le_of_ble_eq_true rfl⟩ xl_A_Kennel_at rfl rfl rfl rfl hl.1 (Nat.le_of_ble_eq_true rfl) dX0_firstBar_62 ⟨Nat.zero_le _, Nat.zero_le _⟩) (fun r8 σ7 H locs hB hw => ?_)
    refine lv_if_eq (tgt := 72) hx hb dX0_firstBar_65 (by decide) (fun hc => ?_) (fun hc => ?_)
    · replace hB := hB.1 hc
      refine lv_iconst (v := (0 : Int32)) hx hb dX0_firstBar_72 (by decide) ?_
      exact hB _ _ _ hw (lv_sub hl [0, 1, 2, 3, 4] rfl)
    · replace hB := hB.2 hc
      refine lv_iconst (v := (1 : Int32)) hx hb dX0_firstBar_68 (by decide) ?_
      refine lv_goto (tgt := 73) hx hb dX0_firstBar_69 (by decide) ?_
      exact hB _ _ _ hw (lv_sub hl [0, 1, 2, 3, 4] rfl))
    (by
    intro σ s0 s1 hB H locs ls hw hl
    unfold xb_X0_firstBar_73 at hB
    refine xr_iast X hw 44 xl_A_Club_vars_at hB.1 dX0_firstBar_73 hB.2 (fun σ9 H locs hB hw => ?_)
    refine lv_aload_n hx hb dX0_firstBar_74 rfl (lv_at hl 0 rfl) ?_
    refine xr_getr X hw (xf_X0_9 X) 6 xl_A_Club_at rfl dX0_firstBar_75 ?_
    refine lv_bipush (v := (7 : Int32)) hx hb dX0_firstBar_78 (by decide) ?_
    refine lv_aload_n hx hb dX0_firstBar_80 rfl (lv_at hl 0 rfl) ?_
    refine xr_getr X hw (xf_X0_23 X) 6 xl_A_Club_at rfl dX0_firstBar_81 ?_
    refine lv_iload_n hx hb dX0_firstBar_84 rfl (lv_at hl 1 rfl) ?_
    refine lv_iload_n hx hb dX0_firstBar_85 rfl (lv_at hl 3 rfl) ?_
    refine lv_aload_n hx hb dX0_firstBar_86 rfl (lv_at hl 2 rfl) ?_
    refine xr_geti X hw (xf_X0_40 X) (11 + o2) (xl_A_Show_at (i := o2) h2) rfl dX0_firstBar_87 ?_
    refine lv_iload hx hb dX0_firstBar_90 (lv_at hl 4 rfl) ?_
    refine xr_i hw (xr_runV (As := [.int a1, .int a3, .int (σ9.1 (11 + o2) 2), .int a4]) (rest := [.int (7 : Int32), .ref (q 44)]) X hw 5 (xc_X1_daysSinceOwned l D cy q σ9 a1 a3 (σ9.1 (11 + o2) 2) a4 hB _) xm_X1_daysSinceOwned xt_3_236 xt_3_237 xt_3_238 ⟨Nat.le_of_ble_eq_true rfl, Nat.le_of_ble_eq_true rfl⟩ xl_A_Facts_at rfl rfl rfl rfl hl.1 (Nat.le_of_ble_eq_true rfl) dX0_firstBar_92 ⟨Nat.zero_le _, Nat.zero_le _⟩) (fun r11 σ10 H locs hB hw => ?_)
    refine xr_iast X hw 44 xl_A_Club_vars_at hB.1 dX0_firstBar_95 hB.2 (fun σ12 H locs hB hw => ?_)
    refine lv_aload_n hx hb dX0_firstBar_96 rfl (lv_at hl 0 rfl) ?_
    refine xr_getr X hw (xf_X0_15 X) 6 xl_A_Club_at rfl dX0_firstBar_97 ?_
    refine lv_bipush (v := (9 : Int32)) hx hb dX0_firstBar_100 (by decide) ?_
    refine lv_aload_n hx hb dX0_firstBar_102 rfl (lv_at hl 0 rfl) ?_
    refine xr_getr X hw (xf_X0_9 X) 6 xl_A_Club_at rfl dX0_firstBar_103 ?_
    refine xr_i hw (xr_runV (As := [.int (9 : Int32), .ref (q 44)]) (rest := []) X hw 9 (xc_X9_firstHolding l D cy q σ12 0 (9 : Int32) (by decide) hB _) xm_X9_firstHolding xt_3_152 xt_3_153 xt_3_154 ⟨Nat.le_of_ble_eq_true rfl, Nat.le_of_ble_eq_true rfl⟩ (xl_A_Text_at (i := 0) (by decide)) rfl rfl rfl rfl hl.1 (Nat.le_of_ble_eq_true rfl) dX0_firstBar_106 ⟨Nat.zero_le _, Nat.zero_le _⟩) (fun r14 σ13 H locs hB hw => ?_)
    exact xr_iret X hw hr hk hB dX0_firstBar_109)
  unfold xb_X0_firstBar_e at hB
  refine lv_aload_n hx hb dX0_firstBar_0 rfl (lv_at hl 0 rfl) ?_
  refine lv_aload_n hx hb dX0_firstBar_1 rfl (lv_at hl 2 rfl) ?_
  refine lv_iload_n hx hb dX0_firstBar_2 rfl (lv_at hl 3 rfl) ?_
  refine xr_i hw (xr_runV (As := [.ref (q (11 + o2)), .int a3]) (rest := []) X hw 6 (xc_X0_classOf l D cy q σ o2 a3 h2 hB _) xm_X0_classOf xt_3_222 xt_3_145 xt_3_146 ⟨Nat.le_of_ble_eq_true rfl, Nat.le_of_ble_eq_true rfl⟩ xl_A_Club_at rfl rfl rfl rfl hl.1 (Nat.le_of_ble_eq_true rfl) dX0_firstBar_3 ⟨Nat.zero_le _, Nat.zero_le _⟩) (fun r2 σ1 H locs hB hw => ?_)
  refine lv_istore (lv' := [(5, .int r2), (0, .ref (q 6)), (1, .int a1), (2, .ref (q (11 + o2))), (3, .int a3), (4, .int a4)]) hx hb dX0_firstBar_6 hl (by decide) rfl (fun ls hl => ?_)
  refine lv_aload_n hx hb dX0_firstBar_8 rfl (lv_at hl 1 rfl) ?_
  refine xr_getr X hw (xf_X0_23 X) 6 xl_A_Club_at rfl dX0_firstBar_9 ?_
  refine lv_iload_n hx hb dX0_firstBar_12 rfl (lv_at hl 4 rfl) ?_
  refine lv_aload_n hx hb dX0_firstBar_13 rfl (lv_at hl 3 rfl) ?_
  refine xr_geti X hw (xf_X0_40 X) (11 + o2) (xl_A_Show_at (i := o2) h2) rfl dX0_firstBar_14 ?_
  refine lv_iload hx hb dX0_firstBar_17 (lv_at hl 5 rfl) ?_
  refine xr_i hw (xr_runV (As := [.int a3, .int (σ1.1 (11 + o2) 2), .int a4]) (rest := []) X hw 5 (xc_X1_ownerOn l D cy q σ1 a3 (σ1.1 (11 + o2) 2) a4 hB _) xm_X1_ownerOn xt_3_223 xt_3_224 xt_3_225 ⟨Nat.le_of_ble_eq_true rfl, Nat.le_of_ble_eq_true rfl⟩ xl_A_Facts_at rfl rfl rfl rfl hl.1 (Nat.le_of_ble_eq_true rfl) dX0_firstBar_19 ⟨Nat.zero_le _, Nat.zero_le _⟩) (fun r4 σ3 H locs hB hw => ?_)
  refine lv_istore (lv' := [(6, .int r4), (5, .int r2), (0, .ref (q 6)), (1, .int a1), (2, .ref (q (11 + o2))), (3, .int a3), (4, .int a4)]) hx hb dX0_firstBar_22 hl (by decide) rfl (fun ls hl => ?_)
  refine lv_aload_n hx hb dX0_firstBar_24 rfl (lv_at hl 2 rfl) ?_
  refine xr_getr X hw (xf_X0_9 X) 6 xl_A_Club_at rfl dX0_firstBar_25 ?_
  refine lv_iconst (v := (4 : Int32)) hx hb dX0_firstBar_28 (by decide) ?_
  refine lv_iload hx hb dX0_firstBar_29 (lv_at hl 1 rfl) ?_
  refine xr_iast X hw 44 xl_A_Club_vars_at hB.1 dX0_firstBar_31 hB.2 (fun σ5 H locs hB hw => ?_)
  refine lv_aload_n hx hb dX0_firstBar_32 rfl (lv_at hl 2 rfl) ?_
  refine xr_getr X hw (xf_X0_9 X) 6 xl_A_Club_at rfl dX0_firstBar_33 ?_
  refine lv_iconst (v := (5 : Int32)) hx hb dX0_firstBar_36 (by decide) ?_
  refine lv_iload hx hb dX0_firstBar_37 (lv_at hl 0 rfl) ?_
  refine lv_iload_n hx hb dX0_firstBar_39 rfl (lv_at hl 3 rfl) ?_
  refine lv_icmp_ne (tgt := 47) hx hb dX0_firstBar_40 (by decide) (fun hc => ?_) (fun hc => ?_)
  · replace hB := hB.1 hc
    refine lv_iconst (v := (0 : Int32)) hx hb dX0_firstBar_47 (by decide) ?_
    exact hB _ _ _ hw (lv_sub hl [2, 3, 4, 5, 6, 0] rfl)
  · replace hB := hB.2 hc
    refine lv_iconst (v := (1 : Int32)) hx hb dX0_firstBar_43 (by decide) ?_
    refine lv_goto (tgt := 48) hx hb dX0_firstBar_44 (by decide) ?_
    exact hB _ _ _ hw (lv_sub hl [2, 3, 4, 5, 6, 0] rfl)
theorem xf_X4_41 {p : Program} {s : State} {m : MethodId} {args : Array Value} {c : Code} {cc : ByteArray} {nL : Nat} {D : va_G} {cy : Nat → ClassId} {lay : List xw_E} {q : Nat → Nat} (X : xr_X p s m args c cc nL RX4 D cy lay q) : xr_F args s RX4 41 4 0 := ⟨RX4, TX4, 10, tyX4, rfl, by decide, fun w h => X.2.2.2.2.1 w (xt_inX4 w h), tyX4_ok, nmX4, Or.inl (X.2.2.2.2.1 _ xt_2_34)⟩
theorem xf_X4_87 {p : Program} {s : State} {m : MethodId} {args : Array Value} {c : Code} {cc : ByteArray} {nL : Nat} {D : va_G} {cy : Nat → ClassId} {lay : List xw_E} {q : Nat → Nat} (X : xr_X p s m args c cc nL RX4 D cy lay q) : xr_F args s RX4 87 2 1 := ⟨RX2, TX2, 13, tyX2, rfl, by decide, fun w h => X.2.2.2.2.1 w (xt_inX2 w h), tyX2_ok, nmX2, Or.inr (va_Nw.use rfl (X.2.2.2.2.2.1.1 _ (List.mem_of_getElem? (i := 15) rfl)))⟩
theorem xf_X4_90 {p : Program} {s : State} {m : MethodId} {args : Array Value} {c : Code} {cc : ByteArray} {nL : Nat} {D : va_G} {cy : Nat → ClassId} {lay : List xw_E} {q : Nat → Nat} (X : xr_X p s m args c cc nL RX4 D cy lay q) : xr_F args s RX4 90 2 12 := ⟨RX2, TX2, 13, tyX2, rfl, by decide, fun w h => X.2.2.2.2.1 w (xt_inX2 w h), tyX2_ok, nmX2, Or.inr (va_Nw.use rfl (X.2.2.2.2.2.1.1 _ (List.mem_of_getElem? (i := 29) rfl)))⟩
theorem xf_X4_45 {p : Program} {s : State} {m : MethodId} {args : Array Value} {c : Code} {cc : ByteArray} {nL : Nat} {D : va_G} {cy : Nat → ClassId} {lay : List xw_E} {q : Nat → Nat} (X : xr_X p s m args c cc nL RX4 D cy lay q) : xr_F args s RX4 45 4 1 := ⟨RX4, TX4, 10, tyX4, rfl, by decide, fun w h => X.2.2.2.2.1 w (xt_inX4 w h), tyX4_ok, nmX4, Or.inl (X.2.2.2.2.1 _ xt_2_35)⟩
theorem xm_X0_firstBar : xr_MW yX0_firstBar cX0_firstBar 7 (some .int) 4 := ⟨xt_3_221, xt_1_8, by decide, by decide, by decide +kernel⟩
set_option maxRecDepth 100000 in
set_option maxHeartbeats 4000000 in
theorem xc_X4_judgesFor (l : Launch) (D : va_G) (cy : Nat → ClassId) (q : Nat → Nat) (σ : xw_M) (o1 : Nat) (a2 : Int32) (a3 : Int32) (a4 : Int32) (h1 : o1 < 5) {Z : Int32 → xw_M → Prop} (hU : xu_X4_judgesFor σ o1 a2 a3 a4 Z) : xr_CI l yX4_judgesFor cX4_judgesFor 9 .int { frames := 4, cells := 0, slots := 0, locals := 103 } D cy xl_A q σ [.ref (q 7), .ref (q (11 + o1)), .int a2, .int a3, .int a4] Z := by
  refine xr_CI.of RX4 rfl (by decide) (Nat.le_of_ble_eq_true rfl) (fun p e s m below meth c X hw hr hk ls hl => ?_)
  have hx := X.1
  have hb := X.2.1
  have hl : lv_has ls 9 [(0, .ref (q 7)), (1, .ref (q (11 + o1))), (2, .int a2), (3, .int a3), (4, .int a4)] := hl
  have hB := hU (fun (σ : xw_M) (v5 : Int32) (v6 : Int32) => ∀ (H : Heap) (locs : List Loc) (ls : Array Slot), xr_H D cy xl_A q s σ H locs → lv_has ls 9 [(0, .ref (q 7)), (1, .ref (q (11 + o1))), (2, .int a2), (3, .int a3), (4, .int a4), (5, .int v5), (6, .int v6)] → W p l e ({ frames := 4, cells := 0, slots := 0, locals := 103 } : Room) s m ([.ref (q 7), .ref (q (11 + o1)), .int a2, .int a3, .int a4] : List Value).toArray below meth c H locs 0 0 (MQ below (va_Qi Z (xr_po D cy xl_A q) (xw_A xl_A q s.heap.size)) ([.ref (q 7), .ref (q (11 + o1)), .int a2, .int a3, .int a4] : List Value).toArray s 0 0 (xw_A xl_A q s.heap.size)) (F0 m 6 ls []))
    (fun (σ : xw_M) (v5 : Int32) (v6 : Int32) (v7 : Int32) (v8 : Int32) => ∀ (H : Heap) (locs : List Loc) (ls : Array Slot), xr_H D cy xl_A q s σ H locs → lv_has ls 9 [(0, .ref (q 7)), (1, .ref (q (11 + o1))), (2, .int a2), (3, .int a3), (4, .int a4), (5, .int v5), (6, .int v6), (7, .int v7), (8, .int v8)] → W p l e ({ frames := 4, cells := 0, slots := 0, locals := 103 } : Room) s m ([.ref (q 7), .ref (q (11 + o1)), .int a2, .int a3, .int a4] : List Value).toArray below meth c H locs 0 0 (MQ below (va_Qi Z (xr_po D cy xl_A q) (xw_A xl_A q s.heap.size)) ([.ref (q 7), .ref (q (11 + o1)), .int a2, .int a3, .int a4] : List Value).toArray s 0 0 (xw_A xl_A q s.heap.size)) (F0 m 41 ls []))
    (fun (σ : xw_M) (v5 : Int32) (v6 : Int32) (v7 : Int32) => ∀ (H : Heap) (locs : List Loc) (ls : Array Slot), xr_H D cy xl_A q s σ H locs → lv_has ls 9 [(0, .ref (q 7)), (1, .ref (q (11 + o1))), (2, .int a2), (3, .int a3), (4, .int a4), (5, .int v5), (6, .int v6), (7, .int v7)] → W p l e ({ frames := 4, cells := 0, slots := 0, locals := 103 } : Room) s m ([.ref (q 7), .ref (q (11 + o1)), .int a2, .int a3, .int a4] : List Value).toArray below meth c H locs 0 0 (MQ below (va_Qi Z (xr_po D cy xl_A q) (xw_A xl_A q s.heap.size)) ([.ref (q 7), .ref (q (11 + o1)), .int a2, .int a3, .int a4] : List Value).toArray s 0 0 (xw_A xl_A q s.heap.size)) (F0 m 98 ls []))
    (by
    intro σ v5 v6 hB H locs ls hw hl
    unfold xb_X4_judgesFor_6 at hB
    refine lv_iload hx hb dX4_judgesFor_6 (lv_at hl 6 rfl) ?_
    refine lv_bipush (v := (12 : Int32)) hx hb dX4_judgesFor_8 (by decide) ?_
    refine lv_icmp_ge (tgt := 122) hx hb dX4_judgesFor_10 (by decide) (fun hc => ?_) (fun hc => ?_)
    · replace hB := hB.1 hc
      refine lv_iload hx hb dX4_judgesFor_122 (lv_at hl 5 rfl) ?_
      exact xr_iret X hw hr hk hB dX4_judgesFor_124
    · replace hB := hB.2 hc
      refine lv_aload_n hx hb dX4_judgesFor_13 rfl (lv_at hl 0 rfl) ?_
      refine xr_getr X hw (xf_X4_41 X) 7 xl_A_Planner_at rfl dX4_judgesFor_14 ?_
      refine xr_getr X hw (xf_X4_87 X) 4 xl_A_Kennel_at rfl dX4_judgesFor_17 ?_
      refine lv_iload hx hb dX4_judgesFor_20 (lv_at hl 6 rfl) ?_
      refine xr_iald X hw 29 xl_A_Kennel_permits_at hB.1 dX4_judgesFor_22 ?_
      replace hB := hB.2
      refine lv_iload_n hx hb dX4_judgesFor_23 rfl (lv_at hl 2 rfl) ?_
      refine lv_ishr hx hb dX4_judgesFor_24 ?_
      refine lv_iconst (v := (1 : Int32)) hx hb dX4_judgesFor_25 (by decide) ?_
      refine lv_iand hx hb dX4_judgesFor_26 ?_
      refine lv_iconst (v := (1 : Int32)) hx hb dX4_judgesFor_27 (by decide) ?_
      refine lv_icmp_ne (tgt := 35) hx hb dX4_judgesFor_28 (by decide) (fun hc => ?_) (fun hc => ?_)
      · replace hB := hB.1 hc
        refine lv_iconst (v := (0 : Int32)) hx hb dX4_judgesFor_35 (by decide) ?_
        refine lv_istore (lv' := [(7, .int (0 : Int32)), (0, .ref (q 7)), (1, .ref (q (11 + o1))), (2, .int a2), (3, .int a3), (4, .int a4), (5, .int v5), (6, .int v6)]) hx hb dX4_judgesFor_36 hl (by decide) rfl (fun ls hl => ?_)
        refine lv_iconst (v := (0 : Int32)) hx hb dX4_judgesFor_38 (by decide) ?_
        refine lv_istore (lv' := [(8, .int (0 : Int32)), (7, .int (0 : Int32)), (0, .ref (q 7)), (1, .ref (q (11 + o1))), (2, .int a2), (3, .int a3), (4, .int a4), (5, .int v5), (6, .int v6)]) hx hb dX4_judgesFor_39 hl (by decide) rfl (fun ls hl => ?_)
        exact hB _ _ _ hw (lv_sub hl [2, 3, 4, 5, 6, 7, 8, 1, 0] rfl)
      · replace hB := hB.2 hc
        refine lv_iconst (v := (1 : Int32)) hx hb dX4_judgesFor_31 (by decide) ?_
        refine lv_goto (tgt := 36) hx hb dX4_judgesFor_32 (by decide) ?_
        refine lv_istore (lv' := [(7, .int (1 : Int32)), (0, .ref (q 7)), (1, .ref (q (11 + o1))), (2, .int a2), (3, .int a3), (4, .int a4), (5, .int v5), (6, .int v6)]) hx hb dX4_judgesFor_36 hl (by decide) rfl (fun ls hl => ?_)
        refine lv_iconst (v := (0 : Int32)) hx hb dX4_judgesFor_38 (by decide) ?_
        refine lv_istore (lv' := [(8, .int (0 : Int32)), (7, .int (1 : Int32)), (0, .ref (q 7)), (1, .ref (q (11 + o1))), (2, .int a2), (3, .int a3), (4, .int a4), (5, .int v5), (6, .int v6)]) hx hb dX4_judgesFor_39 hl (by decide) rfl (fun ls hl => ?_)
        exact hB _ _ _ hw (lv_sub hl [2, 3, 4, 5, 6, 7, 8, 1, 0] rfl))
    (by
    intro σ v5 v6 v7 v8 hB H locs ls hw hl
    unfold xb_X4_judgesFor_41 at hB
    refine lv_iload hx hb dX4_judgesFor_41 (lv_at hl 8 rfl) ?_
    refine lv_aload_n hx hb dX4_judgesFor_43 rfl (lv_at hl 0 rfl) ?_
    refine xr_getr X hw (xf_X4_41 X) 7 xl_A_Planner_at rfl dX4_judgesFor_44 ?_
    refine xr_geti X hw (xf_X4_90 X) 4 xl_A_Kennel_at rfl dX4_judgesFor_47 ?_
    refine lv_icmp_ge (tgt := 98) hx hb dX4_judgesFor_50 (by decide) (fun hc => ?_) (fun hc => ?_)
    · replace hB := hB.1 hc
      exact hB _ _ _ hw (lv_sub hl [0, 1, 2, 3, 4, 5, 6, 7] rfl)
    · replace hB := hB.2 hc
      refine lv_iload hx hb dX4_judgesFor_53 (lv_at hl 7 rfl) ?_
      refine lv_if_eq (tgt := 98) hx hb dX4_judgesFor_55 (by decide) (fun hc => ?_) (fun hc => ?_)
      · replace hB := hB.1 hc
        exact hB _ _ _ hw (lv_sub hl [0, 1, 2, 3, 4, 5, 6, 7] rfl)
      · replace hB := hB.2 hc
        refine lv_iload_n hx hb dX4_judgesFor_58 rfl (lv_at hl 3 rfl) ?_
        refine lv_iload hx hb dX4_judgesFor_59 (lv_at hl 8 rfl) ?_
        refine lv_ishr hx hb dX4_judgesFor_61 ?_
        refine lv_iconst (v := (1 : Int32)) hx hb dX4_judgesFor_62 (by decide) ?_
        refine lv_iand hx hb dX4_judgesFor_63 ?_
        refine lv_if_eq (tgt := 85) hx hb dX4_judgesFor_64 (by decide) (fun hc => ?_) (fun hc => ?_)
        · replace hB := hB.1 hc
          refine lv_iconst (v := (1 : Int32)) hx hb dX4_judgesFor_85 (by decide) ?_
          refine lv_goto (tgt := 90) hx hb dX4_judgesFor_86 (by decide) ?_
          refine lv_istore (lv' := [(7, .int (1 : Int32)), (0, .ref (q 7)), (1, .ref (q (11 + o1))), (2, .int a2), (3, .int a3), (4, .int a4), (5, .int v5), (6, .int v6), (8, .int v8)]) hx hb dX4_judgesFor_90 hl (by decide) rfl (fun ls hl => ?_)
          refine lv_iinc (v := (v8 + (1 : Int32))) (lv' := [(8, .int (v8 + (1 : Int32))), (7, .int (1 : Int32)), (0, .ref (q 7)), (1, .ref (q (11 + o1))), (2, .int a2), (3, .int a3), (4, .int a4), (5, .int v5), (6, .int v6)]) hx hb dX4_judgesFor_92 hl (k := 8) rfl rfl (by decide) rfl (fun ls hl => ?_)
          refine lv_goto (tgt := 41) hx hb dX4_judgesFor_95 (by decide) ?_
          exact hB _ _ _ hw (lv_sub hl [2, 3, 4, 5, 6, 7, 8, 1, 0] rfl)
        · replace hB := hB.2 hc
          refine lv_aload_n hx hb dX4_judgesFor_67 rfl (lv_at hl 0 rfl) ?_
          refine xr_getr X hw (xf_X4_45 X) 7 xl_A_Planner_at rfl dX4_judgesFor_68 ?_
          refine lv_iload hx hb dX4_judgesFor_71 (lv_at hl 6 rfl) ?_
          refine lv_aload_n hx hb dX4_judgesFor_73 rfl (lv_at hl 1 rfl) ?_
          refine lv_iload hx hb dX4_judgesFor_74 (lv_at hl 8 rfl) ?_
          refine lv_iload hx hb dX4_judgesFor_76 (lv_at hl 4 rfl) ?_
          refine xr_i hw (xr_runV (As := [.int v6, .ref (q (11 + o1)), .int v8, .int a4]) (rest := []) X hw 6 (xc_X0_firstBar l D cy q σ v6 o1 v8 a4 h1 hB _) xm_X0_firstBar xt_3_218 xt_3_219 xt_3_220 ⟨Nat.le_of_ble_eq_true rfl, Nat.le_of_ble_eq_true rfl⟩ xl_A_Club_at rfl rfl rfl rfl hl.1 (Nat.le_of_ble_eq_true rfl) dX4_judgesFor_78 ⟨Nat.zero_le _, Nat.zero_le _⟩) (fun r2 σ1 H locs hB hw => ?_)
          refine lv_iconst (v := (-1 : Int32)) hx hb dX4_judgesFor_81 (by decide) ?_
          refine lv_icmp_ne (tgt := 89) hx hb dX4_judgesFor_82 (by decide) (fun hc => ?_) (fun hc => ?_)
          · replace hB := hB.1 hc
            refine lv_iconst (v := (0 : Int32)) hx hb dX4_judgesFor_89 (by decide) ?_
            refine lv_istore (lv' := [(7, .int (0 : Int32)), (0, .ref (q 7)), (1, .ref (q (11 + o1))), (2, .int a2), (3, .int a3), (4, .int a4), (5, .int v5), (6, .int v6), (8, .int v8)]) hx hb dX4_judgesFor_90 hl (by decide) rfl (fun ls hl => ?_)
            refine lv_iinc (v := (v8 + (1 : Int32))) (lv' := [(8, .int (v8 + (1 : Int32))), (7, .int (0 : Int32)), (0, .ref (q 7)), (1, .ref (q (11 + o1))), (2, .int a2), (3, .int a3), (4, .int a4), (5, .int v5), (6, .int v6)]) hx hb dX4_judgesFor_92 hl (k := 8) rfl rfl (by decide) rfl (fun ls hl => ?_)
            refine lv_goto (tgt := 41) hx hb dX4_judgesFor_95 (by decide) ?_
            exact hB _ _ _ hw (lv_sub hl [2, 3, 4, 5, 6, 7, 8, 1, 0] rfl)
          · replace hB := hB.2 hc
            refine lv_iconst (v := (1 : Int32)) hx hb dX4_judgesFor_85 (by decide) ?_
            refine lv_goto (tgt := 90) hx hb dX4_judgesFor_86 (by decide) ?_
            refine lv_istore (lv' := [(7, .int (1 : Int32)), (0, .ref (q 7)), (1, .ref (q (11 + o1))), (2, .int a2), (3, .int a3), (4, .int a4), (5, .int v5), (6, .int v6), (8, .int v8)]) hx hb dX4_judgesFor_90 hl (by decide) rfl (fun ls hl => ?_)
            refine lv_iinc (v := (v8 + (1 : Int32))) (lv' := [(8, .int (v8 + (1 : Int32))), (7, .int (1 : Int32)), (0, .ref (q 7)), (1, .ref (q (11 + o1))), (2, .int a2), (3, .int a3), (4, .int a4), (5, .int v5), (6, .int v6)]) hx hb dX4_judgesFor_92 hl (k := 8) rfl rfl (by decide) rfl (fun ls hl => ?_)
            refine lv_goto (tgt := 41) hx hb dX4_judgesFor_95 (by decide) ?_
            exact hB _ _ _ hw (lv_sub hl [2, 3, 4, 5, 6, 7, 8, 1, 0] rfl))
    (by
    intro σ v5 v6 v7 hB H locs ls hw hl
    unfold xb_X4_judgesFor_98 at hB
    refine lv_iload hx hb dX4_judgesFor_98 (lv_at hl 5 rfl) ?_
    refine lv_iload hx hb dX4_judgesFor_100 (lv_at hl 7 rfl) ?_
    refine lv_if_eq (tgt := 112) hx hb dX4_judgesFor_102 (by decide) (fun hc => ?_) (fun hc => ?_)
    · replace hB := hB.1 hc
      refine lv_iconst (v := (0 : Int32)) hx hb dX4_judgesFor_112 (by decide) ?_
      refine lv_ior hx hb dX4_judgesFor_113 ?_
      refine lv_istore (lv' := [(5, .int (v5 ||| (0 : Int32))), (0, .ref (q 7)), (1, .ref (q (11 + o1))), (2, .int a2), (3, .int a3), (4, .int a4), (6, .int v6), (7, .int v7)]) hx hb dX4_judgesFor_114 hl (by decide) rfl (fun ls hl => ?_)
      refine lv_iinc (v := (v6 + (1 : Int32))) (lv' := [(6, .int (v6 + (1 : Int32))), (5, .int (v5 ||| (0 : Int32))), (0, .ref (q 7)), (1, .ref (q (11 + o1))), (2, .int a2), (3, .int a3), (4, .int a4), (7, .int v7)]) hx hb dX4_judgesFor_116 hl (k := 6) rfl rfl (by decide) rfl (fun ls hl => ?_)
      refine lv_goto (tgt := 6) hx hb dX4_judgesFor_119 (by decide) ?_
      exact hB _ _ _ hw (lv_sub hl [2, 3, 4, 5, 6, 1, 0] rfl)
    · replace hB := hB.2 hc
      refine lv_iconst (v := (1 : Int32)) hx hb dX4_judgesFor_105 (by decide) ?_
      refine lv_iload hx hb dX4_judgesFor_106 (lv_at hl 6 rfl) ?_
      refine lv_ishl hx hb dX4_judgesFor_108 ?_
      refine lv_goto (tgt := 113) hx hb dX4_judgesFor_109 (by decide) ?_
      refine lv_ior hx hb dX4_judgesFor_113 ?_
      refine lv_istore (lv' := [(5, .int (v5 ||| ((1 : Int32) <<< (v6 &&& 31)))), (0, .ref (q 7)), (1, .ref (q (11 + o1))), (2, .int a2), (3, .int a3), (4, .int a4), (6, .int v6), (7, .int v7)]) hx hb dX4_judgesFor_114 hl (by decide) rfl (fun ls hl => ?_)
      refine lv_iinc (v := (v6 + (1 : Int32))) (lv' := [(6, .int (v6 + (1 : Int32))), (5, .int (v5 ||| ((1 : Int32) <<< (v6 &&& 31)))), (0, .ref (q 7)), (1, .ref (q (11 + o1))), (2, .int a2), (3, .int a3), (4, .int a4), (7, .int v7)]) hx hb dX4_judgesFor_116 hl (k := 6) rfl rfl (by decide) rfl (fun ls hl => ?_)
      refine lv_goto (tgt := 6) hx hb dX4_judgesFor_119 (by decide) ?_
      exact hB _ _ _ hw (lv_sub hl [2, 3, 4, 5, 6, 1, 0] rfl))
  unfold xb_X4_judgesFor_e at hB
  refine lv_iconst (v := (0 : Int32)) hx hb dX4_judgesFor_0 (by decide) ?_
  refine lv_istore (lv' := [(5, .int (0 : Int32)), (0, .ref (q 7)), (1, .ref (q (11 + o1))), (2, .int a2), (3, .int a3), (4, .int a4)]) hx hb dX4_judgesFor_1 hl (by decide) rfl (fun ls hl => ?_)
  refine lv_iconst (v := (0 : Int32)) hx hb dX4_judgesFor_3 (by decide) ?_
  refine lv_istore (lv' := [(6, .int (0 : Int32)), (5, .int (0 : Int32)), (0, .ref (q 7)), (1, .ref (q (11 + o1))), (2, .int a2), (3, .int a3), (4, .int a4)]) hx hb dX4_judgesFor_4 hl (by decide) rfl (fun ls hl => ?_)
  exact hB _ _ _ hw (lv_sub hl [2, 3, 4, 5, 6, 1, 0] rfl)
set_option maxRecDepth 100000 in
set_option maxHeartbeats 4000000 in
theorem xc_X10_overlaps (l : Launch) (D : va_G) (cy : Nat → ClassId) (q : Nat → Nat) (σ : xw_M) (o0 : Nat) (a1 : Int32) (a2 : Int32) (a3 : Int32) (h0 : o0 < 7) {Z : Int32 → xw_M → Prop} (hU : xu_X10_overlaps σ o0 a1 a2 a3 Z) : xr_CI l yX10_overlaps cX10_overlaps 5 .boolean { frames := 0, cells := 0, slots := 0, locals := 0 } D cy xl_A q σ [.ref (q (16 + o0)), .int a1, .int a2, .int a3] Z := by
  refine xr_CI.of RX10 rfl (by decide) (Nat.le_of_ble_eq_true rfl) (fun p e s m below meth c X hw hr hk ls hl => ?_)
  have hx := X.1
  have hb := X.2.1
  have hl : lv_has ls 5 [(0, .ref (q (16 + o0))), (1, .int a1), (2, .int a2), (3, .int a3)] := hl
  unfold xu_X10_overlaps at hU
  have hB := hU
  refine lv_iload_n hx hb dX10_overlaps_0 rfl (lv_at hl 1 rfl) ?_
  refine lv_if_lt (tgt := 10) hx hb dX10_overlaps_1 (by decide) (fun hc => ?_) (fun hc => ?_)
  · replace hB := hB.1 hc
    refine lv_iconst (v := (0 : Int32)) hx hb dX10_overlaps_10 (by decide) ?_
    exact xr_zret X hw hr hk hB dX10_overlaps_11
  · replace hB := hB.2 hc
    refine lv_iload_n hx hb dX10_overlaps_4 rfl (lv_at hl 1 rfl) ?_
    refine lv_bipush (v := (6 : Int32)) hx hb dX10_overlaps_5 (by decide) ?_
    refine lv_icmp_lt (tgt := 12) hx hb dX10_overlaps_7 (by decide) (fun hc => ?_) (fun hc => ?_)
    · replace hB := hB.1 hc
      refine lv_iload_n hx hb dX10_overlaps_12 rfl (lv_at hl 1 rfl) ?_
      refine lv_iconst (v := (4 : Int32)) hx hb dX10_overlaps_13 (by decide) ?_
      refine lv_imul hx hb dX10_overlaps_14 ?_
      refine lv_istore (lv' := [(4, .int (a1 * (4 : Int32))), (0, .ref (q (16 + o0))), (1, .int a1), (2, .int a2), (3, .int a3)]) hx hb dX10_overlaps_15 hl (by decide) rfl (fun ls hl => ?_)
      refine lv_aload_n hx hb dX10_overlaps_17 rfl (lv_at hl 1 rfl) ?_
      refine xr_getr X hw (xf_X10_9 X) (16 + o0) (xl_A_Timetable_at (i := o0) h0) rfl dX10_overlaps_18 ?_
      refine lv_iload hx hb dX10_overlaps_21 (lv_at hl 0 rfl) ?_
      refine lv_iconst (v := (1 : Int32)) hx hb dX10_overlaps_23 (by decide) ?_
      refine lv_iadd hx hb dX10_overlaps_24 ?_
      refine xr_iald X hw (66 + o0) (xl_A_Timetable_cells_at (i := o0) h0) hB.1 dX10_overlaps_25 ?_
      replace hB := hB.2
      refine lv_iconst (v := (-1 : Int32)) hx hb dX10_overlaps_26 (by decide) ?_
      refine lv_icmp_eq (tgt := 60) hx hb dX10_overlaps_27 (by decide) (fun hc => ?_) (fun hc => ?_)
      · replace hB := hB.1 hc
        refine lv_iconst (v := (0 : Int32)) hx hb dX10_overlaps_60 (by decide) ?_
        exact xr_zret X hw hr hk hB dX10_overlaps_61
      · replace hB := hB.2 hc
        refine lv_aload_n hx hb dX10_overlaps_30 rfl (lv_at hl 1 rfl) ?_
        refine xr_getr X hw (xf_X10_9 X) (16 + o0) (xl_A_Timetable_at (i := o0) h0) rfl dX10_overlaps_31 ?_
        refine lv_iload hx hb dX10_overlaps_34 (lv_at hl 0 rfl) ?_
        refine lv_iconst (v := (2 : Int32)) hx hb dX10_overlaps_36 (by decide) ?_
        refine lv_iadd hx hb dX10_overlaps_37 ?_
        refine xr_iald X hw (66 + o0) (xl_A_Timetable_cells_at (i := o0) h0) hB.1 dX10_overlaps_38 ?_
        replace hB := hB.2
        refine lv_iload_n hx hb dX10_overlaps_39 rfl (lv_at hl 4 rfl) ?_
        refine lv_icmp_ge (tgt := 60) hx hb dX10_overlaps_40 (by decide) (fun hc => ?_) (fun hc => ?_)
        · replace hB := hB.1 hc
          refine lv_iconst (v := (0 : Int32)) hx hb dX10_overlaps_60 (by decide) ?_
          exact xr_zret X hw hr hk hB dX10_overlaps_61
        · replace hB := hB.2 hc
          refine lv_iload_n hx hb dX10_overlaps_43 rfl (lv_at hl 3 rfl) ?_
          refine lv_aload_n hx hb dX10_overlaps_44 rfl (lv_at hl 1 rfl) ?_
          refine xr_getr X hw (xf_X10_9 X) (16 + o0) (xl_A_Timetable_at (i := o0) h0) rfl dX10_overlaps_45 ?_
          refine lv_iload hx hb dX10_overlaps_48 (lv_at hl 0 rfl) ?_
          refine lv_iconst (v := (3 : Int32)) hx hb dX10_overlaps_50 (by decide) ?_
          refine lv_iadd hx hb dX10_overlaps_51 ?_
          refine xr_iald X hw (66 + o0) (xl_A_Timetable_cells_at (i := o0) h0) hB.1 dX10_overlaps_52 ?_
          replace hB := hB.2
          refine lv_icmp_ge (tgt := 60) hx hb dX10_overlaps_53 (by decide) (fun hc => ?_) (fun hc => ?_)
          · replace hB := hB.1 hc
            refine lv_iconst (v := (0 : Int32)) hx hb dX10_overlaps_60 (by decide) ?_
            exact xr_zret X hw hr hk hB dX10_overlaps_61
          · replace hB := hB.2 hc
            refine lv_iconst (v := (1 : Int32)) hx hb dX10_overlaps_56 (by decide) ?_
            refine lv_goto (tgt := 61) hx hb dX10_overlaps_57 (by decide) ?_
            exact xr_zret X hw hr hk hB dX10_overlaps_61
    · replace hB := hB.2 hc
      refine lv_iconst (v := (0 : Int32)) hx hb dX10_overlaps_10 (by decide) ?_
      exact xr_zret X hw hr hk hB dX10_overlaps_11
theorem xf_X4_24 {p : Program} {s : State} {m : MethodId} {args : Array Value} {c : Code} {cc : ByteArray} {nL : Nat} {D : va_G} {cy : Nat → ClassId} {lay : List xw_E} {q : Nat → Nat} (X : xr_X p s m args c cc nL RX4 D cy lay q) : xr_F args s RX4 24 4 5 := ⟨RX4, TX4, 10, tyX4, rfl, by decide, fun w h => X.2.2.2.2.1 w (xt_inX4 w h), tyX4_ok, nmX4, Or.inl (X.2.2.2.2.1 _ xt_2_39)⟩
theorem xf_X4_9 {p : Program} {s : State} {m : MethodId} {args : Array Value} {c : Code} {cc : ByteArray} {nL : Nat} {D : va_G} {cy : Nat → ClassId} {lay : List xw_E} {q : Nat → Nat} (X : xr_X p s m args c cc nL RX4 D cy lay q) : xr_F args s RX4 9 4 2 := ⟨RX4, TX4, 10, tyX4, rfl, by decide, fun w h => X.2.2.2.2.1 w (xt_inX4 w h), tyX4_ok, nmX4, Or.inl (X.2.2.2.2.1 _ xt_2_36)⟩
theorem xm_X10_overlaps : xr_MW yX10_overlaps cX10_overlaps 5 (some .boolean) 3 := ⟨xt_4_28, xt_1_10, by decide, by decide, by decide +kernel⟩
set_option maxRecDepth 100000 in
set_option maxHeartbeats 4000000 in
theorem xc_X4_meanwhile (l : Launch) (D : va_G) (cy : Nat → ClassId) (q : Nat → Nat) (σ : xw_M) (a1 : Int32) (a2 : Int32) (a3 : Int32) {Z : Int32 → xw_M → Prop} (hU : xu_X4_meanwhile σ a1 a2 a3 Z) : xr_CI l yX4_meanwhile cX4_meanwhile 6 .int { frames := 1, cells := 0, slots := 0, locals := 24 } D cy xl_A q σ [.ref (q 7), .int a1, .int a2, .int a3] Z := by
  refine xr_CI.of RX4 rfl (by decide) (Nat.le_of_ble_eq_true rfl) (fun p e s m below meth c X hw hr hk ls hl => ?_)
  have hx := X.1
  have hb := X.2.1
  have hl : lv_has ls 6 [(0, .ref (q 7)), (1, .int a1), (2, .int a2), (3, .int a3)] := hl
  have hB := hU (fun (σ : xw_M) (v4 : Int32) (v5 : Int32) => ∀ (H : Heap) (locs : List Loc) (ls : Array Slot), xr_H D cy xl_A q s σ H locs → lv_has ls 6 [(0, .ref (q 7)), (1, .int a1), (2, .int a2), (3, .int a3), (4, .int v4), (5, .int v5)] → W p l e ({ frames := 1, cells := 0, slots := 0, locals := 24 } : Room) s m ([.ref (q 7), .int a1, .int a2, .int a3] : List Value).toArray below meth c H locs 0 0 (MQ below (va_Qi Z (xr_po D cy xl_A q) (xw_A xl_A q s.heap.size)) ([.ref (q 7), .int a1, .int a2, .int a3] : List Value).toArray s 0 0 (xw_A xl_A q s.heap.size)) (F0 m 6 ls []))
    (by
    intro σ v4 v5 hB H locs ls hw hl
    unfold xb_X4_meanwhile_6 at hB
    refine lv_iload hx hb dX4_meanwhile_6 (lv_at hl 5 rfl) ?_
    refine lv_bipush (v := (6 : Int32)) hx hb dX4_meanwhile_8 (by decide) ?_
    refine lv_icmp_ge (tgt := 59) hx hb dX4_meanwhile_10 (by decide) (fun hc => ?_) (fun hc => ?_)
    · replace hB := hB.1 hc
      refine lv_iload hx hb dX4_meanwhile_59 (lv_at hl 4 rfl) ?_
      exact xr_iret X hw hr hk hB dX4_meanwhile_61
    · replace hB := hB.2 hc
      refine lv_iload_n hx hb dX4_meanwhile_13 rfl (lv_at hl 3 rfl) ?_
      refine lv_iload hx hb dX4_meanwhile_14 (lv_at hl 5 rfl) ?_
      refine lv_ishr hx hb dX4_meanwhile_16 ?_
      refine lv_iconst (v := (1 : Int32)) hx hb dX4_meanwhile_17 (by decide) ?_
      refine lv_iand hx hb dX4_meanwhile_18 ?_
      refine lv_iconst (v := (1 : Int32)) hx hb dX4_meanwhile_19 (by decide) ?_
      refine lv_icmp_ne (tgt := 53) hx hb dX4_meanwhile_20 (by decide) (fun hc => ?_) (fun hc => ?_)
      · replace hB := hB.1 hc
        refine lv_iinc (v := (v5 + (1 : Int32))) (lv' := [(5, .int (v5 + (1 : Int32))), (0, .ref (q 7)), (1, .int a1), (2, .int a2), (3, .int a3), (4, .int v4)]) hx hb dX4_meanwhile_53 hl (k := 5) rfl rfl (by decide) rfl (fun ls hl => ?_)
        refine lv_goto (tgt := 6) hx hb dX4_meanwhile_56 (by decide) ?_
        exact hB _ _ _ hw (lv_sub hl [1, 2, 3, 4, 5, 0] rfl)
      · replace hB := hB.2 hc
        refine lv_aload_n hx hb dX4_meanwhile_23 rfl (lv_at hl 0 rfl) ?_
        refine xr_getr X hw (xf_X4_24 X) 7 xl_A_Planner_at rfl dX4_meanwhile_24 ?_
        refine lv_iload hx hb dX4_meanwhile_27 (lv_at hl 5 rfl) ?_
        refine lv_iload_n hx hb dX4_meanwhile_29 rfl (lv_at hl 2 rfl) ?_
        refine lv_iload_n hx hb dX4_meanwhile_30 rfl (lv_at hl 2 rfl) ?_
        refine lv_aload_n hx hb dX4_meanwhile_31 rfl (lv_at hl 0 rfl) ?_
        refine xr_getr X hw (xf_X4_9 X) 7 xl_A_Planner_at rfl dX4_meanwhile_32 ?_
        refine lv_iload_n hx hb dX4_meanwhile_35 rfl (lv_at hl 1 rfl) ?_
        refine xr_iald X hw 45 xl_A_Planner_length_at hB.1 dX4_meanwhile_36 ?_
        replace hB := hB.2
        refine lv_iadd hx hb dX4_meanwhile_37 ?_
        refine xr_i hw (xr_runV (As := [.int v5, .int a2, .int (a2 + (σ.1 45 (Int32.toNatClampNeg a1)))]) (rest := []) X hw 21 (xc_X10_overlaps l D cy q σ 5 v5 a2 (a2 + (σ.1 45 (Int32.toNatClampNeg a1))) (by decide) hB _) xm_X10_overlaps xt_4_25 xt_4_26 xt_4_27 ⟨Nat.le_of_ble_eq_true rfl, Nat.le_of_ble_eq_true rfl⟩ (xl_A_Timetable_at (i := 5) (by decide)) rfl rfl rfl rfl hl.1 (Nat.le_of_ble_eq_true rfl) dX4_meanwhile_38 ⟨Nat.zero_le _, Nat.zero_le _⟩) (fun r2 σ1 H locs hB hw => ?_)
        refine lv_if_eq (tgt := 53) hx hb dX4_meanwhile_41 (by decide) (fun hc => ?_) (fun hc => ?_)
        · replace hB := hB.1 hc
          refine lv_iinc (v := (v5 + (1 : Int32))) (lv' := [(5, .int (v5 + (1 : Int32))), (0, .ref (q 7)), (1, .int a1), (2, .int a2), (3, .int a3), (4, .int v4)]) hx hb dX4_meanwhile_53 hl (k := 5) rfl rfl (by decide) rfl (fun ls hl => ?_)
          refine lv_goto (tgt := 6) hx hb dX4_meanwhile_56 (by decide) ?_
          exact hB _ _ _ hw (lv_sub hl [1, 2, 3, 4, 5, 0] rfl)
        · replace hB := hB.2 hc
          refine lv_iload hx hb dX4_meanwhile_44 (lv_at hl 4 rfl) ?_
          refine lv_iconst (v := (1 : Int32)) hx hb dX4_meanwhile_46 (by decide) ?_
          refine lv_iload hx hb dX4_meanwhile_47 (lv_at hl 5 rfl) ?_
          refine lv_ishl hx hb dX4_meanwhile_49 ?_
          refine lv_ior hx hb dX4_meanwhile_50 ?_
          refine lv_istore (lv' := [(4, .int (v4 ||| ((1 : Int32) <<< (v5 &&& 31)))), (0, .ref (q 7)), (1, .int a1), (2, .int a2), (3, .int a3), (5, .int v5)]) hx hb dX4_meanwhile_51 hl (by decide) rfl (fun ls hl => ?_)
          refine lv_iinc (v := (v5 + (1 : Int32))) (lv' := [(5, .int (v5 + (1 : Int32))), (4, .int (v4 ||| ((1 : Int32) <<< (v5 &&& 31)))), (0, .ref (q 7)), (1, .int a1), (2, .int a2), (3, .int a3)]) hx hb dX4_meanwhile_53 hl (k := 5) rfl rfl (by decide) rfl (fun ls hl => ?_)
          refine lv_goto (tgt := 6) hx hb dX4_meanwhile_56 (by decide) ?_
          exact hB _ _ _ hw (lv_sub hl [2, 3, 4, 5, 1, 0] rfl))
  unfold xb_X4_meanwhile_e at hB
  refine lv_iconst (v := (0 : Int32)) hx hb dX4_meanwhile_0 (by decide) ?_
  refine lv_istore (lv' := [(4, .int (0 : Int32)), (0, .ref (q 7)), (1, .int a1), (2, .int a2), (3, .int a3)]) hx hb dX4_meanwhile_1 hl (by decide) rfl (fun ls hl => ?_)
  refine lv_iconst (v := (0 : Int32)) hx hb dX4_meanwhile_3 (by decide) ?_
  refine lv_istore (lv' := [(5, .int (0 : Int32)), (4, .int (0 : Int32)), (0, .ref (q 7)), (1, .int a1), (2, .int a2), (3, .int a3)]) hx hb dX4_meanwhile_4 hl (by decide) rfl (fun ls hl => ?_)
  exact hB _ _ _ hw (lv_sub hl [2, 3, 4, 5, 1, 0] rfl)
