set_option maxRecDepth 100000 in
set_option maxHeartbeats 4000000 in
theorem xc_X2_isOfHeight (l : Launch) (D : va_G) (cy : Nat → ClassId) (q : Nat → Nat) (σ : xw_M) (a1 : Int32) (a2 : Int32) {Z : Int32 → xw_M → Prop} (hU : xu_X2_isOfHeight σ a1 a2 Z) : xr_CI l yX2_isOfHeight cX2_isOfHeight 3 .boolean { frames := 1, cells := 0, slots := 0, locals := 22 } D cy xl_A q σ [.ref (q 4), .int a1, .int a2] Z := by
  refine xr_CI.of RX2 rfl (by decide) (Nat.le_of_ble_eq_true rfl) (fun p e s m below meth c X hw hr hk ls hl => ?_)
  have hx := X.1
  have hb := X.2.1
  have hl : lv_has ls 3 [(0, .ref (q 4)), (1, .int a1), (2, .int a2)] := hl
  unfold xu_X2_isOfHeight at hU
  have hB := hU
  refine lv_iload_n hx hb dX2_isOfHeight_0 rfl (lv_at hl 1 rfl) ?_
  refine lv_iconst (v := (0 : Int32)) hx hb dX2_isOfHeight_1 (by decide) ?_
  refine lv_aload_n hx hb dX2_isOfHeight_2 rfl (lv_at hl 0 rfl) ?_
  refine xr_geti X hw (xf_X2_45 X) 4 xl_A_Kennel_at rfl dX2_isOfHeight_3 ?_
  refine lv_iconst (v := (1 : Int32)) hx hb dX2_isOfHeight_6 (by decide) ?_
  refine lv_isub hx hb dX2_isOfHeight_7 ?_
  refine xr_i hw (xr_runSN (As := [.int a1, .int (0 : Int32), .int ((σ.1 4 11) - (1 : Int32))]) (rest := []) X hw (xc_X11_isWithin l D cy q σ a1 (0 : Int32) ((σ.1 4 11) - (1 : Int32)) hB _) xm_X11_isWithin (X.2.2.2.2.2.1.2 _ (List.mem_of_getElem? (i := 8) rfl)) xt_3_81 ⟨Nat.le_of_ble_eq_true rfl, Nat.le_of_ble_eq_true rfl⟩ rfl rfl hl.1 (Nat.le_of_ble_eq_true rfl) dX2_isOfHeight_8 ⟨Nat.zero_le _, Nat.zero_le _⟩) (fun r2 σ1 H locs hB hw => ?_)
  refine lv_if_eq (tgt := 37) hx hb dX2_isOfHeight_11 (by decide) (fun hc => ?_) (fun hc => ?_)
  · replace hB := hB.1 hc
    refine lv_iconst (v := (0 : Int32)) hx hb dX2_isOfHeight_37 (by decide) ?_
    exact xr_zret X hw hr hk hB dX2_isOfHeight_38
  · replace hB := hB.2 hc
    refine lv_iload_n hx hb dX2_isOfHeight_14 rfl (lv_at hl 2 rfl) ?_
    refine lv_aload_n hx hb dX2_isOfHeight_15 rfl (lv_at hl 0 rfl) ?_
    refine xr_getr X hw (xf_X2_24 X) 4 xl_A_Kennel_at rfl dX2_isOfHeight_16 ?_
    refine lv_iload_n hx hb dX2_isOfHeight_19 rfl (lv_at hl 1 rfl) ?_
    refine xr_iald X hw 32 xl_A_Kennel_heightFrom_at hB.1 dX2_isOfHeight_20 ?_
    replace hB := hB.2
    refine lv_aload_n hx hb dX2_isOfHeight_21 rfl (lv_at hl 0 rfl) ?_
    refine xr_getr X hw (xf_X2_27 X) 4 xl_A_Kennel_at rfl dX2_isOfHeight_22 ?_
    refine lv_iload_n hx hb dX2_isOfHeight_25 rfl (lv_at hl 1 rfl) ?_
    refine xr_iald X hw 33 xl_A_Kennel_heightTo_at hB.1 dX2_isOfHeight_26 ?_
    replace hB := hB.2
    refine xr_i hw (xr_runSN (As := [.int a2, .int (σ1.1 32 (Int32.toNatClampNeg a1)), .int (σ1.1 33 (Int32.toNatClampNeg a1))]) (rest := []) X hw (xc_X11_isWithin l D cy q σ1 a2 (σ1.1 32 (Int32.toNatClampNeg a1)) (σ1.1 33 (Int32.toNatClampNeg a1)) hB _) xm_X11_isWithin (X.2.2.2.2.2.1.2 _ (List.mem_of_getElem? (i := 8) rfl)) xt_3_81 ⟨Nat.le_of_ble_eq_true rfl, Nat.le_of_ble_eq_true rfl⟩ rfl rfl hl.1 (Nat.le_of_ble_eq_true rfl) dX2_isOfHeight_27 ⟨Nat.zero_le _, Nat.zero_le _⟩) (fun r4 σ3 H locs hB hw => ?_)
    refine lv_if_eq (tgt := 37) hx hb dX2_isOfHeight_30 (by decide) (fun hc => ?_) (fun hc => ?_)
    · replace hB := hB.1 hc
      refine lv_iconst (v := (0 : Int32)) hx hb dX2_isOfHeight_37 (by decide) ?_
      exact xr_zret X hw hr hk hB dX2_isOfHeight_38
    · replace hB := hB.2 hc
      refine lv_iconst (v := (1 : Int32)) hx hb dX2_isOfHeight_33 (by decide) ?_
      refine lv_goto (tgt := 38) hx hb dX2_isOfHeight_34 (by decide) ?_
      exact xr_zret X hw hr hk hB dX2_isOfHeight_38
theorem xf_X5_15 {p : Program} {s : State} {m : MethodId} {args : Array Value} {c : Code} {cc : ByteArray} {nL : Nat} {D : va_G} {cy : Nat → ClassId} {lay : List xw_E} {q : Nat → Nat} (X : xr_X p s m args c cc nL RX5 D cy lay q) : xr_F args s RX5 15 5 1 := ⟨RX5, TX5, 3, tyX5, rfl, by decide, fun w h => X.2.2.2.2.1 w (xt_inX5 w h), tyX5_ok, nmX5, Or.inl (X.2.2.2.2.1 _ xt_2_74)⟩
theorem xf_X5_29 {p : Program} {s : State} {m : MethodId} {args : Array Value} {c : Code} {cc : ByteArray} {nL : Nat} {D : va_G} {cy : Nat → ClassId} {lay : List xw_E} {q : Nat → Nat} (X : xr_X p s m args c cc nL RX5 D cy lay q) : xr_F args s RX5 29 7 0 := ⟨RX7, TX7, 4, tyX7, rfl, by decide, fun w h => X.2.2.2.2.1 w (xt_inX7 w h), tyX7_ok, nmX7, Or.inr (va_Nw.use rfl (X.2.2.2.2.2.1.1 _ (List.mem_of_getElem? (i := 35) rfl)))⟩
theorem xf_X5_9 {p : Program} {s : State} {m : MethodId} {args : Array Value} {c : Code} {cc : ByteArray} {nL : Nat} {D : va_G} {cy : Nat → ClassId} {lay : List xw_E} {q : Nat → Nat} (X : xr_X p s m args c cc nL RX5 D cy lay q) : xr_F args s RX5 9 5 0 := ⟨RX5, TX5, 3, tyX5, rfl, by decide, fun w h => X.2.2.2.2.1 w (xt_inX5 w h), tyX5_ok, nmX5, Or.inl (X.2.2.2.2.1 _ xt_2_73)⟩
theorem xf_X5_39 {p : Program} {s : State} {m : MethodId} {args : Array Value} {c : Code} {cc : ByteArray} {nL : Nat} {D : va_G} {cy : Nat → ClassId} {lay : List xw_E} {q : Nat → Nat} (X : xr_X p s m args c cc nL RX5 D cy lay q) : xr_F args s RX5 39 2 6 := ⟨RX2, TX2, 13, tyX2, rfl, by decide, fun w h => X.2.2.2.2.1 w (xt_inX2 w h), tyX2_ok, nmX2, Or.inr (va_Nw.use rfl (X.2.2.2.2.2.1.1 _ (List.mem_of_getElem? (i := 20) rfl)))⟩
theorem xm_X1_heldMeasure : xr_MW yX1_heldMeasure cX1_heldMeasure 10 (some .int) 3 := ⟨xt_4_89, xt_1_7, by decide, by decide, by decide +kernel⟩
theorem xm_X2_isOfHeight : xr_MW yX2_isOfHeight cX2_isOfHeight 3 (some .boolean) 2 := ⟨xt_4_99, xt_1_6, by decide, by decide, by decide +kernel⟩
theorem xf_X5_53 {p : Program} {s : State} {m : MethodId} {args : Array Value} {c : Code} {cc : ByteArray} {nL : Nat} {D : va_G} {cy : Nat → ClassId} {lay : List xw_E} {q : Nat → Nat} (X : xr_X p s m args c cc nL RX5 D cy lay q) : xr_F args s RX5 53 7 1 := ⟨RX7, TX7, 4, tyX7, rfl, by decide, fun w h => X.2.2.2.2.1 w (xt_inX7 w h), tyX7_ok, nmX7, Or.inr (va_Nw.use rfl (X.2.2.2.2.2.1.1 _ (List.mem_of_getElem? (i := 36) rfl)))⟩
theorem xf_X5_19 {p : Program} {s : State} {m : MethodId} {args : Array Value} {c : Code} {cc : ByteArray} {nL : Nat} {D : va_G} {cy : Nat → ClassId} {lay : List xw_E} {q : Nat → Nat} (X : xr_X p s m args c cc nL RX5 D cy lay q) : xr_F args s RX5 19 5 2 := ⟨RX5, TX5, 3, tyX5, rfl, by decide, fun w h => X.2.2.2.2.1 w (xt_inX5 w h), tyX5_ok, nmX5, Or.inl (X.2.2.2.2.1 _ xt_2_75)⟩
set_option maxRecDepth 100000 in
set_option maxHeartbeats 4000000 in
theorem xc_X5_standing (l : Launch) (D : va_G) (cy : Nat → ClassId) (q : Nat → Nat) (σ : xw_M) (o1 : Nat) (a2 : Int32) (a3 : Int32) (h1 : o1 < 5) {Z : Int32 → xw_M → Prop} (hU : xu_X5_standing σ o1 a2 a3 Z) : xr_CI l yX5_standing cX5_standing 7 .int { frames := 4, cells := 0, slots := 0, locals := 103 } D cy xl_A q σ [.ref (q 8), .ref (q (11 + o1)), .int a2, .int a3] Z := by
  refine xr_CI.of RX5 rfl (by decide) (Nat.le_of_ble_eq_true rfl) (fun p e s m below meth c X hw hr hk ls hl => ?_)
  have hx := X.1
  have hb := X.2.1
  have hl : lv_has ls 7 [(0, .ref (q 8)), (1, .ref (q (11 + o1))), (2, .int a2), (3, .int a3)] := hl
  have hB := hU (fun (σ : xw_M) (v4 : Int32) => ∀ (H : Heap) (locs : List Loc) (ls : Array Slot), xr_H D cy xl_A q s σ H locs → lv_has ls 7 [(0, .ref (q 8)), (1, .ref (q (11 + o1))), (2, .int a2), (3, .int a3), (4, .int v4)] → W p l e ({ frames := 4, cells := 0, slots := 0, locals := 103 } : Room) s m ([.ref (q 8), .ref (q (11 + o1)), .int a2, .int a3] : List Value).toArray below meth c H locs 0 0 (MQ below (va_Qi Z (xr_po D cy xl_A q) (xw_A xl_A q s.heap.size)) ([.ref (q 8), .ref (q (11 + o1)), .int a2, .int a3] : List Value).toArray s 0 0 (xw_A xl_A q s.heap.size)) (F0 m 98 ls []))
    (by
    intro σ v4 hB H locs ls hw hl
    unfold xb_X5_standing_98 at hB
    refine lv_aload_n hx hb dX5_standing_98 rfl (lv_at hl 1 rfl) ?_
    refine xr_getr X hw (xf_X5_53 X) (11 + o1) (xl_A_Show_at (i := o1) h1) rfl dX5_standing_99 ?_
    refine lv_iload hx hb dX5_standing_102 (lv_at hl 4 rfl) ?_
    refine xr_i hw (xr_runV (As := [.int v4]) (rest := []) X hw (16 + o1) (xc_X10_has l D cy q σ o1 v4 (Nat.lt_of_lt_of_le h1 (by decide)) hB _) xm_X10_has xt_4_101 xt_3_161 xt_3_162 ⟨Nat.le_of_ble_eq_true rfl, Nat.le_of_ble_eq_true rfl⟩ (xl_A_Timetable_at (i := o1) (Nat.lt_of_lt_of_le h1 (by decide))) rfl rfl rfl rfl hl.1 (Nat.le_of_ble_eq_true rfl) dX5_standing_104 ⟨Nat.zero_le _, Nat.zero_le _⟩) (fun r12 σ11 H locs hB hw => ?_)
    refine lv_if_ne (tgt := 112) hx hb dX5_standing_107 (by decide) (fun hc => ?_) (fun hc => ?_)
    · replace hB := hB.1 hc
      refine lv_aload_n hx hb dX5_standing_112 rfl (lv_at hl 1 rfl) ?_
      refine xr_getr X hw (xf_X5_53 X) (11 + o1) (xl_A_Show_at (i := o1) h1) rfl dX5_standing_113 ?_
      refine lv_iload hx hb dX5_standing_116 (lv_at hl 4 rfl) ?_
      refine lv_iconst (v := (1 : Int32)) hx hb dX5_standing_118 (by decide) ?_
      refine xr_i hw (xr_runV (As := [.int v4, .int (1 : Int32)]) (rest := []) X hw (16 + o1) (xc_X10_at l D cy q σ11 o1 v4 (1 : Int32) (Nat.lt_of_lt_of_le h1 (by decide)) hB _) xm_X10_at xt_4_102 xt_3_165 xt_3_166 ⟨Nat.le_of_ble_eq_true rfl, Nat.le_of_ble_eq_true rfl⟩ (xl_A_Timetable_at (i := o1) (Nat.lt_of_lt_of_le h1 (by decide))) rfl rfl rfl rfl hl.1 (Nat.le_of_ble_eq_true rfl) dX5_standing_119 ⟨Nat.zero_le _, Nat.zero_le _⟩) (fun r14 σ13 H locs hB hw => ?_)
      refine lv_istore (lv' := [(6, .int r14), (0, .ref (q 8)), (1, .ref (q (11 + o1))), (2, .int a2), (3, .int a3), (4, .int v4)]) hx hb dX5_standing_122 hl (by decide) rfl (fun ls hl => ?_)
      refine lv_aload_n hx hb dX5_standing_124 rfl (lv_at hl 1 rfl) ?_
      refine xr_getr X hw (xf_X5_19 X) 8 xl_A_Results_at rfl dX5_standing_125 ?_
      refine lv_iload hx hb dX5_standing_128 (lv_at hl 0 rfl) ?_
      refine lv_aload_n hx hb dX5_standing_130 rfl (lv_at hl 2 rfl) ?_
      refine lv_iload_n hx hb dX5_standing_131 rfl (lv_at hl 3 rfl) ?_
      refine lv_iload_n hx hb dX5_standing_132 rfl (lv_at hl 4 rfl) ?_
      refine xr_i hw (xr_runV (As := [.int r14, .ref (q (11 + o1)), .int a2, .int a3]) (rest := []) X hw 6 (xc_X0_firstBar l D cy q σ13 r14 o1 a2 a3 h1 hB _) xm_X0_firstBar xt_4_103 xt_3_219 xt_3_220 ⟨Nat.le_of_ble_eq_true rfl, Nat.le_of_ble_eq_true rfl⟩ xl_A_Club_at rfl rfl rfl rfl hl.1 (Nat.le_of_ble_eq_true rfl) dX5_standing_133 ⟨Nat.zero_le _, Nat.zero_le _⟩) (fun r16 σ15 H locs hB hw => ?_)
      refine lv_iconst (v := (-1 : Int32)) hx hb dX5_standing_136 (by decide) ?_
      refine lv_icmp_eq (tgt := 145) hx hb dX5_standing_137 (by decide) (fun hc => ?_) (fun hc => ?_)
      · replace hB := hB.1 hc
        refine lv_iconst (v := (0 : Int32)) hx hb dX5_standing_145 (by decide) ?_
        exact xr_iret X hw hr hk hB dX5_standing_146
      · replace hB := hB.2 hc
        refine lv_bipush (v := (6 : Int32)) hx hb dX5_standing_140 (by decide) ?_
        refine lv_goto (tgt := 146) hx hb dX5_standing_142 (by decide) ?_
        exact xr_iret X hw hr hk hB dX5_standing_146
    · replace hB := hB.2 hc
      refine lv_iconst (v := (5 : Int32)) hx hb dX5_standing_110 (by decide) ?_
      exact xr_iret X hw hr hk hB dX5_standing_111)
  unfold xb_X5_standing_e at hB
  refine lv_aload_n hx hb dX5_standing_0 rfl (lv_at hl 1 rfl) ?_
  refine lv_iload_n hx hb dX5_standing_1 rfl (lv_at hl 2 rfl) ?_
  refine xr_i hw (xr_runV (As := [.int a2]) (rest := []) X hw (11 + o1) (xc_X7_hasEntry l D cy q σ o1 a2 h1 hB _) xm_X7_hasEntry xt_4_78 xt_3_140 xt_3_141 ⟨Nat.le_of_ble_eq_true rfl, Nat.le_of_ble_eq_true rfl⟩ (xl_A_Show_at (i := o1) h1) rfl rfl rfl rfl hl.1 (Nat.le_of_ble_eq_true rfl) dX5_standing_2 ⟨Nat.zero_le _, Nat.zero_le _⟩) (fun r2 σ1 H locs hB hw => ?_)
  refine lv_if_ne (tgt := 10) hx hb dX5_standing_5 (by decide) (fun hc => ?_) (fun hc => ?_)
  · replace hB := hB.1 hc
    refine lv_aload_n hx hb dX5_standing_10 rfl (lv_at hl 0 rfl) ?_
    refine xr_getr X hw (xf_X5_15 X) 8 xl_A_Results_at rfl dX5_standing_11 ?_
    refine lv_iconst (v := (1 : Int32)) hx hb dX5_standing_14 (by decide) ?_
    refine lv_aload_n hx hb dX5_standing_15 rfl (lv_at hl 1 rfl) ?_
    refine xr_geti X hw (xf_X5_29 X) (11 + o1) (xl_A_Show_at (i := o1) h1) rfl dX5_standing_16 ?_
    refine lv_iload_n hx hb dX5_standing_19 rfl (lv_at hl 2 rfl) ?_
    refine lv_iload_n hx hb dX5_standing_20 rfl (lv_at hl 3 rfl) ?_
    refine xr_i hw (xr_runV (As := [.int (1 : Int32), .int (σ1.1 (11 + o1) 0), .int a2, .int a3]) (rest := []) X hw 5 (xc_X1_lastOf l D cy q σ1 (1 : Int32) (σ1.1 (11 + o1) 0) a2 a3 hB _) xm_X1_lastOf xt_4_79 xt_4_80 xt_4_81 ⟨Nat.le_of_ble_eq_true rfl, Nat.le_of_ble_eq_true rfl⟩ xl_A_Facts_at rfl rfl rfl rfl hl.1 (Nat.le_of_ble_eq_true rfl) dX5_standing_21 ⟨Nat.zero_le _, Nat.zero_le _⟩) (fun r4 σ3 H locs hB hw => ?_)
    refine lv_iconst (v := (-1 : Int32)) hx hb dX5_standing_24 (by decide) ?_
    refine lv_icmp_eq (tgt := 30) hx hb dX5_standing_25 (by decide) (fun hc => ?_) (fun hc => ?_)
    · replace hB := hB.1 hc
      refine lv_aload_n hx hb dX5_standing_30 rfl (lv_at hl 0 rfl) ?_
      refine xr_getr X hw (xf_X5_15 X) 8 xl_A_Results_at rfl dX5_standing_31 ?_
      refine lv_iconst (v := (2 : Int32)) hx hb dX5_standing_34 (by decide) ?_
      refine lv_aload_n hx hb dX5_standing_35 rfl (lv_at hl 1 rfl) ?_
      refine xr_geti X hw (xf_X5_29 X) (11 + o1) (xl_A_Show_at (i := o1) h1) rfl dX5_standing_36 ?_
      refine lv_iload_n hx hb dX5_standing_39 rfl (lv_at hl 2 rfl) ?_
      refine lv_iload_n hx hb dX5_standing_40 rfl (lv_at hl 3 rfl) ?_
      refine xr_i hw (xr_runV (As := [.int (2 : Int32), .int (σ3.1 (11 + o1) 0), .int a2, .int a3]) (rest := []) X hw 5 (xc_X1_lastOf l D cy q σ3 (2 : Int32) (σ3.1 (11 + o1) 0) a2 a3 hB _) xm_X1_lastOf xt_4_79 xt_4_80 xt_4_81 ⟨Nat.le_of_ble_eq_true rfl, Nat.le_of_ble_eq_true rfl⟩ xl_A_Facts_at rfl rfl rfl rfl hl.1 (Nat.le_of_ble_eq_true rfl) dX5_standing_41 ⟨Nat.zero_le _, Nat.zero_le _⟩) (fun r6 σ5 H locs hB hw => ?_)
      refine lv_iconst (v := (-1 : Int32)) hx hb dX5_standing_44 (by decide) ?_
      refine lv_icmp_eq (tgt := 50) hx hb dX5_standing_45 (by decide) (fun hc => ?_) (fun hc => ?_)
      · replace hB := hB.1 hc
        refine lv_aload_n hx hb dX5_standing_50 rfl (lv_at hl 0 rfl) ?_
        refine xr_getr X hw (xf_X5_9 X) 8 xl_A_Results_at rfl dX5_standing_51 ?_
        refine xr_getr X hw (xf_X5_39 X) 4 xl_A_Kennel_at rfl dX5_standing_54 ?_
        refine lv_iload_n hx hb dX5_standing_57 rfl (lv_at hl 2 rfl) ?_
        refine xr_iald X hw 34 xl_A_Kennel_breed_at hB.1 dX5_standing_58 ?_
        replace hB := hB.2
        refine lv_istore (lv' := [(4, .int (σ5.1 34 (Int32.toNatClampNeg a2))), (0, .ref (q 8)), (1, .ref (q (11 + o1))), (2, .int a2), (3, .int a3)]) hx hb dX5_standing_59 hl (by decide) rfl (fun ls hl => ?_)
        refine lv_aload_n hx hb dX5_standing_61 rfl (lv_at hl 1 rfl) ?_
        refine xr_getr X hw (xf_X5_15 X) 8 xl_A_Results_at rfl dX5_standing_62 ?_
        refine lv_aload_n hx hb dX5_standing_65 rfl (lv_at hl 2 rfl) ?_
        refine xr_geti X hw (xf_X5_29 X) (11 + o1) (xl_A_Show_at (i := o1) h1) rfl dX5_standing_66 ?_
        refine lv_iload_n hx hb dX5_standing_69 rfl (lv_at hl 3 rfl) ?_
        refine lv_iload_n hx hb dX5_standing_70 rfl (lv_at hl 4 rfl) ?_
        refine xr_i hw (xr_runV (As := [.int (σ5.1 (11 + o1) 0), .int a2, .int a3]) (rest := []) X hw 5 (xc_X1_heldMeasure l D cy q σ5 (σ5.1 (11 + o1) 0) a2 a3 hB _) xm_X1_heldMeasure xt_4_86 xt_4_87 xt_4_88 ⟨Nat.le_of_ble_eq_true rfl, Nat.le_of_ble_eq_true rfl⟩ xl_A_Facts_at rfl rfl rfl rfl hl.1 (Nat.le_of_ble_eq_true rfl) dX5_standing_71 ⟨Nat.zero_le _, Nat.zero_le _⟩) (fun r8 σ7 H locs hB hw => ?_)
        refine lv_istore (lv' := [(5, .int r8), (4, .int (σ5.1 34 (Int32.toNatClampNeg a2))), (0, .ref (q 8)), (1, .ref (q (11 + o1))), (2, .int a2), (3, .int a3)]) hx hb dX5_standing_74 hl (by decide) rfl (fun ls hl => ?_)
        refine lv_iload hx hb dX5_standing_76 (lv_at hl 0 rfl) ?_
        refine lv_iconst (v := (-1 : Int32)) hx hb dX5_standing_78 (by decide) ?_
        refine lv_icmp_eq (tgt := 98) hx hb dX5_standing_79 (by decide) (fun hc => ?_) (fun hc => ?_)
        · replace hB := hB.1 hc
          exact hB _ _ _ hw (lv_sub hl [2, 3, 4, 5, 1] rfl)
        · replace hB := hB.2 hc
          refine lv_aload_n hx hb dX5_standing_82 rfl (lv_at hl 2 rfl) ?_
          refine xr_getr X hw (xf_X5_9 X) 8 xl_A_Results_at rfl dX5_standing_83 ?_
          refine lv_iload hx hb dX5_standing_86 (lv_at hl 1 rfl) ?_
          refine lv_iload hx hb dX5_standing_88 (lv_at hl 0 rfl) ?_
          refine xr_i hw (xr_runV (As := [.int (σ5.1 34 (Int32.toNatClampNeg a2)), .int r8]) (rest := []) X hw 4 (xc_X2_isOfHeight l D cy q σ7 (σ5.1 34 (Int32.toNatClampNeg a2)) r8 hB _) xm_X2_isOfHeight xt_4_96 xt_4_97 xt_4_98 ⟨Nat.le_of_ble_eq_true rfl, Nat.le_of_ble_eq_true rfl⟩ xl_A_Kennel_at rfl rfl rfl rfl hl.1 (Nat.le_of_ble_eq_true rfl) dX5_standing_90 ⟨Nat.zero_le _, Nat.zero_le _⟩) (fun r10 σ9 H locs hB hw => ?_)
          refine lv_if_ne (tgt := 98) hx hb dX5_standing_93 (by decide) (fun hc => ?_) (fun hc => ?_)
          · replace hB := hB.1 hc
            exact hB _ _ _ hw (lv_sub hl [2, 3, 4, 5, 1] rfl)
          · replace hB := hB.2 hc
            refine lv_iconst (v := (4 : Int32)) hx hb dX5_standing_96 (by decide) ?_
            exact xr_iret X hw hr hk hB dX5_standing_97
      · replace hB := hB.2 hc
        refine lv_iconst (v := (3 : Int32)) hx hb dX5_standing_48 (by decide) ?_
        exact xr_iret X hw hr hk hB dX5_standing_49
    · replace hB := hB.2 hc
      refine lv_iconst (v := (2 : Int32)) hx hb dX5_standing_28 (by decide) ?_
      exact xr_iret X hw hr hk hB dX5_standing_29
  · replace hB := hB.2 hc
    refine lv_iconst (v := (1 : Int32)) hx hb dX5_standing_8 (by decide) ?_
    exact xr_iret X hw hr hk hB dX5_standing_9
theorem xf_X11_76 {p : Program} {s : State} {m : MethodId} {args : Array Value} {c : Code} {cc : ByteArray} {nL : Nat} {D : va_G} {cy : Nat → ClassId} {lay : List xw_E} {q : Nat → Nat} (X : xr_X p s m args c cc nL RX11 D cy lay q) : xr_F args s RX11 76 11 7 := ⟨RX11, TX11, 12, tyX11, rfl, by decide, fun w h => X.2.2.2.2.1 w (xt_inX11 w h), tyX11_ok, nmX11, Or.inl (X.2.2.2.2.1 _ xt_2_119)⟩
theorem xm_X5_standing : xr_MW yX5_standing cX5_standing 7 (some .int) 3 := ⟨xt_4_77, xt_1_11, by decide, by decide, by decide +kernel⟩
set_option maxRecDepth 100000 in
set_option maxHeartbeats 4000000 in
theorem xc_X11_counts (l : Launch) (D : va_G) (cy : Nat → ClassId) (q : Nat → Nat) (σ : xw_M) (a1 : Int32) (a2 : Int32) (a3 : Int32) {Z : Int32 → xw_M → Prop} (hU : xu_X11_counts σ a1 a2 a3 Z) : xr_CI l yX11_counts cX11_counts 4 .int { frames := 5, cells := 0, slots := 0, locals := 129 } D cy xl_A q σ [.ref (q 0), .int a1, .int a2, .int a3] Z := by
  refine xr_CI.of RX11 rfl (by decide) (Nat.le_of_ble_eq_true rfl) (fun p e s m below meth c X hw hr hk ls hl => ?_)
  have hx := X.1
  have hb := X.2.1
  have hl : lv_has ls 4 [(0, .ref (q 0)), (1, .int a1), (2, .int a2), (3, .int a3)] := hl
  unfold xu_X11_counts at hU
  have hB := hU
  refine lv_aload_n hx hb dX11_counts_0 rfl (lv_at hl 0 rfl) ?_
  refine lv_iload_n hx hb dX11_counts_1 rfl (lv_at hl 1 rfl) ?_
  refine xr_i hw (xr_runV (As := [.int a1]) (rest := []) X hw 0 (xc_X11_isShow l D cy q σ a1 hB _) xm_X11_isShow xt_3_131 xt_3_133 xt_p_14 ⟨Nat.le_of_ble_eq_true rfl, Nat.le_of_ble_eq_true rfl⟩ xl_A_ShowRings_at rfl rfl rfl rfl hl.1 (Nat.le_of_ble_eq_true rfl) dX11_counts_2 ⟨Nat.zero_le _, Nat.zero_le _⟩) (fun r2 σ1 H locs hB hw => ?_)
  refine lv_if_eq (tgt := 24) hx hb dX11_counts_5 (by decide) (fun hc => ?_) (fun hc => ?_)
  · replace hB := hB.1 hc
    refine lv_iconst (v := (-1 : Int32)) hx hb dX11_counts_24 (by decide) ?_
    exact xr_iret X hw hr hk hB dX11_counts_25
  · replace hB := hB.2 hc
    refine lv_aload_n hx hb dX11_counts_8 rfl (lv_at hl 0 rfl) ?_
    refine lv_iload_n hx hb dX11_counts_9 rfl (lv_at hl 2 rfl) ?_
    refine xr_i hw (xr_runV (As := [.int a2]) (rest := []) X hw 0 (xc_X11_isDog l D cy q σ1 a2 hB _) xm_X11_isDog xt_3_135 xt_3_137 xt_p_15 ⟨Nat.le_of_ble_eq_true rfl, Nat.le_of_ble_eq_true rfl⟩ xl_A_ShowRings_at rfl rfl rfl rfl hl.1 (Nat.le_of_ble_eq_true rfl) dX11_counts_10 ⟨Nat.zero_le _, Nat.zero_le _⟩) (fun r4 σ3 H locs hB hw => ?_)
    refine lv_if_eq (tgt := 24) hx hb dX11_counts_13 (by decide) (fun hc => ?_) (fun hc => ?_)
    · replace hB := hB.1 hc
      refine lv_iconst (v := (-1 : Int32)) hx hb dX11_counts_24 (by decide) ?_
      exact xr_iret X hw hr hk hB dX11_counts_25
    · replace hB := hB.2 hc
      refine lv_aload_n hx hb dX11_counts_16 rfl (lv_at hl 0 rfl) ?_
      refine lv_iload_n hx hb dX11_counts_17 rfl (lv_at hl 3 rfl) ?_
      refine xr_i hw (xr_runV (As := [.int a3]) (rest := []) X hw 0 (xc_X11_isKnown l D cy q σ3 a3 hB _) xm_X11_isKnown xt_3_192 xt_3_194 xt_p_17 ⟨Nat.le_of_ble_eq_true rfl, Nat.le_of_ble_eq_true rfl⟩ xl_A_ShowRings_at rfl rfl rfl rfl hl.1 (Nat.le_of_ble_eq_true rfl) dX11_counts_18 ⟨Nat.zero_le _, Nat.zero_le _⟩) (fun r6 σ5 H locs hB hw => ?_)
      refine lv_if_ne (tgt := 26) hx hb dX11_counts_21 (by decide) (fun hc => ?_) (fun hc => ?_)
      · replace hB := hB.1 hc
        refine lv_aload_n hx hb dX11_counts_26 rfl (lv_at hl 0 rfl) ?_
        refine xr_getr X hw (xf_X11_76 X) 0 xl_A_ShowRings_at rfl dX11_counts_27 ?_
        refine lv_aload_n hx hb dX11_counts_30 rfl (lv_at hl 0 rfl) ?_
        refine xr_getr X hw (xf_X11_82 X) 0 xl_A_ShowRings_at rfl dX11_counts_31 ?_
        refine lv_iload_n hx hb dX11_counts_34 rfl (lv_at hl 1 rfl) ?_
        have hi7 := hB.1
        refine xr_aald X hw 23 xl_A_ShowRings_shows_at hi7 dX11_counts_35 ?_
        replace hB := hB.2
        refine lv_iload_n hx hb dX11_counts_36 rfl (lv_at hl 2 rfl) ?_
        refine lv_iload_n hx hb dX11_counts_37 rfl (lv_at hl 3 rfl) ?_
        refine xr_i hw (xr_runV (As := [.ref (q (11 + (Int32.toNatClampNeg a1))), .int a2, .int a3]) (rest := []) X hw 8 (xc_X5_standing l D cy q σ5 (Int32.toNatClampNeg a1) a2 a3 (xr_lt hi7) hB _) xm_X5_standing xt_4_74 xt_4_75 xt_4_76 ⟨Nat.le_of_ble_eq_true rfl, Nat.le_of_ble_eq_true rfl⟩ xl_A_Results_at rfl rfl rfl rfl hl.1 (Nat.le_of_ble_eq_true rfl) dX11_counts_38 ⟨Nat.zero_le _, Nat.zero_le _⟩) (fun r9 σ8 H locs hB hw => ?_)
        exact xr_iret X hw hr hk hB dX11_counts_41
      · replace hB := hB.2 hc
        refine lv_iconst (v := (-1 : Int32)) hx hb dX11_counts_24 (by decide) ?_
        exact xr_iret X hw hr hk hB dX11_counts_25
set_option maxRecDepth 100000 in
set_option maxHeartbeats 4000000 in
theorem xc_X5_goesAhead (l : Launch) (D : va_G) (cy : Nat → ClassId) (q : Nat → Nat) (σ : xw_M) (a1 : Int32) (a2 : Int32) {Z : Int32 → xw_M → Prop} (hU : xu_X5_goesAhead σ a1 a2 Z) : xr_CI l yX5_goesAhead cX5_goesAhead 5 .boolean { frames := 2, cells := 0, slots := 0, locals := 43 } D cy xl_A q σ [.ref (q 8), .int a1, .int a2] Z := by
  refine xr_CI.of RX5 rfl (by decide) (Nat.le_of_ble_eq_true rfl) (fun p e s m below meth c X hw hr hk ls hl => ?_)
  have hx := X.1
  have hb := X.2.1
  have hl : lv_has ls 5 [(0, .ref (q 8)), (1, .int a1), (2, .int a2)] := hl
  unfold xu_X5_goesAhead at hU
  have hB := hU
  refine lv_aload_n hx hb dX5_goesAhead_0 rfl (lv_at hl 0 rfl) ?_
  refine xr_getr X hw (xf_X5_15 X) 8 xl_A_Results_at rfl dX5_goesAhead_1 ?_
  refine lv_iload_n hx hb dX5_goesAhead_4 rfl (lv_at hl 1 rfl) ?_
  refine xr_i hw (xr_runV (As := [.int a1]) (rest := []) X hw 5 (xc_X1_valueAt l D cy q σ a1 hB _) xm_X1_valueAt xt_4_116 xt_4_92 xt_4_93 ⟨Nat.le_of_ble_eq_true rfl, Nat.le_of_ble_eq_true rfl⟩ xl_A_Facts_at rfl rfl rfl rfl hl.1 (Nat.le_of_ble_eq_true rfl) dX5_goesAhead_5 ⟨Nat.zero_le _, Nat.zero_le _⟩) (fun r2 σ1 H locs hB hw => ?_)
  refine lv_istore_n (lv' := [(3, .int r2), (0, .ref (q 8)), (1, .int a1), (2, .int a2)]) hx hb dX5_goesAhead_8 rfl hl (by decide) rfl (fun ls hl => ?_)
  refine lv_aload_n hx hb dX5_goesAhead_9 rfl (lv_at hl 1 rfl) ?_
  refine xr_getr X hw (xf_X5_15 X) 8 xl_A_Results_at rfl dX5_goesAhead_10 ?_
  refine lv_iload_n hx hb dX5_goesAhead_13 rfl (lv_at hl 3 rfl) ?_
  refine xr_i hw (xr_runV (As := [.int a2]) (rest := []) X hw 5 (xc_X1_valueAt l D cy q σ1 a2 hB _) xm_X1_valueAt xt_4_116 xt_4_92 xt_4_93 ⟨Nat.le_of_ble_eq_true rfl, Nat.le_of_ble_eq_true rfl⟩ xl_A_Facts_at rfl rfl rfl rfl hl.1 (Nat.le_of_ble_eq_true rfl) dX5_goesAhead_14 ⟨Nat.zero_le _, Nat.zero_le _⟩) (fun r4 σ3 H locs hB hw => ?_)
  refine lv_istore (lv' := [(4, .int r4), (3, .int r2), (0, .ref (q 8)), (1, .int a1), (2, .int a2)]) hx hb dX5_goesAhead_17 hl (by decide) rfl (fun ls hl => ?_)
  refine lv_iload_n hx hb dX5_goesAhead_19 rfl (lv_at hl 4 rfl) ?_
  refine lv_iconst (v := (-1 : Int32)) hx hb dX5_goesAhead_20 (by decide) ?_
  refine lv_icmp_eq (tgt := 41) hx hb dX5_goesAhead_21 (by decide) (fun hc => ?_) (fun hc => ?_)
  · replace hB := hB.1 hc
    refine lv_iconst (v := (1 : Int32)) hx hb dX5_goesAhead_41 (by decide) ?_
    refine lv_goto (tgt := 46) hx hb dX5_goesAhead_42 (by decide) ?_
    exact xr_zret X hw hr hk hB dX5_goesAhead_46
  · replace hB := hB.2 hc
    refine lv_iload_n hx hb dX5_goesAhead_24 rfl (lv_at hl 1 rfl) ?_
    refine lv_iload hx hb dX5_goesAhead_25 (lv_at hl 0 rfl) ?_
    refine lv_icmp_lt (tgt := 41) hx hb dX5_goesAhead_27 (by decide) (fun hc => ?_) (fun hc => ?_)
    · replace hB := hB.1 hc
      refine lv_iconst (v := (1 : Int32)) hx hb dX5_goesAhead_41 (by decide) ?_
      refine lv_goto (tgt := 46) hx hb dX5_goesAhead_42 (by decide) ?_
      exact xr_zret X hw hr hk hB dX5_goesAhead_46
    · replace hB := hB.2 hc
      refine lv_iload_n hx hb dX5_goesAhead_30 rfl (lv_at hl 1 rfl) ?_
      refine lv_iload hx hb dX5_goesAhead_31 (lv_at hl 0 rfl) ?_
      refine lv_icmp_ne (tgt := 45) hx hb dX5_goesAhead_33 (by decide) (fun hc => ?_) (fun hc => ?_)
      · replace hB := hB.1 hc
        refine lv_iconst (v := (0 : Int32)) hx hb dX5_goesAhead_45 (by decide) ?_
        exact xr_zret X hw hr hk hB dX5_goesAhead_46
      · replace hB := hB.2 hc
        refine lv_iload_n hx hb dX5_goesAhead_36 rfl (lv_at hl 3 rfl) ?_
        refine lv_iload_n hx hb dX5_goesAhead_37 rfl (lv_at hl 4 rfl) ?_
        refine lv_icmp_ge (tgt := 45) hx hb dX5_goesAhead_38 (by decide) (fun hc => ?_) (fun hc => ?_)
        · replace hB := hB.1 hc
          refine lv_iconst (v := (0 : Int32)) hx hb dX5_goesAhead_45 (by decide) ?_
          exact xr_zret X hw hr hk hB dX5_goesAhead_46
        · replace hB := hB.2 hc
          refine lv_iconst (v := (1 : Int32)) hx hb dX5_goesAhead_41 (by decide) ?_
          refine lv_goto (tgt := 46) hx hb dX5_goesAhead_42 (by decide) ?_
          exact xr_zret X hw hr hk hB dX5_goesAhead_46
theorem xf_X5_72 {p : Program} {s : State} {m : MethodId} {args : Array Value} {c : Code} {cc : ByteArray} {nL : Nat} {D : va_G} {cy : Nat → ClassId} {lay : List xw_E} {q : Nat → Nat} (X : xr_X p s m args c cc nL RX5 D cy lay q) : xr_F args s RX5 72 2 12 := ⟨RX2, TX2, 13, tyX2, rfl, by decide, fun w h => X.2.2.2.2.1 w (xt_inX2 w h), tyX2_ok, nmX2, Or.inr (va_Nw.use rfl (X.2.2.2.2.2.1.1 _ (List.mem_of_getElem? (i := 28) rfl)))⟩
theorem xm_X5_goesAhead : xr_MW yX5_goesAhead cX5_goesAhead 5 (some .boolean) 2 := ⟨xt_4_115, xt_1_11, by decide, by decide, by decide +kernel⟩
set_option maxRecDepth 100000 in
set_option maxHeartbeats 4000000 in
theorem xc_X5_winnerOf (l : Launch) (D : va_G) (cy : Nat → ClassId) (q : Nat → Nat) (σ : xw_M) (o1 : Nat) (a2 : Int32) (a3 : Int32) (h1 : o1 < 5) {Z : Int32 → xw_M → Prop} (hU : xu_X5_winnerOf σ o1 a2 a3 Z) : xr_CI l yX5_winnerOf cX5_winnerOf 9 .int { frames := 5, cells := 0, slots := 0, locals := 129 } D cy xl_A q σ [.ref (q 8), .ref (q (11 + o1)), .int a2, .int a3] Z := by
  refine xr_CI.of RX5 rfl (by decide) (Nat.le_of_ble_eq_true rfl) (fun p e s m below meth c X hw hr hk ls hl => ?_)
  have hx := X.1
  have hb := X.2.1
  have hl : lv_has ls 9 [(0, .ref (q 8)), (1, .ref (q (11 + o1))), (2, .int a2), (3, .int a3)] := hl
  have hB := hU (fun (σ : xw_M) (v4 : Int32) (v5 : Int32) (v6 : Int32) => ∀ (H : Heap) (locs : List Loc) (ls : Array Slot), xr_H D cy xl_A q s σ H locs → lv_has ls 9 [(0, .ref (q 8)), (1, .ref (q (11 + o1))), (2, .int a2), (3, .int a3), (4, .int v4), (5, .int v5), (6, .int v6)] → W p l e ({ frames := 5, cells := 0, slots := 0, locals := 129 } : Room) s m ([.ref (q 8), .ref (q (11 + o1)), .int a2, .int a3] : List Value).toArray below meth c H locs 0 0 (MQ below (va_Qi Z (xr_po D cy xl_A q) (xw_A xl_A q s.heap.size)) ([.ref (q 8), .ref (q (11 + o1)), .int a2, .int a3] : List Value).toArray s 0 0 (xw_A xl_A q s.heap.size)) (F0 m 9 ls []))
    (fun (σ : xw_M) (s0 : Int32) (v4 : Int32) (v5 : Int32) (v6 : Int32) (v7 : Int32) => ∀ (H : Heap) (locs : List Loc) (ls : Array Slot), xr_H D cy xl_A q s σ H locs → lv_has ls 9 [(0, .ref (q 8)), (1, .ref (q (11 + o1))), (2, .int a2), (3, .int a3), (4, .int v4), (5, .int v5), (6, .int v6), (7, .int v7)] → W p l e ({ frames := 5, cells := 0, slots := 0, locals := 129 } : Room) s m ([.ref (q 8), .ref (q (11 + o1)), .int a2, .int a3] : List Value).toArray below meth c H locs 0 0 (MQ below (va_Qi Z (xr_po D cy xl_A q) (xw_A xl_A q s.heap.size)) ([.ref (q 8), .ref (q (11 + o1)), .int a2, .int a3] : List Value).toArray s 0 0 (xw_A xl_A q s.heap.size)) (F0 m 74 ls [.int s0]))
    (by
    intro σ v4 v5 v6 hB H locs ls hw hl
    unfold xb_X5_winnerOf_9 at hB
    refine lv_iload hx hb dX5_winnerOf_9 (lv_at hl 6 rfl) ?_
    refine lv_aload_n hx hb dX5_winnerOf_11 rfl (lv_at hl 0 rfl) ?_
    refine xr_getr X hw (xf_X5_9 X) 8 xl_A_Results_at rfl dX5_winnerOf_12 ?_
    refine xr_geti X hw (xf_X5_72 X) 4 xl_A_Kennel_at rfl dX5_winnerOf_15 ?_
    refine lv_icmp_ge (tgt := 106) hx hb dX5_winnerOf_18 (by decide) (fun hc => ?_) (fun hc => ?_)
    · replace hB := hB.1 hc
      refine lv_iload hx hb dX5_winnerOf_106 (lv_at hl 4 rfl) ?_
      exact xr_iret X hw hr hk hB dX5_winnerOf_108
    · replace hB := hB.2 hc
      refine lv_aload_n hx hb dX5_winnerOf_21 rfl (lv_at hl 0 rfl) ?_
      refine xr_getr X hw (xf_X5_15 X) 8 xl_A_Results_at rfl dX5_winnerOf_22 ?_
      refine lv_iconst (v := (0 : Int32)) hx hb dX5_winnerOf_25 (by decide) ?_
      refine lv_aload_n hx hb dX5_winnerOf_26 rfl (lv_at hl 1 rfl) ?_
      refine xr_geti X hw (xf_X5_29 X) (11 + o1) (xl_A_Show_at (i := o1) h1) rfl dX5_winnerOf_27 ?_
      refine lv_iload hx hb dX5_winnerOf_30 (lv_at hl 6 rfl) ?_
      refine lv_iload_n hx hb dX5_winnerOf_32 rfl (lv_at hl 3 rfl) ?_
      refine xr_i hw (xr_runV (As := [.int (0 : Int32), .int (σ.1 (11 + o1) 0), .int v6, .int a3]) (rest := []) X hw 5 (xc_X1_lastOf l D cy q σ (0 : Int32) (σ.1 (11 + o1) 0) v6 a3 hB _) xm_X1_lastOf xt_4_79 xt_4_80 xt_4_81 ⟨Nat.le_of_ble_eq_true rfl, Nat.le_of_ble_eq_true rfl⟩ xl_A_Facts_at rfl rfl rfl rfl hl.1 (Nat.le_of_ble_eq_true rfl) dX5_winnerOf_33 ⟨Nat.zero_le _, Nat.zero_le _⟩) (fun r2 σ1 H locs hB hw => ?_)
      refine lv_istore (lv' := [(7, .int r2), (0, .ref (q 8)), (1, .ref (q (11 + o1))), (2, .int a2), (3, .int a3), (4, .int v4), (5, .int v5), (6, .int v6)]) hx hb dX5_winnerOf_36 hl (by decide) rfl (fun ls hl => ?_)
      refine lv_aload_n hx hb dX5_winnerOf_38 rfl (lv_at hl 1 rfl) ?_
      refine xr_getr X hw (xf_X5_9 X) 8 xl_A_Results_at rfl dX5_winnerOf_39 ?_
      refine xr_getr X hw (xf_X5_39 X) 4 xl_A_Kennel_at rfl dX5_winnerOf_42 ?_
      refine lv_iload hx hb dX5_winnerOf_45 (lv_at hl 7 rfl) ?_
      refine xr_iald X hw 34 xl_A_Kennel_breed_at hB.1 dX5_winnerOf_47 ?_
      replace hB := hB.2
      refine lv_iload_n hx hb dX5_winnerOf_48 rfl (lv_at hl 3 rfl) ?_
      refine lv_icmp_ne (tgt := 73) hx hb dX5_winnerOf_49 (by decide) (fun hc => ?_) (fun hc => ?_)
      · replace hB := hB.1 hc
        refine lv_iconst (v := (0 : Int32)) hx hb dX5_winnerOf_73 (by decide) ?_
        exact hB _ _ _ hw (lv_sub hl [1, 2, 3, 4, 5, 6, 7, 0] rfl)
      · replace hB := hB.2 hc
        refine lv_iload hx hb dX5_winnerOf_52 (lv_at hl 0 rfl) ?_
        refine lv_iconst (v := (-1 : Int32)) hx hb dX5_winnerOf_54 (by decide) ?_
        refine lv_icmp_eq (tgt := 73) hx hb dX5_winnerOf_55 (by decide) (fun hc => ?_) (fun hc => ?_)
        · replace hB := hB.1 hc
          refine lv_iconst (v := (0 : Int32)) hx hb dX5_winnerOf_73 (by decide) ?_
          exact hB _ _ _ hw (lv_sub hl [1, 2, 3, 4, 5, 6, 7, 0] rfl)
        · replace hB := hB.2 hc
          refine lv_aload_n hx hb dX5_winnerOf_58 rfl (lv_at hl 1 rfl) ?_
          refine lv_iload hx hb dX5_winnerOf_59 (lv_at hl 0 rfl) ?_
          refine lv_iload hx hb dX5_winnerOf_61 (lv_at hl 6 rfl) ?_
          refine xr_i hw (xr_runV (As := [.int r2, .int v5]) (rest := []) X hw 8 (xc_X5_goesAhead l D cy q σ1 r2 v5 hB _) xm_X5_goesAhead xt_4_112 xt_4_114 xt_p_27 ⟨Nat.le_of_ble_eq_true rfl, Nat.le_of_ble_eq_true rfl⟩ xl_A_Results_at rfl rfl rfl rfl hl.1 (Nat.le_of_ble_eq_true rfl) dX5_winnerOf_63 ⟨Nat.zero_le _, Nat.zero_le _⟩) (fun r4 σ3 H locs hB hw => ?_)
          refine lv_if_eq (tgt := 73) hx hb dX5_winnerOf_66 (by decide) (fun hc => ?_) (fun hc => ?_)
          · replace hB := hB.1 hc
            refine lv_iconst (v := (0 : Int32)) hx hb dX5_winnerOf_73 (by decide) ?_
            exact hB _ _ _ hw (lv_sub hl [1, 2, 3, 4, 5, 6, 7, 0] rfl)
          · replace hB := hB.2 hc
            refine lv_iconst (v := (1 : Int32)) hx hb dX5_winnerOf_69 (by decide) ?_
            refine lv_goto (tgt := 74) hx hb dX5_winnerOf_70 (by decide) ?_
            exact hB _ _ _ hw (lv_sub hl [1, 2, 3, 4, 5, 6, 7, 0] rfl))
    (by
    intro σ s0 v4 v5 v6 v7 hB H locs ls hw hl
    unfold xb_X5_winnerOf_74 at hB
    refine lv_istore (lv' := [(8, .int s0), (0, .ref (q 8)), (1, .ref (q (11 + o1))), (2, .int a2), (3, .int a3), (4, .int v4), (5, .int v5), (6, .int v6), (7, .int v7)]) hx hb dX5_winnerOf_74 hl (by decide) rfl (fun ls hl => ?_)
    refine lv_iload hx hb dX5_winnerOf_76 (lv_at hl 0 rfl) ?_
    refine lv_if_eq (tgt := 100) hx hb dX5_winnerOf_78 (by decide) (fun hc => ?_) (fun hc => ?_)
    · replace hB := hB.1 hc
      refine lv_iinc (v := (v6 + (1 : Int32))) (lv' := [(6, .int (v6 + (1 : Int32))), (8, .int s0), (0, .ref (q 8)), (1, .ref (q (11 + o1))), (2, .int a2), (3, .int a3), (4, .int v4), (5, .int v5), (7, .int v7)]) hx hb dX5_winnerOf_100 hl (k := 7) rfl rfl (by decide) rfl (fun ls hl => ?_)
      refine lv_goto (tgt := 9) hx hb dX5_winnerOf_103 (by decide) ?_
      exact hB _ _ _ hw (lv_sub hl [2, 3, 4, 5, 6, 7, 0] rfl)
    · replace hB := hB.2 hc
      refine lv_aload_n hx hb dX5_winnerOf_81 rfl (lv_at hl 1 rfl) ?_
      refine lv_aload_n hx hb dX5_winnerOf_82 rfl (lv_at hl 2 rfl) ?_
      refine lv_iload hx hb dX5_winnerOf_83 (lv_at hl 7 rfl) ?_
      refine lv_iload_n hx hb dX5_winnerOf_85 rfl (lv_at hl 4 rfl) ?_
      refine xr_i hw (xr_runV (As := [.ref (q (11 + o1)), .int v6, .int a3]) (rest := []) X hw 8 (xc_X5_standing l D cy q σ o1 v6 a3 h1 hB _) xm_X5_standing xt_4_117 xt_4_75 xt_4_76 ⟨Nat.le_of_ble_eq_true rfl, Nat.le_of_ble_eq_true rfl⟩ xl_A_Results_at rfl rfl rfl rfl hl.1 (Nat.le_of_ble_eq_true rfl) dX5_winnerOf_86 ⟨Nat.zero_le _, Nat.zero_le _⟩) (fun r6 σ5 H locs hB hw => ?_)
      refine lv_if_ne (tgt := 100) hx hb dX5_winnerOf_89 (by decide) (fun hc => ?_) (fun hc => ?_)
      · replace hB := hB.1 hc
        refine lv_iinc (v := (v6 + (1 : Int32))) (lv' := [(6, .int (v6 + (1 : Int32))), (8, .int s0), (0, .ref (q 8)), (1, .ref (q (11 + o1))), (2, .int a2), (3, .int a3), (4, .int v4), (5, .int v5), (7, .int v7)]) hx hb dX5_winnerOf_100 hl (k := 7) rfl rfl (by decide) rfl (fun ls hl => ?_)
        refine lv_goto (tgt := 9) hx hb dX5_winnerOf_103 (by decide) ?_
        exact hB _ _ _ hw (lv_sub hl [2, 3, 4, 5, 6, 7, 0] rfl)
      · replace hB := hB.2 hc
        refine lv_iload hx hb dX5_winnerOf_92 (lv_at hl 7 rfl) ?_
        refine lv_istore (lv' := [(4, .int v6), (8, .int s0), (0, .ref (q 8)), (1, .ref (q (11 + o1))), (2, .int a2), (3, .int a3), (5, .int v5), (6, .int v6), (7, .int v7)]) hx hb dX5_winnerOf_94 hl (by decide) rfl (fun ls hl => ?_)
        refine lv_iload hx hb dX5_winnerOf_96 (lv_at hl 8 rfl) ?_
        refine lv_istore (lv' := [(5, .int v7), (4, .int v6), (8, .int s0), (0, .ref (q 8)), (1, .ref (q (11 + o1))), (2, .int a2), (3, .int a3), (6, .int v6), (7, .int v7)]) hx hb dX5_winnerOf_98 hl (by decide) rfl (fun ls hl => ?_)
        refine lv_iinc (v := (v6 + (1 : Int32))) (lv' := [(6, .int (v6 + (1 : Int32))), (5, .int v7), (4, .int v6), (8, .int s0), (0, .ref (q 8)), (1, .ref (q (11 + o1))), (2, .int a2), (3, .int a3), (7, .int v7)]) hx hb dX5_winnerOf_100 hl (k := 7) rfl rfl (by decide) rfl (fun ls hl => ?_)
        refine lv_goto (tgt := 9) hx hb dX5_winnerOf_103 (by decide) ?_
        exact hB _ _ _ hw (lv_sub hl [4, 5, 6, 7, 2, 1, 0] rfl))
  unfold xb_X5_winnerOf_e at hB
  refine lv_iconst (v := (-1 : Int32)) hx hb dX5_winnerOf_0 (by decide) ?_
  refine lv_istore (lv' := [(4, .int (-1 : Int32)), (0, .ref (q 8)), (1, .ref (q (11 + o1))), (2, .int a2), (3, .int a3)]) hx hb dX5_winnerOf_1 hl (by decide) rfl (fun ls hl => ?_)
  refine lv_iconst (v := (-1 : Int32)) hx hb dX5_winnerOf_3 (by decide) ?_
  refine lv_istore (lv' := [(5, .int (-1 : Int32)), (4, .int (-1 : Int32)), (0, .ref (q 8)), (1, .ref (q (11 + o1))), (2, .int a2), (3, .int a3)]) hx hb dX5_winnerOf_4 hl (by decide) rfl (fun ls hl => ?_)
  refine lv_iconst (v := (0 : Int32)) hx hb dX5_winnerOf_6 (by decide) ?_
  refine lv_istore (lv' := [(6, .int (0 : Int32)), (5, .int (-1 : Int32)), (4, .int (-1 : Int32)), (0, .ref (q 8)), (1, .ref (q (11 + o1))), (2, .int a2), (3, .int a3)]) hx hb dX5_winnerOf_7 hl (by decide) rfl (fun ls hl => ?_)
  exact hB _ _ _ hw (lv_sub hl [3, 4, 5, 6, 2, 1, 0] rfl)
