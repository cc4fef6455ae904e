theorem xf_X8_15 {p : Program} {s : State} {m : MethodId} {args : Array Value} {c : Code} {cc : ByteArray} {nL : Nat} {D : va_G} {cy : Nat → ClassId} {lay : List xw_E} {q : Nat → Nat} (X : xr_X p s m args c cc nL RX8 D cy lay q) : xr_F args s RX8 15 8 1 := ⟨RX8, TX8, 2, tyX8, rfl, by decide, fun w h => X.2.2.2.2.1 w (xt_inX8 w h), tyX8_ok, nmX8, Or.inl (X.2.2.2.2.1 _ xt_1_36)⟩
theorem xf_X8_9 {p : Program} {s : State} {m : MethodId} {args : Array Value} {c : Code} {cc : ByteArray} {nL : Nat} {D : va_G} {cy : Nat → ClassId} {lay : List xw_E} {q : Nat → Nat} (X : xr_X p s m args c cc nL RX8 D cy lay q) : xr_F args s RX8 9 8 0 := ⟨RX8, TX8, 2, tyX8, rfl, by decide, fun w h => X.2.2.2.2.1 w (xt_inX8 w h), tyX8_ok, nmX8, Or.inl (X.2.2.2.2.1 _ xt_1_35)⟩
theorem xp_X8_15 {p : Program} {s : State} {m : MethodId} {args : Array Value} {c : Code} {cc : ByteArray} {nL : Nat} {D : va_G} {cy : Nat → ClassId} {lay : List xw_E} {q : Nat → Nat} (X : xr_X p s m args c cc nL RX8 D cy lay q) : xr_P args s RX8 15 8 1 := ⟨RX8, TX8, 2, tyX8, rfl, by decide, fun w h => X.2.2.2.2.1 w (xt_inX8 w h), tyX8_ok, nmX8, Or.inl (X.2.2.2.2.1 _ xt_1_36), rfl, by decide +kernel⟩
set_option maxRecDepth 100000 in
set_option maxHeartbeats 4000000 in
theorem xc_X8_append (l : Launch) (D : va_G) (cy : Nat → ClassId) (q : Nat → Nat) (σ : xw_M) (a1 : Int32) {Z : xw_M → Prop} (hU : xu_X8_append σ a1 Z) : xr_CV l yX8_append cX8_append 3 { frames := 0, cells := 0, slots := 0, locals := 0 } D cy xl_A q σ [.ref (q 1), .int a1] Z := by
  refine xr_CV.of RX8 rfl (by decide) (Nat.le_of_ble_eq_true rfl) (fun p e s m below meth c X hw hr hk ls hl => ?_)
  have hx := X.1
  have hb := X.2.1
  have hl : lv_has ls 3 [(0, .ref (q 1)), (1, .int a1)] := hl
  have hB := hU (fun (σ : xw_M) (v2 : Int32) => ∀ (H : Heap) (locs : List Loc) (ls : Array Slot), xr_H D cy xl_A q s σ H locs → lv_has ls 3 [(0, .ref (q 1)), (1, .int a1), (2, .int v2)] → W p l e ({ frames := 0, cells := 0, slots := 0, locals := 0 } : Room) s m ([.ref (q 1), .int a1] : List Value).toArray below meth c H locs 0 0 (MQ below (va_Qv Z (xr_po D cy xl_A q) (xw_A xl_A q s.heap.size)) ([.ref (q 1), .int a1] : List Value).toArray s 0 0 (xw_A xl_A q s.heap.size)) (F0 m 3 ls []))
    (by
    intro σ v2 hB H locs ls hw hl
    unfold xb_X8_append_3 at hB
    refine lv_iload_n hx hb dX8_append_3 rfl (lv_at hl 2 rfl) ?_
    refine lv_if_lt (tgt := 46) hx hb dX8_append_4 (by decide) (fun hc => ?_) (fun hc => ?_)
    · replace hB := hB.1 hc
      exact xr_vret X hw hr hk hB dX8_append_46
    · replace hB := hB.2 hc
      refine lv_aload_n hx hb dX8_append_7 rfl (lv_at hl 0 rfl) ?_
      refine xr_geti X hw (xf_X8_15 X) 1 xl_A_Tape_at rfl dX8_append_8 ?_
      refine lv_sipush (v := (2000 : Int32)) hx hb dX8_append_11 (by decide) ?_
      refine lv_icmp_ge (tgt := 40) hx hb dX8_append_14 (by decide) (fun hc => ?_) (fun hc => ?_)
      · replace hB := hB.1 hc
        refine lv_iinc (v := (v2 + (-8 : Int32))) (lv' := [(2, .int (v2 + (-8 : Int32))), (0, .ref (q 1)), (1, .int a1)]) hx hb dX8_append_40 hl (k := 2) rfl rfl (by decide) rfl (fun ls hl => ?_)
        refine lv_goto (tgt := 3) hx hb dX8_append_43 (by decide) ?_
        exact hB _ _ _ hw (lv_sub hl [1, 2, 0] rfl)
      · replace hB := hB.2 hc
        refine lv_aload_n hx hb dX8_append_17 rfl (lv_at hl 0 rfl) ?_
        refine xr_getr X hw (xf_X8_9 X) 1 xl_A_Tape_at rfl dX8_append_18 ?_
        refine lv_aload_n hx hb dX8_append_21 rfl (lv_at hl 0 rfl) ?_
        refine xr_geti X hw (xf_X8_15 X) 1 xl_A_Tape_at rfl dX8_append_22 ?_
        refine lv_iload_n hx hb dX8_append_25 rfl (lv_at hl 1 rfl) ?_
        refine lv_iload_n hx hb dX8_append_26 rfl (lv_at hl 2 rfl) ?_
        refine lv_ishr hx hb dX8_append_27 ?_
        refine lv_i2b (v := (Int8.toInt32 (Int32.toInt8 (a1 >>> (v2 &&& 31))))) hx hb dX8_append_28 rfl ?_
        refine xr_bast X hw 24 xl_A_Tape_bytes_at hB.1 dX8_append_29 hB.2 (fun σ1 H locs hB hw => ?_)
        refine lv_aload_n hx hb dX8_append_30 rfl (lv_at hl 0 rfl) ?_
        refine lv_dup hx hb dX8_append_31 rfl ?_
        refine xr_geti X hw (xf_X8_15 X) 1 xl_A_Tape_at rfl dX8_append_32 ?_
        refine lv_iconst (v := (1 : Int32)) hx hb dX8_append_35 (by decide) ?_
        refine lv_iadd hx hb dX8_append_36 ?_
        refine xr_puti X hw (xp_X8_15 X) 1 xl_A_Tape_at rfl dX8_append_37 hB (fun σ2 H locs hB hw => ?_)
        refine lv_iinc (v := (v2 + (-8 : Int32))) (lv' := [(2, .int (v2 + (-8 : Int32))), (0, .ref (q 1)), (1, .int a1)]) hx hb dX8_append_40 hl (k := 2) rfl rfl (by decide) rfl (fun ls hl => ?_)
        refine lv_goto (tgt := 3) hx hb dX8_append_43 (by decide) ?_
        exact hB _ _ _ hw (lv_sub hl [1, 2, 0] rfl))
  unfold xb_X8_append_e at hB
  refine lv_bipush (v := (24 : Int32)) hx hb dX8_append_0 (by decide) ?_
  refine lv_istore_n (lv' := [(2, .int (24 : Int32)), (0, .ref (q 1)), (1, .int a1)]) hx hb dX8_append_2 rfl hl (by decide) rfl (fun ls hl => ?_)
  exact hB _ _ _ hw (lv_sub hl [1, 2, 0] rfl)
theorem xf_X11_10 {p : Program} {s : State} {m : MethodId} {args : Array Value} {c : Code} {cc : ByteArray} {nL : Nat} {D : va_G} {cy : Nat → ClassId} {lay : List xw_E} {q : Nat → Nat} (X : xr_X p s m args c cc nL RX11 D cy lay q) : xr_F args s RX11 10 11 0 := ⟨RX11, TX11, 12, tyX11, rfl, by decide, fun w h => X.2.2.2.2.1 w (xt_inX11 w h), tyX11_ok, nmX11, Or.inl (X.2.2.2.2.1 _ xt_2_112)⟩
theorem xf_X11_99 {p : Program} {s : State} {m : MethodId} {args : Array Value} {c : Code} {cc : ByteArray} {nL : Nat} {D : va_G} {cy : Nat → ClassId} {lay : List xw_E} {q : Nat → Nat} (X : xr_X p s m args c cc nL RX11 D cy lay q) : xr_F args s RX11 99 8 1 := ⟨RX8, TX8, 2, tyX8, rfl, by decide, fun w h => X.2.2.2.2.1 w (xt_inX8 w h), tyX8_ok, nmX8, Or.inr (va_Nw.use rfl (X.2.2.2.2.2.1.1 _ (List.mem_of_getElem? (i := 0) rfl)))⟩
theorem xm_X8_append : xr_MW yX8_append cX8_append 3 none 1 := ⟨xt_2_156, xt_1_2, by decide, by decide, by decide +kernel⟩
set_option maxRecDepth 100000 in
set_option maxHeartbeats 4000000 in
theorem xc_X11_feed (l : Launch) (D : va_G) (cy : Nat → ClassId) (q : Nat → Nat) (σ : xw_M) (a1 : Int32) (a2 : Int32) (a3 : Int32) (a4 : Int32) (a5 : Int32) {Z : Int32 → xw_M → Prop} (hU : xu_X11_feed σ a1 a2 a3 a4 a5 Z) : xr_CI l yX11_feed cX11_feed 6 .int { frames := 1, cells := 0, slots := 0, locals := 22 } D cy xl_A q σ [.ref (q 0), .int a1, .int a2, .int a3, .int a4, .int a5] Z := by
  refine xr_CI.of RX11 rfl (by decide) (Nat.le_of_ble_eq_true rfl) (fun p e s m below meth c X hw hr hk ls hl => ?_)
  have hx := X.1
  have hb := X.2.1
  have hl : lv_has ls 6 [(0, .ref (q 0)), (1, .int a1), (2, .int a2), (3, .int a3), (4, .int a4), (5, .int a5)] := hl
  unfold xu_X11_feed at hU
  have hB := hU
  refine lv_aload_n hx hb dX11_feed_0 rfl (lv_at hl 0 rfl) ?_
  refine xr_getr X hw (xf_X11_10 X) 0 xl_A_ShowRings_at rfl dX11_feed_1 ?_
  refine xr_geti X hw (xf_X11_99 X) 1 xl_A_Tape_at rfl dX11_feed_4 ?_
  refine lv_sipush (v := (1980 : Int32)) hx hb dX11_feed_7 (by decide) ?_
  refine lv_icmp_le (tgt := 15) hx hb dX11_feed_10 (by decide) (fun hc => ?_) (fun hc => ?_)
  · replace hB := hB.1 hc
    refine lv_aload_n hx hb dX11_feed_15 rfl (lv_at hl 0 rfl) ?_
    refine xr_getr X hw (xf_X11_10 X) 0 xl_A_ShowRings_at rfl dX11_feed_16 ?_
    refine lv_iload_n hx hb dX11_feed_19 rfl (lv_at hl 1 rfl) ?_
    refine xr_v hw (xr_runV (As := [.int a1]) (rest := []) X hw 1 (xc_X8_append l D cy q σ a1 hB _) xm_X8_append xt_2_153 xt_2_154 xt_2_155 ⟨Nat.le_of_ble_eq_true rfl, Nat.le_of_ble_eq_true rfl⟩ xl_A_Tape_at rfl rfl rfl rfl hl.1 (Nat.le_of_ble_eq_true rfl) dX11_feed_20 ⟨Nat.zero_le _, Nat.zero_le _⟩) (fun σ1 H locs hB hw => ?_)
    refine lv_aload_n hx hb dX11_feed_23 rfl (lv_at hl 0 rfl) ?_
    refine xr_getr X hw (xf_X11_10 X) 0 xl_A_ShowRings_at rfl dX11_feed_24 ?_
    refine lv_iload_n hx hb dX11_feed_27 rfl (lv_at hl 2 rfl) ?_
    refine xr_v hw (xr_runV (As := [.int a2]) (rest := []) X hw 1 (xc_X8_append l D cy q σ1 a2 hB _) xm_X8_append xt_2_153 xt_2_154 xt_2_155 ⟨Nat.le_of_ble_eq_true rfl, Nat.le_of_ble_eq_true rfl⟩ xl_A_Tape_at rfl rfl rfl rfl hl.1 (Nat.le_of_ble_eq_true rfl) dX11_feed_28 ⟨Nat.zero_le _, Nat.zero_le _⟩) (fun σ2 H locs hB hw => ?_)
    refine lv_aload_n hx hb dX11_feed_31 rfl (lv_at hl 0 rfl) ?_
    refine xr_getr X hw (xf_X11_10 X) 0 xl_A_ShowRings_at rfl dX11_feed_32 ?_
    refine lv_iload_n hx hb dX11_feed_35 rfl (lv_at hl 3 rfl) ?_
    refine xr_v hw (xr_runV (As := [.int a3]) (rest := []) X hw 1 (xc_X8_append l D cy q σ2 a3 hB _) xm_X8_append xt_2_153 xt_2_154 xt_2_155 ⟨Nat.le_of_ble_eq_true rfl, Nat.le_of_ble_eq_true rfl⟩ xl_A_Tape_at rfl rfl rfl rfl hl.1 (Nat.le_of_ble_eq_true rfl) dX11_feed_36 ⟨Nat.zero_le _, Nat.zero_le _⟩) (fun σ3 H locs hB hw => ?_)
    refine lv_aload_n hx hb dX11_feed_39 rfl (lv_at hl 0 rfl) ?_
    refine xr_getr X hw (xf_X11_10 X) 0 xl_A_ShowRings_at rfl dX11_feed_40 ?_
    refine lv_iload hx hb dX11_feed_43 (lv_at hl 4 rfl) ?_
    refine xr_v hw (xr_runV (As := [.int a4]) (rest := []) X hw 1 (xc_X8_append l D cy q σ3 a4 hB _) xm_X8_append xt_2_153 xt_2_154 xt_2_155 ⟨Nat.le_of_ble_eq_true rfl, Nat.le_of_ble_eq_true rfl⟩ xl_A_Tape_at rfl rfl rfl rfl hl.1 (Nat.le_of_ble_eq_true rfl) dX11_feed_45 ⟨Nat.zero_le _, Nat.zero_le _⟩) (fun σ4 H locs hB hw => ?_)
    refine lv_aload_n hx hb dX11_feed_48 rfl (lv_at hl 0 rfl) ?_
    refine xr_getr X hw (xf_X11_10 X) 0 xl_A_ShowRings_at rfl dX11_feed_49 ?_
    refine lv_iload hx hb dX11_feed_52 (lv_at hl 5 rfl) ?_
    refine xr_v hw (xr_runV (As := [.int a5]) (rest := []) X hw 1 (xc_X8_append l D cy q σ4 a5 hB _) xm_X8_append xt_2_153 xt_2_154 xt_2_155 ⟨Nat.le_of_ble_eq_true rfl, Nat.le_of_ble_eq_true rfl⟩ xl_A_Tape_at rfl rfl rfl rfl hl.1 (Nat.le_of_ble_eq_true rfl) dX11_feed_54 ⟨Nat.zero_le _, Nat.zero_le _⟩) (fun σ5 H locs hB hw => ?_)
    refine lv_aload_n hx hb dX11_feed_57 rfl (lv_at hl 0 rfl) ?_
    refine xr_getr X hw (xf_X11_10 X) 0 xl_A_ShowRings_at rfl dX11_feed_58 ?_
    refine xr_geti X hw (xf_X11_99 X) 1 xl_A_Tape_at rfl dX11_feed_61 ?_
    exact xr_iret X hw hr hk hB dX11_feed_64
  · replace hB := hB.2 hc
    refine lv_iconst (v := (-1 : Int32)) hx hb dX11_feed_13 (by decide) ?_
    exact xr_iret X hw hr hk hB dX11_feed_14
theorem xp_X11_99 {p : Program} {s : State} {m : MethodId} {args : Array Value} {c : Code} {cc : ByteArray} {nL : Nat} {D : va_G} {cy : Nat → ClassId} {lay : List xw_E} {q : Nat → Nat} (X : xr_X p s m args c cc nL RX11 D cy lay q) : xr_P args s RX11 99 8 1 := ⟨RX8, TX8, 2, tyX8, rfl, by decide, fun w h => X.2.2.2.2.1 w (xt_inX8 w h), tyX8_ok, nmX8, Or.inr (va_Nw.use rfl (X.2.2.2.2.2.1.1 _ (List.mem_of_getElem? (i := 0) rfl))), rfl, by decide +kernel⟩
set_option maxRecDepth 100000 in
set_option maxHeartbeats 4000000 in
theorem xc_X11_back (l : Launch) (D : va_G) (cy : Nat → ClassId) (q : Nat → Nat) (σ : xw_M) (a1 : Int32) {Z : Int32 → xw_M → Prop} (hU : xu_X11_back σ a1 Z) : xr_CI l yX11_back cX11_back 2 .int { frames := 0, cells := 0, slots := 0, locals := 0 } D cy xl_A q σ [.ref (q 0), .int a1] Z := by
  refine xr_CI.of RX11 rfl (by decide) (Nat.le_of_ble_eq_true rfl) (fun p e s m below meth c X hw hr hk ls hl => ?_)
  have hx := X.1
  have hb := X.2.1
  have hl : lv_has ls 2 [(0, .ref (q 0)), (1, .int a1)] := hl
  unfold xu_X11_back at hU
  have hB := hU
  refine lv_iload_n hx hb dX11_back_0 rfl (lv_at hl 1 rfl) ?_
  refine lv_if_lt (tgt := 15) hx hb dX11_back_1 (by decide) (fun hc => ?_) (fun hc => ?_)
  · replace hB := hB.1 hc
    refine lv_iconst (v := (-1 : Int32)) hx hb dX11_back_15 (by decide) ?_
    exact xr_iret X hw hr hk hB dX11_back_16
  · replace hB := hB.2 hc
    refine lv_iload_n hx hb dX11_back_4 rfl (lv_at hl 1 rfl) ?_
    refine lv_aload_n hx hb dX11_back_5 rfl (lv_at hl 0 rfl) ?_
    refine xr_getr X hw (xf_X11_10 X) 0 xl_A_ShowRings_at rfl dX11_back_6 ?_
    refine xr_geti X hw (xf_X11_99 X) 1 xl_A_Tape_at rfl dX11_back_9 ?_
    refine lv_icmp_le (tgt := 17) hx hb dX11_back_12 (by decide) (fun hc => ?_) (fun hc => ?_)
    · replace hB := hB.1 hc
      refine lv_aload_n hx hb dX11_back_17 rfl (lv_at hl 0 rfl) ?_
      refine xr_getr X hw (xf_X11_10 X) 0 xl_A_ShowRings_at rfl dX11_back_18 ?_
      refine lv_dup hx hb dX11_back_21 rfl ?_
      refine xr_geti X hw (xf_X11_99 X) 1 xl_A_Tape_at rfl dX11_back_22 ?_
      refine lv_iload_n hx hb dX11_back_25 rfl (lv_at hl 1 rfl) ?_
      refine lv_isub hx hb dX11_back_26 ?_
      refine xr_puti X hw (xp_X11_99 X) 1 xl_A_Tape_at rfl dX11_back_27 hB (fun σ1 H locs hB hw => ?_)
      refine lv_aload_n hx hb dX11_back_30 rfl (lv_at hl 0 rfl) ?_
      refine xr_getr X hw (xf_X11_10 X) 0 xl_A_ShowRings_at rfl dX11_back_31 ?_
      refine xr_geti X hw (xf_X11_99 X) 1 xl_A_Tape_at rfl dX11_back_34 ?_
      exact xr_iret X hw hr hk hB dX11_back_37
    · replace hB := hB.2 hc
      refine lv_iconst (v := (-1 : Int32)) hx hb dX11_back_15 (by decide) ?_
      exact xr_iret X hw hr hk hB dX11_back_16
theorem xf_X3_15 {p : Program} {s : State} {m : MethodId} {args : Array Value} {c : Code} {cc : ByteArray} {nL : Nat} {D : va_G} {cy : Nat → ClassId} {lay : List xw_E} {q : Nat → Nat} (X : xr_X p s m args c cc nL RX3 D cy lay q) : xr_F args s RX3 15 3 3 := ⟨RX3, TX3, 5, tyX3, rfl, by decide, fun w h => X.2.2.2.2.1 w (xt_inX3 w h), tyX3_ok, nmX3, Or.inl (X.2.2.2.2.1 _ xt_1_128)⟩
theorem xf_X3_9 {p : Program} {s : State} {m : MethodId} {args : Array Value} {c : Code} {cc : ByteArray} {nL : Nat} {D : va_G} {cy : Nat → ClassId} {lay : List xw_E} {q : Nat → Nat} (X : xr_X p s m args c cc nL RX3 D cy lay q) : xr_F args s RX3 9 3 2 := ⟨RX3, TX3, 5, tyX3, rfl, by decide, fun w h => X.2.2.2.2.1 w (xt_inX3 w h), tyX3_ok, nmX3, Or.inl (X.2.2.2.2.1 _ xt_1_127)⟩
theorem xf_X3_21 {p : Program} {s : State} {m : MethodId} {args : Array Value} {c : Code} {cc : ByteArray} {nL : Nat} {D : va_G} {cy : Nat → ClassId} {lay : List xw_E} {q : Nat → Nat} (X : xr_X p s m args c cc nL RX3 D cy lay q) : xr_F args s RX3 21 3 0 := ⟨RX3, TX3, 5, tyX3, rfl, by decide, fun w h => X.2.2.2.2.1 w (xt_inX3 w h), tyX3_ok, nmX3, Or.inl (X.2.2.2.2.1 _ xt_1_124)⟩
theorem xf_X3_46 {p : Program} {s : State} {m : MethodId} {args : Array Value} {c : Code} {cc : ByteArray} {nL : Nat} {D : va_G} {cy : Nat → ClassId} {lay : List xw_E} {q : Nat → Nat} (X : xr_X p s m args c cc nL RX3 D cy lay q) : xr_F args s RX3 46 6 4 := ⟨RX6, TX6, 5, tyX6, rfl, by decide, fun w h => X.2.2.2.2.1 w (xt_inX6 w h), tyX6_ok, nmX6, Or.inr (va_Nw.use rfl (X.2.2.2.2.2.1.1 _ (List.mem_of_getElem? (i := 11) rfl)))⟩
theorem xp_X3_15 {p : Program} {s : State} {m : MethodId} {args : Array Value} {c : Code} {cc : ByteArray} {nL : Nat} {D : va_G} {cy : Nat → ClassId} {lay : List xw_E} {q : Nat → Nat} (X : xr_X p s m args c cc nL RX3 D cy lay q) : xr_P args s RX3 15 3 3 := ⟨RX3, TX3, 5, tyX3, rfl, by decide, fun w h => X.2.2.2.2.1 w (xt_inX3 w h), tyX3_ok, nmX3, Or.inl (X.2.2.2.2.1 _ xt_1_128), rfl, by decide +kernel⟩
theorem xf_X3_53 {p : Program} {s : State} {m : MethodId} {args : Array Value} {c : Code} {cc : ByteArray} {nL : Nat} {D : va_G} {cy : Nat → ClassId} {lay : List xw_E} {q : Nat → Nat} (X : xr_X p s m args c cc nL RX3 D cy lay q) : xr_F args s RX3 53 6 2 := ⟨RX6, TX6, 5, tyX6, rfl, by decide, fun w h => X.2.2.2.2.1 w (xt_inX6 w h), tyX6_ok, nmX6, Or.inr (va_Nw.use rfl (X.2.2.2.2.2.1.1 _ (List.mem_of_getElem? (i := 9) rfl)))⟩
theorem xp_X3_18 {p : Program} {s : State} {m : MethodId} {args : Array Value} {c : Code} {cc : ByteArray} {nL : Nat} {D : va_G} {cy : Nat → ClassId} {lay : List xw_E} {q : Nat → Nat} (X : xr_X p s m args c cc nL RX3 D cy lay q) : xr_P args s RX3 18 3 4 := ⟨RX3, TX3, 5, tyX3, rfl, by decide, fun w h => X.2.2.2.2.1 w (xt_inX3 w h), tyX3_ok, nmX3, Or.inl (X.2.2.2.2.1 _ xt_1_130), rfl, by decide +kernel⟩
set_option maxRecDepth 100000 in
set_option maxHeartbeats 4000000 in
theorem xc_X3_fail (l : Launch) (D : va_G) (cy : Nat → ClassId) (q : Nat → Nat) (σ : xw_M) (a1 : Int32) {Z : xw_M → Prop} (hU : xu_X3_fail σ a1 Z) : xr_CV l yX3_fail cX3_fail 2 { frames := 0, cells := 0, slots := 0, locals := 0 } D cy xl_A q σ [.ref (q 3), .int a1] Z := by
  refine xr_CV.of RX3 rfl (by decide) (Nat.le_of_ble_eq_true rfl) (fun p e s m below meth c X hw hr hk ls hl => ?_)
  have hx := X.1
  have hb := X.2.1
  have hl : lv_has ls 2 [(0, .ref (q 3)), (1, .int a1)] := hl
  unfold xu_X3_fail at hU
  have hB := hU
  refine lv_aload_n hx hb dX3_fail_0 rfl (lv_at hl 0 rfl) ?_
  refine xr_geti X hw (xf_X3_15 X) 3 xl_A_Parser_at rfl dX3_fail_1 ?_
  refine lv_if_ne (tgt := 49) hx hb dX3_fail_4 (by decide) (fun hc => ?_) (fun hc => ?_)
  · replace hB := hB.1 hc
    exact xr_vret X hw hr hk hB dX3_fail_49
  · replace hB := hB.2 hc
    refine lv_aload_n hx hb dX3_fail_7 rfl (lv_at hl 0 rfl) ?_
    refine xr_geti X hw (xf_X3_9 X) 3 xl_A_Parser_at rfl dX3_fail_8 ?_
    refine lv_if_lt (tgt := 49) hx hb dX3_fail_11 (by decide) (fun hc => ?_) (fun hc => ?_)
    · replace hB := hB.1 hc
      exact xr_vret X hw hr hk hB dX3_fail_49
    · replace hB := hB.2 hc
      refine lv_aload_n hx hb dX3_fail_14 rfl (lv_at hl 0 rfl) ?_
      refine xr_geti X hw (xf_X3_9 X) 3 xl_A_Parser_at rfl dX3_fail_15 ?_
      refine lv_aload_n hx hb dX3_fail_18 rfl (lv_at hl 0 rfl) ?_
      refine xr_getr X hw (xf_X3_21 X) 3 xl_A_Parser_at rfl dX3_fail_19 ?_
      refine xr_geti X hw (xf_X3_46 X) 2 xl_A_Scanner_at rfl dX3_fail_22 ?_
      refine lv_icmp_ge (tgt := 49) hx hb dX3_fail_25 (by decide) (fun hc => ?_) (fun hc => ?_)
      · replace hB := hB.1 hc
        exact xr_vret X hw hr hk hB dX3_fail_49
      · replace hB := hB.2 hc
        refine lv_aload_n hx hb dX3_fail_28 rfl (lv_at hl 0 rfl) ?_
        refine lv_iload_n hx hb dX3_fail_29 rfl (lv_at hl 1 rfl) ?_
        refine xr_puti X hw (xp_X3_15 X) 3 xl_A_Parser_at rfl dX3_fail_30 hB (fun σ1 H locs hB hw => ?_)
        refine lv_aload_n hx hb dX3_fail_33 rfl (lv_at hl 0 rfl) ?_
        refine lv_aload_n hx hb dX3_fail_34 rfl (lv_at hl 0 rfl) ?_
        refine xr_getr X hw (xf_X3_21 X) 3 xl_A_Parser_at rfl dX3_fail_35 ?_
        refine xr_getr X hw (xf_X3_53 X) 2 xl_A_Scanner_at rfl dX3_fail_38 ?_
        refine lv_aload_n hx hb dX3_fail_41 rfl (lv_at hl 0 rfl) ?_
        refine xr_geti X hw (xf_X3_9 X) 3 xl_A_Parser_at rfl dX3_fail_42 ?_
        refine xr_iald X hw 26 xl_A_Scanner_places_at hB.1 dX3_fail_45 ?_
        replace hB := hB.2
        refine xr_puti X hw (xp_X3_18 X) 3 xl_A_Parser_at rfl dX3_fail_46 hB (fun σ2 H locs hB hw => ?_)
        exact xr_vret X hw hr hk hB dX3_fail_49
set_option maxRecDepth 100000 in
set_option maxHeartbeats 4000000 in
theorem xc_X3_joins (l : Launch) (D : va_G) (cy : Nat → ClassId) (q : Nat → Nat) (σ : xw_M) (a0 : Int32) (a1 : Int32) {Z : Int32 → xw_M → Prop} (hU : xu_X3_joins σ a0 a1 Z) : xr_CI l yX3_joins cX3_joins 2 .boolean { frames := 0, cells := 0, slots := 0, locals := 0 } D cy xl_A q σ [.int a0, .int a1] Z := by
  refine xr_CI.of RX3 rfl (by decide) (Nat.le_of_ble_eq_true rfl) (fun p e s m below meth c X hw hr hk ls hl => ?_)
  have hx := X.1
  have hb := X.2.1
  have hl : lv_has ls 2 [(0, .int a0), (1, .int a1)] := hl
  unfold xu_X3_joins at hU
  have hB := hU
  refine lv_iload_n hx hb dX3_joins_0 rfl (lv_at hl 0 rfl) ?_
  by_cases hc0 : a0 = (0 : Int32)
  · replace hB := hB.1 hc0
    refine lv_tableIn (tgt := 36) hx hb dX3_joins_1 (by rw [hc0]; decide) (by rw [hc0]; decide) (by rw [hc0]; rfl) (by decide) ?_
    refine lv_iload_n hx hb dX3_joins_36 rfl (lv_at hl 1 rfl) ?_
    refine lv_bipush (v := (14 : Int32)) hx hb dX3_joins_37 (by decide) ?_
    refine lv_icmp_ne (tgt := 46) hx hb dX3_joins_39 (by decide) (fun hc => ?_) (fun hc => ?_)
    · replace hB := hB.1 hc
      refine lv_iconst (v := (0 : Int32)) hx hb dX3_joins_46 (by decide) ?_
      exact xr_zret X hw hr hk hB dX3_joins_47
    · replace hB := hB.2 hc
      refine lv_iconst (v := (1 : Int32)) hx hb dX3_joins_42 (by decide) ?_
      refine lv_goto (tgt := 47) hx hb dX3_joins_43 (by decide) ?_
      exact xr_zret X hw hr hk hB dX3_joins_47
  replace hB := hB.2 hc0
  by_cases hc1 : a0 = (1 : Int32)
  · replace hB := hB.1 hc1
    refine lv_tableIn (tgt := 48) hx hb dX3_joins_1 (by rw [hc1]; decide) (by rw [hc1]; decide) (by rw [hc1]; rfl) (by decide) ?_
    refine lv_iload_n hx hb dX3_joins_48 rfl (lv_at hl 1 rfl) ?_
    refine lv_bipush (v := (15 : Int32)) hx hb dX3_joins_49 (by decide) ?_
    refine lv_icmp_ne (tgt := 58) hx hb dX3_joins_51 (by decide) (fun hc => ?_) (fun hc => ?_)
    · replace hB := hB.1 hc
      refine lv_iconst (v := (0 : Int32)) hx hb dX3_joins_58 (by decide) ?_
      exact xr_zret X hw hr hk hB dX3_joins_59
    · replace hB := hB.2 hc
      refine lv_iconst (v := (1 : Int32)) hx hb dX3_joins_54 (by decide) ?_
      refine lv_goto (tgt := 59) hx hb dX3_joins_55 (by decide) ?_
      exact xr_zret X hw hr hk hB dX3_joins_59
  replace hB := hB.2 hc1
  by_cases hc2 : a0 = (2 : Int32)
  · replace hB := hB.1 hc2
    refine lv_tableIn (tgt := 60) hx hb dX3_joins_1 (by rw [hc2]; decide) (by rw [hc2]; decide) (by rw [hc2]; rfl) (by decide) ?_
    refine lv_iload_n hx hb dX3_joins_60 rfl (lv_at hl 1 rfl) ?_
    refine lv_bipush (v := (21 : Int32)) hx hb dX3_joins_61 (by decide) ?_
    refine lv_icmp_lt (tgt := 76) hx hb dX3_joins_63 (by decide) (fun hc => ?_) (fun hc => ?_)
    · replace hB := hB.1 hc
      refine lv_iconst (v := (0 : Int32)) hx hb dX3_joins_76 (by decide) ?_
      exact xr_zret X hw hr hk hB dX3_joins_77
    · replace hB := hB.2 hc
      refine lv_iload_n hx hb dX3_joins_66 rfl (lv_at hl 1 rfl) ?_
      refine lv_bipush (v := (24 : Int32)) hx hb dX3_joins_67 (by decide) ?_
      refine lv_icmp_gt (tgt := 76) hx hb dX3_joins_69 (by decide) (fun hc => ?_) (fun hc => ?_)
      · replace hB := hB.1 hc
        refine lv_iconst (v := (0 : Int32)) hx hb dX3_joins_76 (by decide) ?_
        exact xr_zret X hw hr hk hB dX3_joins_77
      · replace hB := hB.2 hc
        refine lv_iconst (v := (1 : Int32)) hx hb dX3_joins_72 (by decide) ?_
        refine lv_goto (tgt := 77) hx hb dX3_joins_73 (by decide) ?_
        exact xr_zret X hw hr hk hB dX3_joins_77
  replace hB := hB.2 hc2
  by_cases hc3 : a0 = (3 : Int32)
  · replace hB := hB.1 hc3
    refine lv_tableIn (tgt := 78) hx hb dX3_joins_1 (by rw [hc3]; decide) (by rw [hc3]; decide) (by rw [hc3]; rfl) (by decide) ?_
    refine lv_iload_n hx hb dX3_joins_78 rfl (lv_at hl 1 rfl) ?_
    refine lv_bipush (v := (18 : Int32)) hx hb dX3_joins_79 (by decide) ?_
    refine lv_icmp_eq (tgt := 90) hx hb dX3_joins_81 (by decide) (fun hc => ?_) (fun hc => ?_)
    · replace hB := hB.1 hc
      refine lv_iconst (v := (1 : Int32)) hx hb dX3_joins_90 (by decide) ?_
      refine lv_goto (tgt := 95) hx hb dX3_joins_91 (by decide) ?_
      exact xr_zret X hw hr hk hB dX3_joins_95
    · replace hB := hB.2 hc
      refine lv_iload_n hx hb dX3_joins_84 rfl (lv_at hl 1 rfl) ?_
      refine lv_bipush (v := (19 : Int32)) hx hb dX3_joins_85 (by decide) ?_
      refine lv_icmp_ne (tgt := 94) hx hb dX3_joins_87 (by decide) (fun hc => ?_) (fun hc => ?_)
      · replace hB := hB.1 hc
        refine lv_iconst (v := (0 : Int32)) hx hb dX3_joins_94 (by decide) ?_
        exact xr_zret X hw hr hk hB dX3_joins_95
      · replace hB := hB.2 hc
        refine lv_iconst (v := (1 : Int32)) hx hb dX3_joins_90 (by decide) ?_
        refine lv_goto (tgt := 95) hx hb dX3_joins_91 (by decide) ?_
        exact xr_zret X hw hr hk hB dX3_joins_95
  replace hB := hB.2 hc3
  by_cases hc4 : a0 = (4 : Int32)
  · replace hB := hB.1 hc4
    refine lv_tableIn (tgt := 96) hx hb dX3_joins_1 (by rw [hc4]; decide) (by rw [hc4]; decide) (by rw [hc4]; rfl) (by decide) ?_
    refine lv_iload_n hx hb dX3_joins_96 rfl (lv_at hl 1 rfl) ?_
    refine lv_bipush (v := (20 : Int32)) hx hb dX3_joins_97 (by decide) ?_
    refine lv_icmp_ne (tgt := 106) hx hb dX3_joins_99 (by decide) (fun hc => ?_) (fun hc => ?_)
    · replace hB := hB.1 hc
      refine lv_iconst (v := (0 : Int32)) hx hb dX3_joins_106 (by decide) ?_
      exact xr_zret X hw hr hk hB dX3_joins_107
    · replace hB := hB.2 hc
      refine lv_iconst (v := (1 : Int32)) hx hb dX3_joins_102 (by decide) ?_
      refine lv_goto (tgt := 107) hx hb dX3_joins_103 (by decide) ?_
      exact xr_zret X hw hr hk hB dX3_joins_107
  replace hB := hB.2 hc4
  refine xr_tdef hx hb (tgt := 108) dX3_joins_1 (by decide) (by decide) (by decide) ?_ ?_
  · intro j hj hx2
    match j, hj, hx2 with
    | 0, _, hx2 => exact absurd hx2 hc0
    | 1, _, hx2 => exact absurd hx2 hc1
    | 2, _, hx2 => exact absurd hx2 hc2
    | 3, _, hx2 => exact absurd hx2 hc3
    | 4, _, hx2 => exact absurd hx2 hc4
    | j + 5, hj, _ => exact absurd hj (by simp)
  refine lv_iconst (v := (0 : Int32)) hx hb dX3_joins_108 (by decide) ?_
  exact xr_zret X hw hr hk hB dX3_joins_109
theorem xf_X3_49 {p : Program} {s : State} {m : MethodId} {args : Array Value} {c : Code} {cc : ByteArray} {nL : Nat} {D : va_G} {cy : Nat → ClassId} {lay : List xw_E} {q : Nat → Nat} (X : xr_X p s m args c cc nL RX3 D cy lay q) : xr_F args s RX3 49 6 1 := ⟨RX6, TX6, 5, tyX6, rfl, by decide, fun w h => X.2.2.2.2.1 w (xt_inX6 w h), tyX6_ok, nmX6, Or.inr (va_Nw.use rfl (X.2.2.2.2.2.1.1 _ (List.mem_of_getElem? (i := 8) rfl)))⟩
set_option maxRecDepth 100000 in
set_option maxHeartbeats 4000000 in
theorem xc_X3_seen (l : Launch) (D : va_G) (cy : Nat → ClassId) (q : Nat → Nat) (σ : xw_M)  {Z : Int32 → xw_M → Prop} (hU : xu_X3_seen σ Z) : xr_CI l yX3_seen cX3_seen 1 .int { frames := 0, cells := 0, slots := 0, locals := 0 } D cy xl_A q σ [.ref (q 3)] Z := by
  refine xr_CI.of RX3 rfl (by decide) (Nat.le_of_ble_eq_true rfl) (fun p e s m below meth c X hw hr hk ls hl => ?_)
  have hx := X.1
  have hb := X.2.1
  have hl : lv_has ls 1 [(0, .ref (q 3))] := hl
  unfold xu_X3_seen at hU
  have hB := hU
  refine lv_aload_n hx hb dX3_seen_0 rfl (lv_at hl 0 rfl) ?_
  refine xr_geti X hw (xf_X3_15 X) 3 xl_A_Parser_at rfl dX3_seen_1 ?_
  refine lv_if_ne (tgt := 28) hx hb dX3_seen_4 (by decide) (fun hc => ?_) (fun hc => ?_)
  · replace hB := hB.1 hc
    refine lv_bipush (v := (28 : Int32)) hx hb dX3_seen_28 (by decide) ?_
    refine lv_goto (tgt := 45) hx hb dX3_seen_30 (by decide) ?_
    exact xr_iret X hw hr hk hB dX3_seen_45
  · replace hB := hB.2 hc
    refine lv_aload_n hx hb dX3_seen_7 rfl (lv_at hl 0 rfl) ?_
    refine xr_geti X hw (xf_X3_9 X) 3 xl_A_Parser_at rfl dX3_seen_8 ?_
    refine lv_if_lt (tgt := 28) hx hb dX3_seen_11 (by decide) (fun hc => ?_) (fun hc => ?_)
    · replace hB := hB.1 hc
      refine lv_bipush (v := (28 : Int32)) hx hb dX3_seen_28 (by decide) ?_
      refine lv_goto (tgt := 45) hx hb dX3_seen_30 (by decide) ?_
      exact xr_iret X hw hr hk hB dX3_seen_45
    · replace hB := hB.2 hc
      refine lv_aload_n hx hb dX3_seen_14 rfl (lv_at hl 0 rfl) ?_
      refine xr_geti X hw (xf_X3_9 X) 3 xl_A_Parser_at rfl dX3_seen_15 ?_
      refine lv_aload_n hx hb dX3_seen_18 rfl (lv_at hl 0 rfl) ?_
      refine xr_getr X hw (xf_X3_21 X) 3 xl_A_Parser_at rfl dX3_seen_19 ?_
      refine xr_geti X hw (xf_X3_46 X) 2 xl_A_Scanner_at rfl dX3_seen_22 ?_
      refine lv_icmp_lt (tgt := 33) hx hb dX3_seen_25 (by decide) (fun hc => ?_) (fun hc => ?_)
      · replace hB := hB.1 hc
        refine lv_aload_n hx hb dX3_seen_33 rfl (lv_at hl 0 rfl) ?_
        refine xr_getr X hw (xf_X3_21 X) 3 xl_A_Parser_at rfl dX3_seen_34 ?_
        refine xr_getr X hw (xf_X3_49 X) 2 xl_A_Scanner_at rfl dX3_seen_37 ?_
        refine lv_aload_n hx hb dX3_seen_40 rfl (lv_at hl 0 rfl) ?_
        refine xr_geti X hw (xf_X3_9 X) 3 xl_A_Parser_at rfl dX3_seen_41 ?_
        refine xr_iald X hw 25 xl_A_Scanner_kinds_at hB.1 dX3_seen_44 ?_
        replace hB := hB.2
        exact xr_iret X hw hr hk hB dX3_seen_45
      · replace hB := hB.2 hc
        refine lv_bipush (v := (28 : Int32)) hx hb dX3_seen_28 (by decide) ?_
        refine lv_goto (tgt := 45) hx hb dX3_seen_30 (by decide) ?_
        exact xr_iret X hw hr hk hB dX3_seen_45
theorem xm_X3_seen : xr_MW yX3_seen cX3_seen 1 (some .int) 0 := ⟨xt_3_26, xt_1_4, by decide, by decide, by decide +kernel⟩
theorem xp_X3_9 {p : Program} {s : State} {m : MethodId} {args : Array Value} {c : Code} {cc : ByteArray} {nL : Nat} {D : va_G} {cy : Nat → ClassId} {lay : List xw_E} {q : Nat → Nat} (X : xr_X p s m args c cc nL RX3 D cy lay q) : xr_P args s RX3 9 3 2 := ⟨RX3, TX3, 5, tyX3, rfl, by decide, fun w h => X.2.2.2.2.1 w (xt_inX3 w h), tyX3_ok, nmX3, Or.inl (X.2.2.2.2.1 _ xt_1_127), rfl, by decide +kernel⟩
theorem xm_X3_fail : xr_MW yX3_fail cX3_fail 2 none 1 := ⟨xt_3_34, xt_1_4, by decide, by decide, by decide +kernel⟩
set_option maxRecDepth 100000 in
set_option maxHeartbeats 4000000 in
theorem xc_X3_take (l : Launch) (D : va_G) (cy : Nat → ClassId) (q : Nat → Nat) (σ : xw_M) (a1 : Int32) {Z : xw_M → Prop} (hU : xu_X3_take σ a1 Z) : xr_CV l yX3_take cX3_take 2 { frames := 1, cells := 0, slots := 0, locals := 21 } D cy xl_A q σ [.ref (q 3), .int a1] Z := by
  refine xr_CV.of RX3 rfl (by decide) (Nat.le_of_ble_eq_true rfl) (fun p e s m below meth c X hw hr hk ls hl => ?_)
  have hx := X.1
  have hb := X.2.1
  have hl : lv_has ls 2 [(0, .ref (q 3)), (1, .int a1)] := hl
  unfold xu_X3_take at hU
  have hB := hU
  refine lv_aload_n hx hb dX3_take_0 rfl (lv_at hl 0 rfl) ?_
  refine xr_i hw (xr_runV (As := []) (rest := []) X hw 3 (xc_X3_seen l D cy q σ hB _) xm_X3_seen xt_3_23 xt_3_25 xt_p_6 ⟨Nat.le_of_ble_eq_true rfl, Nat.le_of_ble_eq_true rfl⟩ xl_A_Parser_at rfl rfl rfl rfl hl.1 (Nat.le_of_ble_eq_true rfl) dX3_take_1 ⟨Nat.zero_le _, Nat.zero_le _⟩) (fun r2 σ1 H locs hB hw => ?_)
  refine lv_iload_n hx hb dX3_take_4 rfl (lv_at hl 1 rfl) ?_
  refine lv_icmp_eq (tgt := 16) hx hb dX3_take_5 (by decide) (fun hc => ?_) (fun hc => ?_)
  · replace hB := hB.1 hc
    refine lv_aload_n hx hb dX3_take_16 rfl (lv_at hl 0 rfl) ?_
    refine xr_geti X hw (xf_X3_9 X) 3 xl_A_Parser_at rfl dX3_take_17 ?_
    refine lv_sipush (v := (400 : Int32)) hx hb dX3_take_20 (by decide) ?_
    refine lv_icmp_lt (tgt := 34) hx hb dX3_take_23 (by decide) (fun hc => ?_) (fun hc => ?_)
    · replace hB := hB.1 hc
      refine lv_aload_n hx hb dX3_take_34 rfl (lv_at hl 0 rfl) ?_
      refine lv_dup hx hb dX3_take_35 rfl ?_
      refine xr_geti X hw (xf_X3_9 X) 3 xl_A_Parser_at rfl dX3_take_36 ?_
      refine lv_iconst (v := (1 : Int32)) hx hb dX3_take_39 (by decide) ?_
      refine lv_iadd hx hb dX3_take_40 ?_
      refine xr_puti X hw (xp_X3_9 X) 3 xl_A_Parser_at rfl dX3_take_41 hB (fun σ3 H locs hB hw => ?_)
      exact xr_vret X hw hr hk hB dX3_take_44
    · replace hB := hB.2 hc
      refine lv_aload_n hx hb dX3_take_26 rfl (lv_at hl 0 rfl) ?_
      refine lv_iconst (v := (2 : Int32)) hx hb dX3_take_27 (by decide) ?_
      refine xr_v hw (xr_runV (As := [.int (2 : Int32)]) (rest := []) X hw 3 (xc_X3_fail l D cy q σ1 (2 : Int32) hB _) xm_X3_fail xt_3_31 xt_3_33 xt_p_8 ⟨Nat.le_of_ble_eq_true rfl, Nat.le_of_ble_eq_true rfl⟩ xl_A_Parser_at rfl rfl rfl rfl hl.1 (Nat.le_of_ble_eq_true rfl) dX3_take_28 ⟨Nat.zero_le _, Nat.zero_le _⟩) (fun σ4 H locs hB hw => ?_)
      refine lv_goto (tgt := 44) hx hb dX3_take_31 (by decide) ?_
      exact xr_vret X hw hr hk hB dX3_take_44
  · replace hB := hB.2 hc
    refine lv_aload_n hx hb dX3_take_8 rfl (lv_at hl 0 rfl) ?_
    refine lv_iconst (v := (1 : Int32)) hx hb dX3_take_9 (by decide) ?_
    refine xr_v hw (xr_runV (As := [.int (1 : Int32)]) (rest := []) X hw 3 (xc_X3_fail l D cy q σ1 (1 : Int32) hB _) xm_X3_fail xt_3_31 xt_3_33 xt_p_8 ⟨Nat.le_of_ble_eq_true rfl, Nat.le_of_ble_eq_true rfl⟩ xl_A_Parser_at rfl rfl rfl rfl hl.1 (Nat.le_of_ble_eq_true rfl) dX3_take_10 ⟨Nat.zero_le _, Nat.zero_le _⟩) (fun σ5 H locs hB hw => ?_)
    refine lv_goto (tgt := 44) hx hb dX3_take_13 (by decide) ?_
    exact xr_vret X hw hr hk hB dX3_take_44
theorem xm_X3_take : xr_MW yX3_take cX3_take 2 none 1 := ⟨xt_3_38, xt_1_4, by decide, by decide, by decide +kernel⟩
theorem xf_X3_60 {p : Program} {s : State} {m : MethodId} {args : Array Value} {c : Code} {cc : ByteArray} {nL : Nat} {D : va_G} {cy : Nat → ClassId} {lay : List xw_E} {q : Nat → Nat} (X : xr_X p s m args c cc nL RX3 D cy lay q) : xr_F args s RX3 60 6 3 := ⟨RX6, TX6, 5, tyX6, rfl, by decide, fun w h => X.2.2.2.2.1 w (xt_inX6 w h), tyX6_ok, nmX6, Or.inr (va_Nw.use rfl (X.2.2.2.2.2.1.1 _ (List.mem_of_getElem? (i := 10) rfl)))⟩
set_option maxRecDepth 100000 in
set_option maxHeartbeats 4000000 in
theorem xc_X3_takeInt (l : Launch) (D : va_G) (cy : Nat → ClassId) (q : Nat → Nat) (σ : xw_M)  {Z : Int32 → xw_M → Prop} (hU : xu_X3_takeInt σ Z) : xr_CI l yX3_takeInt cX3_takeInt 2 .int { frames := 2, cells := 0, slots := 0, locals := 42 } D cy xl_A q σ [.ref (q 3)] Z := by
  refine xr_CI.of RX3 rfl (by decide) (Nat.le_of_ble_eq_true rfl) (fun p e s m below meth c X hw hr hk ls hl => ?_)
  have hx := X.1
  have hb := X.2.1
  have hl : lv_has ls 2 [(0, .ref (q 3))] := hl
  unfold xu_X3_takeInt at hU
  have hB := hU
  refine lv_aload_n hx hb dX3_takeInt_0 rfl (lv_at hl 0 rfl) ?_
  refine xr_i hw (xr_runV (As := []) (rest := []) X hw 3 (xc_X3_seen l D cy q σ hB _) xm_X3_seen xt_3_23 xt_3_25 xt_p_6 ⟨Nat.le_of_ble_eq_true rfl, Nat.le_of_ble_eq_true rfl⟩ xl_A_Parser_at rfl rfl rfl rfl hl.1 (Nat.le_of_ble_eq_true rfl) dX3_takeInt_1 ⟨Nat.zero_le _, Nat.zero_le _⟩) (fun r2 σ1 H locs hB hw => ?_)
  refine lv_bipush (v := (16 : Int32)) hx hb dX3_takeInt_4 (by decide) ?_
  refine lv_icmp_ne (tgt := 24) hx hb dX3_takeInt_6 (by decide) (fun hc => ?_) (fun hc => ?_)
  · replace hB := hB.1 hc
    refine lv_iconst (v := (0 : Int32)) hx hb dX3_takeInt_24 (by decide) ?_
    refine lv_istore_n (lv' := [(1, .int (0 : Int32)), (0, .ref (q 3))]) hx hb dX3_takeInt_25 rfl hl (by decide) rfl (fun ls hl => ?_)
    refine lv_aload_n hx hb dX3_takeInt_26 rfl (lv_at hl 1 rfl) ?_
    refine lv_bipush (v := (16 : Int32)) hx hb dX3_takeInt_27 (by decide) ?_
    refine xr_v hw (xr_runV (As := [.int (16 : Int32)]) (rest := []) X hw 3 (xc_X3_take l D cy q σ1 (16 : Int32) hB _) xm_X3_take xt_3_35 xt_3_37 xt_p_9 ⟨Nat.le_of_ble_eq_true rfl, Nat.le_of_ble_eq_true rfl⟩ xl_A_Parser_at rfl rfl rfl rfl hl.1 (Nat.le_of_ble_eq_true rfl) dX3_takeInt_29 ⟨Nat.zero_le _, Nat.zero_le _⟩) (fun σ3 H locs hB hw => ?_)
    refine lv_iload_n hx hb dX3_takeInt_32 rfl (lv_at hl 0 rfl) ?_
    exact xr_iret X hw hr hk hB dX3_takeInt_33
  · replace hB := hB.2 hc
    refine lv_aload_n hx hb dX3_takeInt_9 rfl (lv_at hl 0 rfl) ?_
    refine xr_getr X hw (xf_X3_21 X) 3 xl_A_Parser_at rfl dX3_takeInt_10 ?_
    refine xr_getr X hw (xf_X3_60 X) 2 xl_A_Scanner_at rfl dX3_takeInt_13 ?_
    refine lv_aload_n hx hb dX3_takeInt_16 rfl (lv_at hl 0 rfl) ?_
    refine xr_geti X hw (xf_X3_9 X) 3 xl_A_Parser_at rfl dX3_takeInt_17 ?_
    refine xr_iald X hw 27 xl_A_Scanner_values_at hB.1 dX3_takeInt_20 ?_
    replace hB := hB.2
    refine lv_goto (tgt := 25) hx hb dX3_takeInt_21 (by decide) ?_
    refine lv_istore_n (lv' := [(1, .int (σ1.1 27 (Int32.toNatClampNeg (σ1.1 3 2)))), (0, .ref (q 3))]) hx hb dX3_takeInt_25 rfl hl (by decide) rfl (fun ls hl => ?_)
    refine lv_aload_n hx hb dX3_takeInt_26 rfl (lv_at hl 1 rfl) ?_
    refine lv_bipush (v := (16 : Int32)) hx hb dX3_takeInt_27 (by decide) ?_
    refine xr_v hw (xr_runV (As := [.int (16 : Int32)]) (rest := []) X hw 3 (xc_X3_take l D cy q σ1 (16 : Int32) hB _) xm_X3_take xt_3_35 xt_3_37 xt_p_9 ⟨Nat.le_of_ble_eq_true rfl, Nat.le_of_ble_eq_true rfl⟩ xl_A_Parser_at rfl rfl rfl rfl hl.1 (Nat.le_of_ble_eq_true rfl) dX3_takeInt_29 ⟨Nat.zero_le _, Nat.zero_le _⟩) (fun σ4 H locs hB hw => ?_)
    refine lv_iload_n hx hb dX3_takeInt_32 rfl (lv_at hl 0 rfl) ?_
    exact xr_iret X hw hr hk hB dX3_takeInt_33
