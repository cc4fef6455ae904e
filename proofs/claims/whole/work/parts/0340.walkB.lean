theorem xf_X12_13 {p : Program} {s : State} {m : MethodId} {args : Array Value} {c : Code} {cc : ByteArray} {nL : Nat} {D : va_G} {cy : Nat → ClassId} {lay : List xw_E} {q : Nat → Nat} (X : xr_X p s m args c cc nL RX12 D cy lay q) : xr_F args s RX12 13 12 1 := ⟨RX12, TX12, 77, tyX12, rfl, by decide, fun w h => X.2.2.2.2.1 w (xt_inX12 w h), tyX12_ok, nmX12, Or.inl (X.2.2.2.2.1 _ xt_4_174)⟩
theorem xf_X12_198 {p : Program} {s : State} {m : MethodId} {args : Array Value} {c : Code} {cc : ByteArray} {nL : Nat} {D : va_G} {cy : Nat → ClassId} {lay : List xw_E} {q : Nat → Nat} (X : xr_X p s m args c cc nL RX12 D cy lay q) : xr_F args s RX12 198 12 2 := ⟨RX12, TX12, 77, tyX12, rfl, by decide, fun w h => X.2.2.2.2.1 w (xt_inX12 w h), tyX12_ok, nmX12, Or.inl (X.2.2.2.2.1 _ xt_4_175)⟩
theorem xp_X12_198 {p : Program} {s : State} {m : MethodId} {args : Array Value} {c : Code} {cc : ByteArray} {nL : Nat} {D : va_G} {cy : Nat → ClassId} {lay : List xw_E} {q : Nat → Nat} (X : xr_X p s m args c cc nL RX12 D cy lay q) : xr_P args s RX12 198 12 2 := ⟨RX12, TX12, 77, tyX12, rfl, by decide, fun w h => X.2.2.2.2.1 w (xt_inX12 w h), tyX12_ok, nmX12, Or.inl (X.2.2.2.2.1 _ xt_4_175), rfl, by decide +kernel⟩
set_option maxRecDepth 100000 in
set_option maxHeartbeats 4000000 in
theorem xc_X12_put (l : Launch) (D : va_G) (cy : Nat → ClassId) (q : Nat → Nat) (σ : xw_M) (a1 : Int32) {Z : xw_M → Prop} (hU : xu_X12_put σ a1 Z) : xr_CV l yX12_put cX12_put 3 { frames := 0, cells := 0, slots := 0, locals := 0 } D cy xl_B q σ [.ref (q 0), .int a1] Z := by
  refine xr_CV.of RX12 rfl (by decide) (Nat.le_of_ble_eq_true rfl) (fun p e s m below meth c X hw hr hk ls hl => ?_)
  have hx := X.1
  have hb := X.2.1
  have hl : lv_has ls 3 [(0, .ref (q 0)), (1, .int a1)] := hl
  have hB := hU (fun (σ : xw_M) (v2 : Int32) => ∀ (H : Heap) (locs : List Loc) (ls : Array Slot), xr_H D cy xl_B q s σ H locs → lv_has ls 3 [(0, .ref (q 0)), (1, .int a1), (2, .int v2)] → W p l e ({ frames := 0, cells := 0, slots := 0, locals := 0 } : Room) s m ([.ref (q 0), .int a1] : List Value).toArray below meth c H locs 0 0 (MQ below (va_Qv Z (xr_po D cy xl_B q) (xw_A xl_B q s.heap.size)) ([.ref (q 0), .int a1] : List Value).toArray s 0 0 (xw_A xl_B q s.heap.size)) (F0 m 3 ls []))
    (by
    intro σ v2 hB H locs ls hw hl
    unfold xb_X12_put_3 at hB
    refine lv_iload_n hx hb dX12_put_3 rfl (lv_at hl 2 rfl) ?_
    refine lv_if_lt (tgt := 36) hx hb dX12_put_4 (by decide) (fun hc => ?_) (fun hc => ?_)
    · replace hB := hB.1 hc
      exact xr_vret X hw hr hk hB dX12_put_36
    · replace hB := hB.2 hc
      refine lv_aload_n hx hb dX12_put_7 rfl (lv_at hl 0 rfl) ?_
      refine xr_getr X hw (xf_X12_13 X) 0 xl_B_ShowRingsModel_at rfl dX12_put_8 ?_
      refine lv_aload_n hx hb dX12_put_11 rfl (lv_at hl 0 rfl) ?_
      refine xr_geti X hw (xf_X12_198 X) 0 xl_B_ShowRingsModel_at rfl dX12_put_12 ?_
      refine lv_iload_n hx hb dX12_put_15 rfl (lv_at hl 1 rfl) ?_
      refine lv_iload_n hx hb dX12_put_16 rfl (lv_at hl 2 rfl) ?_
      refine lv_ishr hx hb dX12_put_17 ?_
      refine lv_i2b (v := (Int8.toInt32 (Int32.toInt8 (a1 >>> (v2 &&& 31))))) hx hb dX12_put_18 rfl ?_
      refine xr_bast X hw 1 xl_B_ShowRingsModel_tape_at hB.1 dX12_put_19 hB.2 (fun σ1 H locs hB hw => ?_)
      refine lv_aload_n hx hb dX12_put_20 rfl (lv_at hl 0 rfl) ?_
      refine lv_dup hx hb dX12_put_21 rfl ?_
      refine xr_geti X hw (xf_X12_198 X) 0 xl_B_ShowRingsModel_at rfl dX12_put_22 ?_
      refine lv_iconst (v := (1 : Int32)) hx hb dX12_put_25 (by decide) ?_
      refine lv_iadd hx hb dX12_put_26 ?_
      refine xr_puti X hw (xp_X12_198 X) 0 xl_B_ShowRingsModel_at rfl dX12_put_27 hB (fun σ2 H locs hB hw => ?_)
      refine lv_iinc (v := (v2 + (-8 : Int32))) (lv' := [(2, .int (v2 + (-8 : Int32))), (0, .ref (q 0)), (1, .int a1)]) hx hb dX12_put_30 hl (k := 2) rfl rfl (by decide) rfl (fun ls hl => ?_)
      refine lv_goto (tgt := 3) hx hb dX12_put_33 (by decide) ?_
      exact hB _ _ _ hw (lv_sub hl [1, 2, 0] rfl))
  unfold xb_X12_put_e at hB
  refine lv_bipush (v := (24 : Int32)) hx hb dX12_put_0 (by decide) ?_
  refine lv_istore_n (lv' := [(2, .int (24 : Int32)), (0, .ref (q 0)), (1, .int a1)]) hx hb dX12_put_2 rfl hl (by decide) rfl (fun ls hl => ?_)
  exact hB _ _ _ hw (lv_sub hl [1, 2, 0] rfl)
theorem xm_X12_put : xr_MW yX12_put cX12_put 3 none 1 := ⟨xt_5_173, xt_1_13, by decide, by decide, by decide +kernel⟩
set_option maxRecDepth 100000 in
set_option maxHeartbeats 4000000 in
theorem xc_X12_feed (l : Launch) (D : va_G) (cy : Nat → ClassId) (q : Nat → Nat) (σ : xw_M) (a1 : Int32) (a2 : Int32) (a3 : Int32) (a4 : Int32) (a5 : Int32) {Z : Int32 → xw_M → Prop} (hU : xu_X12_feed σ a1 a2 a3 a4 a5 Z) : xr_CI l yX12_feed cX12_feed 6 .int { frames := 1, cells := 0, slots := 0, locals := 22 } D cy xl_B q σ [.ref (q 0), .int a1, .int a2, .int a3, .int a4, .int a5] Z := by
  refine xr_CI.of RX12 rfl (by decide) (Nat.le_of_ble_eq_true rfl) (fun p e s m below meth c X hw hr hk ls hl => ?_)
  have hx := X.1
  have hb := X.2.1
  have hl : lv_has ls 6 [(0, .ref (q 0)), (1, .int a1), (2, .int a2), (3, .int a3), (4, .int a4), (5, .int a5)] := hl
  unfold xu_X12_feed at hU
  have hB := hU
  refine lv_aload_n hx hb dX12_feed_0 rfl (lv_at hl 0 rfl) ?_
  refine xr_geti X hw (xf_X12_198 X) 0 xl_B_ShowRingsModel_at rfl dX12_feed_1 ?_
  refine lv_bipush (v := (20 : Int32)) hx hb dX12_feed_4 (by decide) ?_
  refine lv_iadd hx hb dX12_feed_6 ?_
  refine lv_sipush (v := (2000 : Int32)) hx hb dX12_feed_7 (by decide) ?_
  refine lv_icmp_le (tgt := 15) hx hb dX12_feed_10 (by decide) (fun hc => ?_) (fun hc => ?_)
  · replace hB := hB.1 hc
    refine lv_aload_n hx hb dX12_feed_15 rfl (lv_at hl 0 rfl) ?_
    refine lv_iload_n hx hb dX12_feed_16 rfl (lv_at hl 1 rfl) ?_
    refine xr_v hw (xr_runV (As := [.int a1]) (rest := []) X hw 0 (xc_X12_put l D cy q σ a1 hB _) xm_X12_put xt_5_170 xt_5_172 xt_p_28 ⟨Nat.le_of_ble_eq_true rfl, Nat.le_of_ble_eq_true rfl⟩ xl_B_ShowRingsModel_at rfl rfl rfl rfl hl.1 (Nat.le_of_ble_eq_true rfl) dX12_feed_17 ⟨Nat.zero_le _, Nat.zero_le _⟩) (fun σ1 H locs hB hw => ?_)
    refine lv_aload_n hx hb dX12_feed_20 rfl (lv_at hl 0 rfl) ?_
    refine lv_iload_n hx hb dX12_feed_21 rfl (lv_at hl 2 rfl) ?_
    refine xr_v hw (xr_runV (As := [.int a2]) (rest := []) X hw 0 (xc_X12_put l D cy q σ1 a2 hB _) xm_X12_put xt_5_170 xt_5_172 xt_p_28 ⟨Nat.le_of_ble_eq_true rfl, Nat.le_of_ble_eq_true rfl⟩ xl_B_ShowRingsModel_at rfl rfl rfl rfl hl.1 (Nat.le_of_ble_eq_true rfl) dX12_feed_22 ⟨Nat.zero_le _, Nat.zero_le _⟩) (fun σ2 H locs hB hw => ?_)
    refine lv_aload_n hx hb dX12_feed_25 rfl (lv_at hl 0 rfl) ?_
    refine lv_iload_n hx hb dX12_feed_26 rfl (lv_at hl 3 rfl) ?_
    refine xr_v hw (xr_runV (As := [.int a3]) (rest := []) X hw 0 (xc_X12_put l D cy q σ2 a3 hB _) xm_X12_put xt_5_170 xt_5_172 xt_p_28 ⟨Nat.le_of_ble_eq_true rfl, Nat.le_of_ble_eq_true rfl⟩ xl_B_ShowRingsModel_at rfl rfl rfl rfl hl.1 (Nat.le_of_ble_eq_true rfl) dX12_feed_27 ⟨Nat.zero_le _, Nat.zero_le _⟩) (fun σ3 H locs hB hw => ?_)
    refine lv_aload_n hx hb dX12_feed_30 rfl (lv_at hl 0 rfl) ?_
    refine lv_iload hx hb dX12_feed_31 (lv_at hl 4 rfl) ?_
    refine xr_v hw (xr_runV (As := [.int a4]) (rest := []) X hw 0 (xc_X12_put l D cy q σ3 a4 hB _) xm_X12_put xt_5_170 xt_5_172 xt_p_28 ⟨Nat.le_of_ble_eq_true rfl, Nat.le_of_ble_eq_true rfl⟩ xl_B_ShowRingsModel_at rfl rfl rfl rfl hl.1 (Nat.le_of_ble_eq_true rfl) dX12_feed_33 ⟨Nat.zero_le _, Nat.zero_le _⟩) (fun σ4 H locs hB hw => ?_)
    refine lv_aload_n hx hb dX12_feed_36 rfl (lv_at hl 0 rfl) ?_
    refine lv_iload hx hb dX12_feed_37 (lv_at hl 5 rfl) ?_
    refine xr_v hw (xr_runV (As := [.int a5]) (rest := []) X hw 0 (xc_X12_put l D cy q σ4 a5 hB _) xm_X12_put xt_5_170 xt_5_172 xt_p_28 ⟨Nat.le_of_ble_eq_true rfl, Nat.le_of_ble_eq_true rfl⟩ xl_B_ShowRingsModel_at rfl rfl rfl rfl hl.1 (Nat.le_of_ble_eq_true rfl) dX12_feed_39 ⟨Nat.zero_le _, Nat.zero_le _⟩) (fun σ5 H locs hB hw => ?_)
    refine lv_aload_n hx hb dX12_feed_42 rfl (lv_at hl 0 rfl) ?_
    refine xr_geti X hw (xf_X12_198 X) 0 xl_B_ShowRingsModel_at rfl dX12_feed_43 ?_
    exact xr_iret X hw hr hk hB dX12_feed_46
  · replace hB := hB.2 hc
    refine lv_iconst (v := (-1 : Int32)) hx hb dX12_feed_13 (by decide) ?_
    exact xr_iret X hw hr hk hB dX12_feed_14
set_option maxRecDepth 100000 in
set_option maxHeartbeats 4000000 in
theorem xc_X12_back (l : Launch) (D : va_G) (cy : Nat → ClassId) (q : Nat → Nat) (σ : xw_M) (a1 : Int32) {Z : Int32 → xw_M → Prop} (hU : xu_X12_back σ a1 Z) : xr_CI l yX12_back cX12_back 2 .int { frames := 0, cells := 0, slots := 0, locals := 0 } D cy xl_B q σ [.ref (q 0), .int a1] Z := by
  refine xr_CI.of RX12 rfl (by decide) (Nat.le_of_ble_eq_true rfl) (fun p e s m below meth c X hw hr hk ls hl => ?_)
  have hx := X.1
  have hb := X.2.1
  have hl : lv_has ls 2 [(0, .ref (q 0)), (1, .int a1)] := hl
  unfold xu_X12_back at hU
  have hB := hU
  refine lv_iload_n hx hb dX12_back_0 rfl (lv_at hl 1 rfl) ?_
  refine lv_if_lt (tgt := 12) hx hb dX12_back_1 (by decide) (fun hc => ?_) (fun hc => ?_)
  · replace hB := hB.1 hc
    refine lv_iconst (v := (-1 : Int32)) hx hb dX12_back_12 (by decide) ?_
    exact xr_iret X hw hr hk hB dX12_back_13
  · replace hB := hB.2 hc
    refine lv_iload_n hx hb dX12_back_4 rfl (lv_at hl 1 rfl) ?_
    refine lv_aload_n hx hb dX12_back_5 rfl (lv_at hl 0 rfl) ?_
    refine xr_geti X hw (xf_X12_198 X) 0 xl_B_ShowRingsModel_at rfl dX12_back_6 ?_
    refine lv_icmp_le (tgt := 14) hx hb dX12_back_9 (by decide) (fun hc => ?_) (fun hc => ?_)
    · replace hB := hB.1 hc
      refine lv_aload_n hx hb dX12_back_14 rfl (lv_at hl 0 rfl) ?_
      refine lv_dup hx hb dX12_back_15 rfl ?_
      refine xr_geti X hw (xf_X12_198 X) 0 xl_B_ShowRingsModel_at rfl dX12_back_16 ?_
      refine lv_iload_n hx hb dX12_back_19 rfl (lv_at hl 1 rfl) ?_
      refine lv_isub hx hb dX12_back_20 ?_
      refine xr_puti X hw (xp_X12_198 X) 0 xl_B_ShowRingsModel_at rfl dX12_back_21 hB (fun σ1 H locs hB hw => ?_)
      refine lv_aload_n hx hb dX12_back_24 rfl (lv_at hl 0 rfl) ?_
      refine xr_geti X hw (xf_X12_198 X) 0 xl_B_ShowRingsModel_at rfl dX12_back_25 ?_
      exact xr_iret X hw hr hk hB dX12_back_28
    · replace hB := hB.2 hc
      refine lv_iconst (v := (-1 : Int32)) hx hb dX12_back_12 (by decide) ?_
      exact xr_iret X hw hr hk hB dX12_back_13
theorem xf_X12_205 {p : Program} {s : State} {m : MethodId} {args : Array Value} {c : Code} {cc : ByteArray} {nL : Nat} {D : va_G} {cy : Nat → ClassId} {lay : List xw_E} {q : Nat → Nat} (X : xr_X p s m args c cc nL RX12 D cy lay q) : xr_F args s RX12 205 12 4 := ⟨RX12, TX12, 77, tyX12, rfl, by decide, fun w h => X.2.2.2.2.1 w (xt_inX12 w h), tyX12_ok, nmX12, Or.inl (X.2.2.2.2.1 _ xt_4_177)⟩
theorem xf_X12_17 {p : Program} {s : State} {m : MethodId} {args : Array Value} {c : Code} {cc : ByteArray} {nL : Nat} {D : va_G} {cy : Nat → ClassId} {lay : List xw_E} {q : Nat → Nat} (X : xr_X p s m args c cc nL RX12 D cy lay q) : xr_F args s RX12 17 12 3 := ⟨RX12, TX12, 77, tyX12, rfl, by decide, fun w h => X.2.2.2.2.1 w (xt_inX12 w h), tyX12_ok, nmX12, Or.inl (X.2.2.2.2.1 _ xt_4_176)⟩
set_option maxRecDepth 100000 in
set_option maxHeartbeats 4000000 in
theorem xc_X12_at (l : Launch) (D : va_G) (cy : Nat → ClassId) (q : Nat → Nat) (σ : xw_M) (a1 : Int32) {Z : Int32 → xw_M → Prop} (hU : xu_X12_at σ a1 Z) : xr_CI l yX12_at cX12_at 2 .int { frames := 0, cells := 0, slots := 0, locals := 0 } D cy xl_B q σ [.ref (q 0), .int a1] Z := by
  refine xr_CI.of RX12 rfl (by decide) (Nat.le_of_ble_eq_true rfl) (fun p e s m below meth c X hw hr hk ls hl => ?_)
  have hx := X.1
  have hb := X.2.1
  have hl : lv_has ls 2 [(0, .ref (q 0)), (1, .int a1)] := hl
  unfold xu_X12_at at hU
  have hB := hU
  refine lv_iload_n hx hb dX12_at_0 rfl (lv_at hl 1 rfl) ?_
  refine lv_aload_n hx hb dX12_at_1 rfl (lv_at hl 0 rfl) ?_
  refine xr_geti X hw (xf_X12_205 X) 0 xl_B_ShowRingsModel_at rfl dX12_at_2 ?_
  refine lv_icmp_ge (tgt := 21) hx hb dX12_at_5 (by decide) (fun hc => ?_) (fun hc => ?_)
  · replace hB := hB.1 hc
    refine lv_iconst (v := (0 : Int32)) hx hb dX12_at_21 (by decide) ?_
    exact xr_iret X hw hr hk hB dX12_at_22
  · replace hB := hB.2 hc
    refine lv_aload_n hx hb dX12_at_8 rfl (lv_at hl 0 rfl) ?_
    refine xr_getr X hw (xf_X12_17 X) 0 xl_B_ShowRingsModel_at rfl dX12_at_9 ?_
    refine lv_iload_n hx hb dX12_at_12 rfl (lv_at hl 1 rfl) ?_
    refine xr_bald X hw 2 xl_B_ShowRingsModel_text_at hB.1 dX12_at_13 ?_
    replace hB := hB.2
    refine lv_sipush (v := (255 : Int32)) hx hb dX12_at_14 (by decide) ?_
    refine lv_iand hx hb dX12_at_17 ?_
    refine lv_goto (tgt := 22) hx hb dX12_at_18 (by decide) ?_
    exact xr_iret X hw hr hk hB dX12_at_22
set_option maxRecDepth 100000 in
set_option maxHeartbeats 4000000 in
theorem xc_X12_isDigit (l : Launch) (D : va_G) (cy : Nat → ClassId) (q : Nat → Nat) (σ : xw_M) (a0 : Int32) {Z : Int32 → xw_M → Prop} (hU : xu_X12_isDigit σ a0 Z) : xr_CI l yX12_isDigit cX12_isDigit 1 .boolean { frames := 0, cells := 0, slots := 0, locals := 0 } D cy xl_B q σ [.int a0] Z := by
  refine xr_CI.of RX12 rfl (by decide) (Nat.le_of_ble_eq_true rfl) (fun p e s m below meth c X hw hr hk ls hl => ?_)
  have hx := X.1
  have hb := X.2.1
  have hl : lv_has ls 1 [(0, .int a0)] := hl
  unfold xu_X12_isDigit at hU
  have hB := hU
  refine lv_iload_n hx hb dX12_isDigit_0 rfl (lv_at hl 0 rfl) ?_
  refine lv_bipush (v := (48 : Int32)) hx hb dX12_isDigit_1 (by decide) ?_
  refine lv_icmp_lt (tgt := 16) hx hb dX12_isDigit_3 (by decide) (fun hc => ?_) (fun hc => ?_)
  · replace hB := hB.1 hc
    refine lv_iconst (v := (0 : Int32)) hx hb dX12_isDigit_16 (by decide) ?_
    exact xr_zret X hw hr hk hB dX12_isDigit_17
  · replace hB := hB.2 hc
    refine lv_iload_n hx hb dX12_isDigit_6 rfl (lv_at hl 0 rfl) ?_
    refine lv_bipush (v := (57 : Int32)) hx hb dX12_isDigit_7 (by decide) ?_
    refine lv_icmp_gt (tgt := 16) hx hb dX12_isDigit_9 (by decide) (fun hc => ?_) (fun hc => ?_)
    · replace hB := hB.1 hc
      refine lv_iconst (v := (0 : Int32)) hx hb dX12_isDigit_16 (by decide) ?_
      exact xr_zret X hw hr hk hB dX12_isDigit_17
    · replace hB := hB.2 hc
      refine lv_iconst (v := (1 : Int32)) hx hb dX12_isDigit_12 (by decide) ?_
      refine lv_goto (tgt := 17) hx hb dX12_isDigit_13 (by decide) ?_
      exact xr_zret X hw hr hk hB dX12_isDigit_17
set_option maxRecDepth 100000 in
set_option maxHeartbeats 4000000 in
theorem xc_X12_isLetter (l : Launch) (D : va_G) (cy : Nat → ClassId) (q : Nat → Nat) (σ : xw_M) (a0 : Int32) {Z : Int32 → xw_M → Prop} (hU : xu_X12_isLetter σ a0 Z) : xr_CI l yX12_isLetter cX12_isLetter 1 .boolean { frames := 0, cells := 0, slots := 0, locals := 0 } D cy xl_B q σ [.int a0] Z := by
  refine xr_CI.of RX12 rfl (by decide) (Nat.le_of_ble_eq_true rfl) (fun p e s m below meth c X hw hr hk ls hl => ?_)
  have hx := X.1
  have hb := X.2.1
  have hl : lv_has ls 1 [(0, .int a0)] := hl
  unfold xu_X12_isLetter at hU
  have hB := hU
  refine lv_iload_n hx hb dX12_isLetter_0 rfl (lv_at hl 0 rfl) ?_
  refine lv_bipush (v := (97 : Int32)) hx hb dX12_isLetter_1 (by decide) ?_
  refine lv_icmp_lt (tgt := 16) hx hb dX12_isLetter_3 (by decide) (fun hc => ?_) (fun hc => ?_)
  · replace hB := hB.1 hc
    refine lv_iconst (v := (0 : Int32)) hx hb dX12_isLetter_16 (by decide) ?_
    exact xr_zret X hw hr hk hB dX12_isLetter_17
  · replace hB := hB.2 hc
    refine lv_iload_n hx hb dX12_isLetter_6 rfl (lv_at hl 0 rfl) ?_
    refine lv_bipush (v := (122 : Int32)) hx hb dX12_isLetter_7 (by decide) ?_
    refine lv_icmp_gt (tgt := 16) hx hb dX12_isLetter_9 (by decide) (fun hc => ?_) (fun hc => ?_)
    · replace hB := hB.1 hc
      refine lv_iconst (v := (0 : Int32)) hx hb dX12_isLetter_16 (by decide) ?_
      exact xr_zret X hw hr hk hB dX12_isLetter_17
    · replace hB := hB.2 hc
      refine lv_iconst (v := (1 : Int32)) hx hb dX12_isLetter_12 (by decide) ?_
      refine lv_goto (tgt := 17) hx hb dX12_isLetter_13 (by decide) ?_
      exact xr_zret X hw hr hk hB dX12_isLetter_17
set_option maxRecDepth 100000 in
set_option maxHeartbeats 4000000 in
theorem xc_X12_more (l : Launch) (D : va_G) (cy : Nat → ClassId) (q : Nat → Nat) (σ : xw_M) (a0 : Int64) (a2 : Int32) {Z : Int64 → xw_M → Prop} (hU : xu_X12_more σ a0 a2 Z) : xr_CL l yX12_more cX12_more 3 { frames := 0, cells := 0, slots := 0, locals := 0 } D cy xl_B q σ [.long a0, .int a2] Z := by
  refine xr_CL.of RX12 rfl (by decide) (Nat.le_of_ble_eq_true rfl) (fun p e s m below meth c X hw hr hk ls hl => ?_)
  have hx := X.1
  have hb := X.2.1
  have hl : lv_has ls 3 [(0, .long a0), (2, .int a2)] := hl
  unfold xu_X12_more at hU
  have hB := hU
  refine lv_iload_n hx hb dX12_more_0 rfl (lv_at hl 1 rfl) ?_
  refine lv_if_ne (tgt := 8) hx hb dX12_more_1 (by decide) (fun hc => ?_) (fun hc => ?_)
  · replace hB := hB.1 hc
    refine lv_ldc2 (v := 27) hx hb X.2.2.2.1 (X.2.2.2.2.1 _ xt_4_173) dX12_more_8 ?_
    refine lv_lload_n hx hb dX12_more_11 rfl (lv_at hl 0 rfl) ?_
    refine lv_lmul hx hb dX12_more_12 ?_
    refine lv_iload_n hx hb dX12_more_13 rfl (lv_at hl 1 rfl) ?_
    refine lv_bipush (v := (97 : Int32)) hx hb dX12_more_14 (by decide) ?_
    refine lv_isub hx hb dX12_more_16 ?_
    refine lv_iconst (v := (1 : Int32)) hx hb dX12_more_17 (by decide) ?_
    refine lv_iadd hx hb dX12_more_18 ?_
    refine lv_i2l (v := (Int32.toInt64 ((a2 - (97 : Int32)) + (1 : Int32)))) hx hb dX12_more_19 rfl ?_
    refine lv_ladd hx hb dX12_more_20 ?_
    exact xr_lret X hw hr hk hB dX12_more_21
  · replace hB := hB.2 hc
    refine lv_lload_n hx hb dX12_more_4 rfl (lv_at hl 0 rfl) ?_
    refine lv_goto (tgt := 21) hx hb dX12_more_5 (by decide) ?_
    exact xr_lret X hw hr hk hB dX12_more_21
theorem xm_X12_more : xr_MW yX12_more cX12_more 3 (some .long) 2 := ⟨xt_4_172, xt_1_13, by decide, by decide, by decide +kernel⟩
set_option maxRecDepth 100000 in
set_option maxHeartbeats 4000000 in
theorem xc_X12_word (l : Launch) (D : va_G) (cy : Nat → ClassId) (q : Nat → Nat) (σ : xw_M) (a0 : Int32) (a1 : Int32) (a2 : Int32) (a3 : Int32) (a4 : Int32) (a5 : Int32) (a6 : Int32) {Z : Int64 → xw_M → Prop} (hU : xu_X12_word σ a0 a1 a2 a3 a4 a5 a6 Z) : xr_CL l yX12_word cX12_word 7 { frames := 1, cells := 0, slots := 0, locals := 22 } D cy xl_B q σ [.int a0, .int a1, .int a2, .int a3, .int a4, .int a5, .int a6] Z := by
  refine xr_CL.of RX12 rfl (by decide) (Nat.le_of_ble_eq_true rfl) (fun p e s m below meth c X hw hr hk ls hl => ?_)
  have hx := X.1
  have hb := X.2.1
  have hl : lv_has ls 7 [(0, .int a0), (1, .int a1), (2, .int a2), (3, .int a3), (4, .int a4), (5, .int a5), (6, .int a6)] := hl
  unfold xu_X12_word at hU
  have hB := hU
  refine lv_lconst (v := 0) hx hb dX12_word_0 (by decide) ?_
  refine lv_iload_n hx hb dX12_word_1 rfl (lv_at hl 0 rfl) ?_
  refine xr_l hw (xr_runS (As := [.long (0 : Int64), .int a0]) (rest := []) X hw (xc_X12_more l D cy q σ (0 : Int64) a0 hB _) xm_X12_more xt_4_170 xt_4_171 ⟨Nat.le_of_ble_eq_true rfl, Nat.le_of_ble_eq_true rfl⟩ rfl rfl hl.1 (Nat.le_of_ble_eq_true rfl) dX12_word_2 ⟨Nat.zero_le _, Nat.zero_le _⟩) (fun r2 σ1 H locs hB hw => ?_)
  refine lv_iload_n hx hb dX12_word_5 rfl (lv_at hl 1 rfl) ?_
  refine xr_l hw (xr_runS (As := [.long r2, .int a1]) (rest := []) X hw (xc_X12_more l D cy q σ1 r2 a1 hB _) xm_X12_more xt_4_170 xt_4_171 ⟨Nat.le_of_ble_eq_true rfl, Nat.le_of_ble_eq_true rfl⟩ rfl rfl hl.1 (Nat.le_of_ble_eq_true rfl) dX12_word_6 ⟨Nat.zero_le _, Nat.zero_le _⟩) (fun r4 σ3 H locs hB hw => ?_)
  refine lv_iload_n hx hb dX12_word_9 rfl (lv_at hl 2 rfl) ?_
  refine xr_l hw (xr_runS (As := [.long r4, .int a2]) (rest := []) X hw (xc_X12_more l D cy q σ3 r4 a2 hB _) xm_X12_more xt_4_170 xt_4_171 ⟨Nat.le_of_ble_eq_true rfl, Nat.le_of_ble_eq_true rfl⟩ rfl rfl hl.1 (Nat.le_of_ble_eq_true rfl) dX12_word_10 ⟨Nat.zero_le _, Nat.zero_le _⟩) (fun r6 σ5 H locs hB hw => ?_)
  refine lv_iload_n hx hb dX12_word_13 rfl (lv_at hl 3 rfl) ?_
  refine xr_l hw (xr_runS (As := [.long r6, .int a3]) (rest := []) X hw (xc_X12_more l D cy q σ5 r6 a3 hB _) xm_X12_more xt_4_170 xt_4_171 ⟨Nat.le_of_ble_eq_true rfl, Nat.le_of_ble_eq_true rfl⟩ rfl rfl hl.1 (Nat.le_of_ble_eq_true rfl) dX12_word_14 ⟨Nat.zero_le _, Nat.zero_le _⟩) (fun r8 σ7 H locs hB hw => ?_)
  refine lv_iload hx hb dX12_word_17 (lv_at hl 4 rfl) ?_
  refine xr_l hw (xr_runS (As := [.long r8, .int a4]) (rest := []) X hw (xc_X12_more l D cy q σ7 r8 a4 hB _) xm_X12_more xt_4_170 xt_4_171 ⟨Nat.le_of_ble_eq_true rfl, Nat.le_of_ble_eq_true rfl⟩ rfl rfl hl.1 (Nat.le_of_ble_eq_true rfl) dX12_word_19 ⟨Nat.zero_le _, Nat.zero_le _⟩) (fun r10 σ9 H locs hB hw => ?_)
  refine lv_iload hx hb dX12_word_22 (lv_at hl 5 rfl) ?_
  refine xr_l hw (xr_runS (As := [.long r10, .int a5]) (rest := []) X hw (xc_X12_more l D cy q σ9 r10 a5 hB _) xm_X12_more xt_4_170 xt_4_171 ⟨Nat.le_of_ble_eq_true rfl, Nat.le_of_ble_eq_true rfl⟩ rfl rfl hl.1 (Nat.le_of_ble_eq_true rfl) dX12_word_24 ⟨Nat.zero_le _, Nat.zero_le _⟩) (fun r12 σ11 H locs hB hw => ?_)
  refine lv_iload hx hb dX12_word_27 (lv_at hl 6 rfl) ?_
  refine xr_l hw (xr_runS (As := [.long r12, .int a6]) (rest := []) X hw (xc_X12_more l D cy q σ11 r12 a6 hB _) xm_X12_more xt_4_170 xt_4_171 ⟨Nat.le_of_ble_eq_true rfl, Nat.le_of_ble_eq_true rfl⟩ rfl rfl hl.1 (Nat.le_of_ble_eq_true rfl) dX12_word_29 ⟨Nat.zero_le _, Nat.zero_le _⟩) (fun r14 σ13 H locs hB hw => ?_)
  exact xr_lret X hw hr hk hB dX12_word_32
theorem xf_X12_20 {p : Program} {s : State} {m : MethodId} {args : Array Value} {c : Code} {cc : ByteArray} {nL : Nat} {D : va_G} {cy : Nat → ClassId} {lay : List xw_E} {q : Nat → Nat} (X : xr_X p s m args c cc nL RX12 D cy lay q) : xr_F args s RX12 20 12 5 := ⟨RX12, TX12, 77, tyX12, rfl, by decide, fun w h => X.2.2.2.2.1 w (xt_inX12 w h), tyX12_ok, nmX12, Or.inl (X.2.2.2.2.1 _ xt_4_178)⟩
theorem xf_X12_214 {p : Program} {s : State} {m : MethodId} {args : Array Value} {c : Code} {cc : ByteArray} {nL : Nat} {D : va_G} {cy : Nat → ClassId} {lay : List xw_E} {q : Nat → Nat} (X : xr_X p s m args c cc nL RX12 D cy lay q) : xr_F args s RX12 214 12 10 := ⟨RX12, TX12, 77, tyX12, rfl, by decide, fun w h => X.2.2.2.2.1 w (xt_inX12 w h), tyX12_ok, nmX12, Or.inl (X.2.2.2.2.1 _ xt_4_183)⟩
theorem xf_X12_24 {p : Program} {s : State} {m : MethodId} {args : Array Value} {c : Code} {cc : ByteArray} {nL : Nat} {D : va_G} {cy : Nat → ClassId} {lay : List xw_E} {q : Nat → Nat} (X : xr_X p s m args c cc nL RX12 D cy lay q) : xr_F args s RX12 24 12 6 := ⟨RX12, TX12, 77, tyX12, rfl, by decide, fun w h => X.2.2.2.2.1 w (xt_inX12 w h), tyX12_ok, nmX12, Or.inl (X.2.2.2.2.1 _ xt_4_179)⟩
theorem xf_X12_27 {p : Program} {s : State} {m : MethodId} {args : Array Value} {c : Code} {cc : ByteArray} {nL : Nat} {D : va_G} {cy : Nat → ClassId} {lay : List xw_E} {q : Nat → Nat} (X : xr_X p s m args c cc nL RX12 D cy lay q) : xr_F args s RX12 27 12 7 := ⟨RX12, TX12, 77, tyX12, rfl, by decide, fun w h => X.2.2.2.2.1 w (xt_inX12 w h), tyX12_ok, nmX12, Or.inl (X.2.2.2.2.1 _ xt_4_180)⟩
theorem xf_X12_30 {p : Program} {s : State} {m : MethodId} {args : Array Value} {c : Code} {cc : ByteArray} {nL : Nat} {D : va_G} {cy : Nat → ClassId} {lay : List xw_E} {q : Nat → Nat} (X : xr_X p s m args c cc nL RX12 D cy lay q) : xr_F args s RX12 30 12 8 := ⟨RX12, TX12, 77, tyX12, rfl, by decide, fun w h => X.2.2.2.2.1 w (xt_inX12 w h), tyX12_ok, nmX12, Or.inl (X.2.2.2.2.1 _ xt_4_181)⟩
theorem xp_X12_214 {p : Program} {s : State} {m : MethodId} {args : Array Value} {c : Code} {cc : ByteArray} {nL : Nat} {D : va_G} {cy : Nat → ClassId} {lay : List xw_E} {q : Nat → Nat} (X : xr_X p s m args c cc nL RX12 D cy lay q) : xr_P args s RX12 214 12 10 := ⟨RX12, TX12, 77, tyX12, rfl, by decide, fun w h => X.2.2.2.2.1 w (xt_inX12 w h), tyX12_ok, nmX12, Or.inl (X.2.2.2.2.1 _ xt_4_183), rfl, by decide +kernel⟩
set_option maxRecDepth 100000 in
set_option maxHeartbeats 4000000 in
theorem xc_X12_token (l : Launch) (D : va_G) (cy : Nat → ClassId) (q : Nat → Nat) (σ : xw_M) (a1 : Int32) (a2 : Int32) (a3 : Int32) (a4 : Int64) {Z : xw_M → Prop} (hU : xu_X12_token σ a1 a2 a3 a4 Z) : xr_CV l yX12_token cX12_token 6 { frames := 0, cells := 0, slots := 0, locals := 0 } D cy xl_B q σ [.ref (q 0), .int a1, .int a2, .int a3, .long a4] Z := by
  refine xr_CV.of RX12 rfl (by decide) (Nat.le_of_ble_eq_true rfl) (fun p e s m below meth c X hw hr hk ls hl => ?_)
  have hx := X.1
  have hb := X.2.1
  have hl : lv_has ls 6 [(0, .ref (q 0)), (1, .int a1), (2, .int a2), (3, .int a3), (4, .long a4)] := hl
  unfold xu_X12_token at hU
  have hB := hU
  refine lv_aload_n hx hb dX12_token_0 rfl (lv_at hl 0 rfl) ?_
  refine xr_getr X hw (xf_X12_20 X) 0 xl_B_ShowRingsModel_at rfl dX12_token_1 ?_
  refine lv_aload_n hx hb dX12_token_4 rfl (lv_at hl 0 rfl) ?_
  refine xr_geti X hw (xf_X12_214 X) 0 xl_B_ShowRingsModel_at rfl dX12_token_5 ?_
  refine lv_iload_n hx hb dX12_token_8 rfl (lv_at hl 1 rfl) ?_
  refine xr_iast X hw 3 xl_B_ShowRingsModel_tKind_at hB.1 dX12_token_9 hB.2 (fun σ1 H locs hB hw => ?_)
  refine lv_aload_n hx hb dX12_token_10 rfl (lv_at hl 0 rfl) ?_
  refine xr_getr X hw (xf_X12_24 X) 0 xl_B_ShowRingsModel_at rfl dX12_token_11 ?_
  refine lv_aload_n hx hb dX12_token_14 rfl (lv_at hl 0 rfl) ?_
  refine xr_geti X hw (xf_X12_214 X) 0 xl_B_ShowRingsModel_at rfl dX12_token_15 ?_
  refine lv_iload_n hx hb dX12_token_18 rfl (lv_at hl 2 rfl) ?_
  refine xr_iast X hw 4 xl_B_ShowRingsModel_tPlace_at hB.1 dX12_token_19 hB.2 (fun σ2 H locs hB hw => ?_)
  refine lv_aload_n hx hb dX12_token_20 rfl (lv_at hl 0 rfl) ?_
  refine xr_getr X hw (xf_X12_27 X) 0 xl_B_ShowRingsModel_at rfl dX12_token_21 ?_
  refine lv_aload_n hx hb dX12_token_24 rfl (lv_at hl 0 rfl) ?_
  refine xr_geti X hw (xf_X12_214 X) 0 xl_B_ShowRingsModel_at rfl dX12_token_25 ?_
  refine lv_iload_n hx hb dX12_token_28 rfl (lv_at hl 3 rfl) ?_
  refine xr_iast X hw 5 xl_B_ShowRingsModel_tValue_at hB.1 dX12_token_29 hB.2 (fun σ3 H locs hB hw => ?_)
  refine lv_aload_n hx hb dX12_token_30 rfl (lv_at hl 0 rfl) ?_
  refine xr_getr X hw (xf_X12_30 X) 0 xl_B_ShowRingsModel_at rfl dX12_token_31 ?_
  refine lv_aload_n hx hb dX12_token_34 rfl (lv_at hl 0 rfl) ?_
  refine xr_geti X hw (xf_X12_214 X) 0 xl_B_ShowRingsModel_at rfl dX12_token_35 ?_
  refine lv_lload hx hb dX12_token_38 (lv_at hl 4 rfl) ?_
  refine xr_last X hw 6 xl_B_ShowRingsModel_tName_at hB.1 dX12_token_40 hB.2 (fun σ4 H locs hB hw => ?_)
  refine lv_aload_n hx hb dX12_token_41 rfl (lv_at hl 0 rfl) ?_
  refine lv_dup hx hb dX12_token_42 rfl ?_
  refine xr_geti X hw (xf_X12_214 X) 0 xl_B_ShowRingsModel_at rfl dX12_token_43 ?_
  refine lv_iconst (v := (1 : Int32)) hx hb dX12_token_46 (by decide) ?_
  refine lv_iadd hx hb dX12_token_47 ?_
  refine xr_puti X hw (xp_X12_214 X) 0 xl_B_ShowRingsModel_at rfl dX12_token_48 hB (fun σ5 H locs hB hw => ?_)
  exact xr_vret X hw hr hk hB dX12_token_51
