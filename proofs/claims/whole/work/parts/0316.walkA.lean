theorem xm_X9_valueOf : xr_MW yX9_valueOf cX9_valueOf 10 (some .int) 3 := ⟨xt_3_159, xt_1_3, by decide, by decide, by decide +kernel⟩
set_option maxRecDepth 100000 in
set_option maxHeartbeats 4000000 in
theorem xc_X9_firstHolding (l : Launch) (D : va_G) (cy : Nat → ClassId) (q : Nat → Nat) (σ : xw_M) (o0 : Nat) (a1 : Int32) (h0 : o0 < 2) {Z : Int32 → xw_M → Prop} (hU : xu_X9_firstHolding σ o0 a1 Z) : xr_CI l yX9_firstHolding cX9_firstHolding 5 .int { frames := 1, cells := 0, slots := 0, locals := 29 } D cy xl_A q σ [.ref (q (9 + o0)), .int a1, .ref (q 44)] Z := by
  refine xr_CI.of RX9 rfl (by decide) (Nat.le_of_ble_eq_true rfl) (fun p e s m below meth c X hw hr hk ls hl => ?_)
  have hx := X.1
  have hb := X.2.1
  have hl : lv_has ls 5 [(0, .ref (q (9 + o0))), (1, .int a1), (2, .ref (q 44))] := hl
  have hB := hU (fun (σ : xw_M) (v3 : Int32) => ∀ (H : Heap) (locs : List Loc) (ls : Array Slot), xr_H D cy xl_A q s σ H locs → lv_has ls 5 [(0, .ref (q (9 + o0))), (1, .int a1), (2, .ref (q 44)), (3, .int v3)] → W p l e ({ frames := 1, cells := 0, slots := 0, locals := 29 } : Room) s m ([.ref (q (9 + o0)), .int a1, .ref (q 44)] : List Value).toArray below meth c H locs 0 0 (MQ below (va_Qi Z (xr_po D cy xl_A q) (xw_A xl_A q s.heap.size)) ([.ref (q (9 + o0)), .int a1, .ref (q 44)] : List Value).toArray s 0 0 (xw_A xl_A q s.heap.size)) (F0 m 2 ls []))
    (fun (σ : xw_M) (s0 : Int32) (v3 : Int32) => ∀ (H : Heap) (locs : List Loc) (ls : Array Slot), xr_H D cy xl_A q s σ H locs → lv_has ls 5 [(0, .ref (q (9 + o0))), (1, .int a1), (2, .ref (q 44)), (3, .int v3)] → W p l e ({ frames := 1, cells := 0, slots := 0, locals := 29 } : Room) s m ([.ref (q (9 + o0)), .int a1, .ref (q 44)] : List Value).toArray below meth c H locs 0 0 (MQ below (va_Qi Z (xr_po D cy xl_A q) (xw_A xl_A q s.heap.size)) ([.ref (q (9 + o0)), .int a1, .ref (q 44)] : List Value).toArray s 0 0 (xw_A xl_A q s.heap.size)) (F0 m 30 ls [.int s0]))
    (by
    intro σ v3 hB H locs ls hw hl
    unfold xb_X9_firstHolding_2 at hB
    refine lv_iload_n hx hb dX9_firstHolding_2 rfl (lv_at hl 3 rfl) ?_
    refine lv_aload_n hx hb dX9_firstHolding_3 rfl (lv_at hl 0 rfl) ?_
    refine xr_geti X hw (xf_X9_39 X) (9 + o0) (xl_A_Text_at (i := o0) h0) rfl dX9_firstHolding_4 ?_
    refine lv_icmp_ge (tgt := 75) hx hb dX9_firstHolding_7 (by decide) (fun hc => ?_) (fun hc => ?_)
    · replace hB := hB.1 hc
      refine lv_iconst (v := (-1 : Int32)) hx hb dX9_firstHolding_75 (by decide) ?_
      exact xr_iret X hw hr hk hB dX9_firstHolding_76
    · replace hB := hB.2 hc
      refine lv_aload_n hx hb dX9_firstHolding_10 rfl (lv_at hl 0 rfl) ?_
      refine xr_getr X hw (xf_X9_24 X) (9 + o0) (xl_A_Text_at (i := o0) h0) rfl dX9_firstHolding_11 ?_
      refine lv_iload_n hx hb dX9_firstHolding_14 rfl (lv_at hl 3 rfl) ?_
      refine xr_iald X hw (56 + o0) (xl_A_Text_condFrom_at (i := o0) h0) hB.1 dX9_firstHolding_15 ?_
      replace hB := hB.2
      refine lv_aload_n hx hb dX9_firstHolding_16 rfl (lv_at hl 0 rfl) ?_
      refine xr_getr X hw (xf_X9_27 X) (9 + o0) (xl_A_Text_at (i := o0) h0) rfl dX9_firstHolding_17 ?_
      refine lv_iload_n hx hb dX9_firstHolding_20 rfl (lv_at hl 3 rfl) ?_
      refine xr_iald X hw (58 + o0) (xl_A_Text_condTo_at (i := o0) h0) hB.1 dX9_firstHolding_21 ?_
      replace hB := hB.2
      refine lv_icmp_ne (tgt := 29) hx hb dX9_firstHolding_22 (by decide) (fun hc => ?_) (fun hc => ?_)
      · replace hB := hB.1 hc
        refine lv_iconst (v := (0 : Int32)) hx hb dX9_firstHolding_29 (by decide) ?_
        exact hB _ _ _ hw (lv_sub hl [0, 1, 2, 3] rfl)
      · replace hB := hB.2 hc
        refine lv_iconst (v := (1 : Int32)) hx hb dX9_firstHolding_25 (by decide) ?_
        refine lv_goto (tgt := 30) hx hb dX9_firstHolding_26 (by decide) ?_
        exact hB _ _ _ hw (lv_sub hl [0, 1, 2, 3] rfl))
    (by
    intro σ s0 v3 hB H locs ls hw hl
    unfold xb_X9_firstHolding_30 at hB
    refine lv_istore (lv' := [(4, .int s0), (0, .ref (q (9 + o0))), (1, .int a1), (2, .ref (q 44)), (3, .int v3)]) hx hb dX9_firstHolding_30 hl (by decide) rfl (fun ls hl => ?_)
    refine lv_aload_n hx hb dX9_firstHolding_32 rfl (lv_at hl 1 rfl) ?_
    refine xr_getr X hw (xf_X9_9 X) (9 + o0) (xl_A_Text_at (i := o0) h0) rfl dX9_firstHolding_33 ?_
    refine lv_iload_n hx hb dX9_firstHolding_36 rfl (lv_at hl 4 rfl) ?_
    refine xr_iald X hw (48 + o0) (xl_A_Text_kinds_at (i := o0) h0) hB.1 dX9_firstHolding_37 ?_
    replace hB := hB.2
    refine lv_iload_n hx hb dX9_firstHolding_38 rfl (lv_at hl 2 rfl) ?_
    refine lv_icmp_ne (tgt := 69) hx hb dX9_firstHolding_39 (by decide) (fun hc => ?_) (fun hc => ?_)
    · replace hB := hB.1 hc
      refine lv_iinc (v := (v3 + (1 : Int32))) (lv' := [(3, .int (v3 + (1 : Int32))), (4, .int s0), (0, .ref (q (9 + o0))), (1, .int a1), (2, .ref (q 44))]) hx hb dX9_firstHolding_69 hl (k := 4) rfl rfl (by decide) rfl (fun ls hl => ?_)
      refine lv_goto (tgt := 2) hx hb dX9_firstHolding_72 (by decide) ?_
      exact hB _ _ _ hw (lv_sub hl [2, 3, 4, 0] rfl)
    · replace hB := hB.2 hc
      refine lv_iload hx hb dX9_firstHolding_42 (lv_at hl 0 rfl) ?_
      refine lv_if_ne (tgt := 67) hx hb dX9_firstHolding_44 (by decide) (fun hc => ?_) (fun hc => ?_)
      · replace hB := hB.1 hc
        refine lv_iload_n hx hb dX9_firstHolding_67 rfl (lv_at hl 4 rfl) ?_
        exact xr_iret X hw hr hk hB dX9_firstHolding_68
      · replace hB := hB.2 hc
        refine lv_aload_n hx hb dX9_firstHolding_47 rfl (lv_at hl 1 rfl) ?_
        refine lv_aload_n hx hb dX9_firstHolding_48 rfl (lv_at hl 1 rfl) ?_
        refine xr_getr X hw (xf_X9_24 X) (9 + o0) (xl_A_Text_at (i := o0) h0) rfl dX9_firstHolding_49 ?_
        refine lv_iload_n hx hb dX9_firstHolding_52 rfl (lv_at hl 4 rfl) ?_
        refine xr_iald X hw (56 + o0) (xl_A_Text_condFrom_at (i := o0) h0) hB.1 dX9_firstHolding_53 ?_
        replace hB := hB.2
        refine lv_aload_n hx hb dX9_firstHolding_54 rfl (lv_at hl 1 rfl) ?_
        refine xr_getr X hw (xf_X9_27 X) (9 + o0) (xl_A_Text_at (i := o0) h0) rfl dX9_firstHolding_55 ?_
        refine lv_iload_n hx hb dX9_firstHolding_58 rfl (lv_at hl 4 rfl) ?_
        refine xr_iald X hw (58 + o0) (xl_A_Text_condTo_at (i := o0) h0) hB.1 dX9_firstHolding_59 ?_
        replace hB := hB.2
        refine lv_aload_n hx hb dX9_firstHolding_60 rfl (lv_at hl 3 rfl) ?_
        refine xr_i hw (xr_runV (As := [.int (σ.1 (56 + o0) (Int32.toNatClampNeg v3)), .int (σ.1 (58 + o0) (Int32.toNatClampNeg v3)), .ref (q 44)]) (rest := []) X hw (9 + o0) (xc_X9_valueOf l D cy q σ o0 (σ.1 (56 + o0) (Int32.toNatClampNeg v3)) (σ.1 (58 + o0) (Int32.toNatClampNeg v3)) h0 hB _) xm_X9_valueOf xt_3_156 xt_3_158 xt_p_16 ⟨Nat.le_of_ble_eq_true rfl, Nat.le_of_ble_eq_true rfl⟩ (xl_A_Text_at (i := o0) h0) rfl rfl rfl rfl hl.1 (Nat.le_of_ble_eq_true rfl) dX9_firstHolding_61 ⟨Nat.zero_le _, Nat.zero_le _⟩) (fun r2 σ1 H locs hB hw => ?_)
        refine lv_if_eq (tgt := 69) hx hb dX9_firstHolding_64 (by decide) (fun hc => ?_) (fun hc => ?_)
        · replace hB := hB.1 hc
          refine lv_iinc (v := (v3 + (1 : Int32))) (lv' := [(3, .int (v3 + (1 : Int32))), (4, .int s0), (0, .ref (q (9 + o0))), (1, .int a1), (2, .ref (q 44))]) hx hb dX9_firstHolding_69 hl (k := 4) rfl rfl (by decide) rfl (fun ls hl => ?_)
          refine lv_goto (tgt := 2) hx hb dX9_firstHolding_72 (by decide) ?_
          exact hB _ _ _ hw (lv_sub hl [2, 3, 4, 0] rfl)
        · replace hB := hB.2 hc
          refine lv_iload_n hx hb dX9_firstHolding_67 rfl (lv_at hl 4 rfl) ?_
          exact xr_iret X hw hr hk hB dX9_firstHolding_68)
  unfold xb_X9_firstHolding_e at hB
  refine lv_iconst (v := (0 : Int32)) hx hb dX9_firstHolding_0 (by decide) ?_
  refine lv_istore_n (lv' := [(3, .int (0 : Int32)), (0, .ref (q (9 + o0))), (1, .int a1), (2, .ref (q 44))]) hx hb dX9_firstHolding_1 rfl hl (by decide) rfl (fun ls hl => ?_)
  exact hB _ _ _ hw (lv_sub hl [1, 2, 3, 0] rfl)
theorem xf_X0_19 {p : Program} {s : State} {m : MethodId} {args : Array Value} {c : Code} {cc : ByteArray} {nL : Nat} {D : va_G} {cy : Nat → ClassId} {lay : List xw_E} {q : Nat → Nat} (X : xr_X p s m args c cc nL RX0 D cy lay q) : xr_F args s RX0 19 0 1 := ⟨RX0, TX0, 4, tyX0, rfl, by decide, fun w h => X.2.2.2.2.1 w (xt_inX0 w h), tyX0_ok, nmX0, Or.inl (X.2.2.2.2.1 _ xt_2_2)⟩
theorem xf_X0_27 {p : Program} {s : State} {m : MethodId} {args : Array Value} {c : Code} {cc : ByteArray} {nL : Nat} {D : va_G} {cy : Nat → ClassId} {lay : List xw_E} {q : Nat → Nat} (X : xr_X p s m args c cc nL RX0 D cy lay q) : xr_F args s RX0 27 2 12 := ⟨RX2, TX2, 13, tyX2, rfl, by decide, fun w h => X.2.2.2.2.1 w (xt_inX2 w h), tyX2_ok, nmX2, Or.inr (va_Nw.use rfl (X.2.2.2.2.2.1.1 _ (List.mem_of_getElem? (i := 27) rfl)))⟩
theorem xf_X0_37 {p : Program} {s : State} {m : MethodId} {args : Array Value} {c : Code} {cc : ByteArray} {nL : Nat} {D : va_G} {cy : Nat → ClassId} {lay : List xw_E} {q : Nat → Nat} (X : xr_X p s m args c cc nL RX0 D cy lay q) : xr_F args s RX0 37 2 6 := ⟨RX2, TX2, 13, tyX2, rfl, by decide, fun w h => X.2.2.2.2.1 w (xt_inX2 w h), tyX2_ok, nmX2, Or.inr (va_Nw.use rfl (X.2.2.2.2.2.1.1 _ (List.mem_of_getElem? (i := 19) rfl)))⟩
theorem xf_X0_9 {p : Program} {s : State} {m : MethodId} {args : Array Value} {c : Code} {cc : ByteArray} {nL : Nat} {D : va_G} {cy : Nat → ClassId} {lay : List xw_E} {q : Nat → Nat} (X : xr_X p s m args c cc nL RX0 D cy lay q) : xr_F args s RX0 9 0 3 := ⟨RX0, TX0, 4, tyX0, rfl, by decide, fun w h => X.2.2.2.2.1 w (xt_inX0 w h), tyX0_ok, nmX0, Or.inl (X.2.2.2.2.1 _ xt_2_4)⟩
theorem xf_X0_40 {p : Program} {s : State} {m : MethodId} {args : Array Value} {c : Code} {cc : ByteArray} {nL : Nat} {D : va_G} {cy : Nat → ClassId} {lay : List xw_E} {q : Nat → Nat} (X : xr_X p s m args c cc nL RX0 D cy lay q) : xr_F args s RX0 40 7 2 := ⟨RX7, TX7, 4, tyX7, rfl, by decide, fun w h => X.2.2.2.2.1 w (xt_inX7 w h), tyX7_ok, nmX7, Or.inr (va_Nw.use rfl (X.2.2.2.2.2.1.1 _ (List.mem_of_getElem? (i := 38) rfl)))⟩
theorem xf_X0_45 {p : Program} {s : State} {m : MethodId} {args : Array Value} {c : Code} {cc : ByteArray} {nL : Nat} {D : va_G} {cy : Nat → ClassId} {lay : List xw_E} {q : Nat → Nat} (X : xr_X p s m args c cc nL RX0 D cy lay q) : xr_F args s RX0 45 2 7 := ⟨RX2, TX2, 13, tyX2, rfl, by decide, fun w h => X.2.2.2.2.1 w (xt_inX2 w h), tyX2_ok, nmX2, Or.inr (va_Nw.use rfl (X.2.2.2.2.2.1.1 _ (List.mem_of_getElem? (i := 22) rfl)))⟩
theorem xf_X0_54 {p : Program} {s : State} {m : MethodId} {args : Array Value} {c : Code} {cc : ByteArray} {nL : Nat} {D : va_G} {cy : Nat → ClassId} {lay : List xw_E} {q : Nat → Nat} (X : xr_X p s m args c cc nL RX0 D cy lay q) : xr_F args s RX0 54 2 8 := ⟨RX2, TX2, 13, tyX2, rfl, by decide, fun w h => X.2.2.2.2.1 w (xt_inX2 w h), tyX2_ok, nmX2, Or.inr (va_Nw.use rfl (X.2.2.2.2.2.1.1 _ (List.mem_of_getElem? (i := 23) rfl)))⟩
theorem xf_X0_57 {p : Program} {s : State} {m : MethodId} {args : Array Value} {c : Code} {cc : ByteArray} {nL : Nat} {D : va_G} {cy : Nat → ClassId} {lay : List xw_E} {q : Nat → Nat} (X : xr_X p s m args c cc nL RX0 D cy lay q) : xr_F args s RX0 57 2 2 := ⟨RX2, TX2, 13, tyX2, rfl, by decide, fun w h => X.2.2.2.2.1 w (xt_inX2 w h), tyX2_ok, nmX2, Or.inr (va_Nw.use rfl (X.2.2.2.2.2.1.1 _ (List.mem_of_getElem? (i := 17) rfl)))⟩
theorem xf_X0_15 {p : Program} {s : State} {m : MethodId} {args : Array Value} {c : Code} {cc : ByteArray} {nL : Nat} {D : va_G} {cy : Nat → ClassId} {lay : List xw_E} {q : Nat → Nat} (X : xr_X p s m args c cc nL RX0 D cy lay q) : xr_F args s RX0 15 0 0 := ⟨RX0, TX0, 4, tyX0, rfl, by decide, fun w h => X.2.2.2.2.1 w (xt_inX0 w h), tyX0_ok, nmX0, Or.inl (X.2.2.2.2.1 _ xt_2_1)⟩
theorem xm_X9_firstHolding : xr_MW yX9_firstHolding cX9_firstHolding 5 (some .int) 2 := ⟨xt_3_155, xt_1_3, by decide, by decide, by decide +kernel⟩
theorem xf_X0_66 {p : Program} {s : State} {m : MethodId} {args : Array Value} {c : Code} {cc : ByteArray} {nL : Nat} {D : va_G} {cy : Nat → ClassId} {lay : List xw_E} {q : Nat → Nat} (X : xr_X p s m args c cc nL RX0 D cy lay q) : xr_F args s RX0 66 9 1 := ⟨RX9, TX9, 11, tyX9, rfl, by decide, fun w h => X.2.2.2.2.1 w (xt_inX9 w h), tyX9_ok, nmX9, Or.inr (va_Nw.use rfl (X.2.2.2.2.2.1.1 _ (List.mem_of_getElem? (i := 2) rfl)))⟩
set_option maxRecDepth 100000 in
set_option maxHeartbeats 4000000 in
theorem xc_X0_classOf (l : Launch) (D : va_G) (cy : Nat → ClassId) (q : Nat → Nat) (σ : xw_M) (o1 : Nat) (a2 : Int32) (h1 : o1 < 5) {Z : Int32 → xw_M → Prop} (hU : xu_X0_classOf σ o1 a2 Z) : xr_CI l yX0_classOf cX0_classOf 5 .int { frames := 2, cells := 0, slots := 0, locals := 53 } D cy xl_A q σ [.ref (q 6), .ref (q (11 + o1)), .int a2] Z := by
  refine xr_CI.of RX0 rfl (by decide) (Nat.le_of_ble_eq_true rfl) (fun p e s m below meth c X hw hr hk ls hl => ?_)
  have hx := X.1
  have hb := X.2.1
  have hl : lv_has ls 5 [(0, .ref (q 6)), (1, .ref (q (11 + o1))), (2, .int a2)] := hl
  have hB := hU (fun (σ : xw_M) (v3 : Int32) => ∀ (H : Heap) (locs : List Loc) (ls : Array Slot), xr_H D cy xl_A q s σ H locs → lv_has ls 5 [(0, .ref (q 6)), (1, .ref (q (11 + o1))), (2, .int a2), (3, .int v3)] → W p l e ({ frames := 2, cells := 0, slots := 0, locals := 53 } : Room) s m ([.ref (q 6), .ref (q (11 + o1)), .int a2] : List Value).toArray below meth c H locs 0 0 (MQ below (va_Qi Z (xr_po D cy xl_A q) (xw_A xl_A q s.heap.size)) ([.ref (q 6), .ref (q (11 + o1)), .int a2] : List Value).toArray s 0 0 (xw_A xl_A q s.heap.size)) (F0 m 2 ls []))
    (fun (σ : xw_M) (s0 : Int32) (s1 : Int32) => ∀ (H : Heap) (locs : List Loc) (ls : Array Slot), xr_H D cy xl_A q s σ H locs → lv_has ls 5 [(0, .ref (q 6))] → W p l e ({ frames := 2, cells := 0, slots := 0, locals := 53 } : Room) s m ([.ref (q 6), .ref (q (11 + o1)), .int a2] : List Value).toArray below meth c H locs 0 0 (MQ below (va_Qi Z (xr_po D cy xl_A q) (xw_A xl_A q s.heap.size)) ([.ref (q 6), .ref (q (11 + o1)), .int a2] : List Value).toArray s 0 0 (xw_A xl_A q s.heap.size)) (F0 m 123 ls [.int s1, .int s0, .ref (q 44)]))
    (by
    intro σ v3 hB H locs ls hw hl
    unfold xb_X0_classOf_2 at hB
    refine lv_iload_n hx hb dX0_classOf_2 rfl (lv_at hl 3 rfl) ?_
    refine lv_bipush (v := (9 : Int32)) hx hb dX0_classOf_3 (by decide) ?_
    refine lv_icmp_ge (tgt := 21) hx hb dX0_classOf_5 (by decide) (fun hc => ?_) (fun hc => ?_)
    · replace hB := hB.1 hc
      refine lv_iload_n hx hb dX0_classOf_21 rfl (lv_at hl 2 rfl) ?_
      refine lv_iconst (v := (0 : Int32)) hx hb dX0_classOf_22 (by decide) ?_
      refine lv_aload_n hx hb dX0_classOf_23 rfl (lv_at hl 0 rfl) ?_
      refine xr_getr X hw (xf_X0_19 X) 6 xl_A_Club_at rfl dX0_classOf_24 ?_
      refine xr_geti X hw (xf_X0_27 X) 4 xl_A_Kennel_at rfl dX0_classOf_27 ?_
      refine lv_iconst (v := (1 : Int32)) hx hb dX0_classOf_30 (by decide) ?_
      refine lv_isub hx hb dX0_classOf_31 ?_
      refine xr_i hw (xr_runSN (As := [.int a2, .int (0 : Int32), .int ((σ.1 4 12) - (1 : Int32))]) (rest := []) X hw (xc_X11_isWithin l D cy q σ a2 (0 : Int32) ((σ.1 4 12) - (1 : Int32)) hB _) xm_X11_isWithin (X.2.2.2.2.2.1.2 _ (List.mem_of_getElem? (i := 5) rfl)) xt_3_81 ⟨Nat.le_of_ble_eq_true rfl, Nat.le_of_ble_eq_true rfl⟩ rfl rfl hl.1 (Nat.le_of_ble_eq_true rfl) dX0_classOf_32 ⟨Nat.zero_le _, Nat.zero_le _⟩) (fun r2 σ1 H locs hB hw => ?_)
      refine lv_if_ne (tgt := 40) hx hb dX0_classOf_35 (by decide) (fun hc => ?_) (fun hc => ?_)
      · replace hB := hB.1 hc
        refine lv_aload_n hx hb dX0_classOf_40 rfl (lv_at hl 0 rfl) ?_
        refine xr_getr X hw (xf_X0_19 X) 6 xl_A_Club_at rfl dX0_classOf_41 ?_
        refine xr_getr X hw (xf_X0_37 X) 4 xl_A_Kennel_at rfl dX0_classOf_44 ?_
        refine lv_iload_n hx hb dX0_classOf_47 rfl (lv_at hl 2 rfl) ?_
        refine xr_iald X hw 34 xl_A_Kennel_breed_at hB.1 dX0_classOf_48 ?_
        replace hB := hB.2
        refine lv_istore_n (lv' := [(3, .int (σ1.1 34 (Int32.toNatClampNeg a2))), (0, .ref (q 6)), (1, .ref (q (11 + o1))), (2, .int a2)]) hx hb dX0_classOf_49 rfl hl (by decide) rfl (fun ls hl => ?_)
        refine lv_aload_n hx hb dX0_classOf_50 rfl (lv_at hl 1 rfl) ?_
        refine xr_getr X hw (xf_X0_9 X) 6 xl_A_Club_at rfl dX0_classOf_51 ?_
        refine lv_iconst (v := (0 : Int32)) hx hb dX0_classOf_54 (by decide) ?_
        refine lv_iconst (v := (0 : Int32)) hx hb dX0_classOf_55 (by decide) ?_
        refine lv_aload_n hx hb dX0_classOf_56 rfl (lv_at hl 2 rfl) ?_
        refine xr_geti X hw (xf_X0_40 X) (11 + o1) (xl_A_Show_at (i := o1) h1) rfl dX0_classOf_57 ?_
        refine lv_aload_n hx hb dX0_classOf_60 rfl (lv_at hl 1 rfl) ?_
        refine xr_getr X hw (xf_X0_19 X) 6 xl_A_Club_at rfl dX0_classOf_61 ?_
        refine xr_getr X hw (xf_X0_45 X) 4 xl_A_Kennel_at rfl dX0_classOf_64 ?_
        refine lv_iload_n hx hb dX0_classOf_67 rfl (lv_at hl 3 rfl) ?_
        refine xr_iald X hw 35 xl_A_Kennel_birth_at hB.1 dX0_classOf_68 ?_
        replace hB := hB.2
        refine lv_isub hx hb dX0_classOf_69 ?_
        refine va_mmax hx hb (X.2.2.1.trans hl.1.symm) X.2.2.2.1 (X.2.2.2.2.1 _ xt_3_149) (X.2.2.2.2.1 _ xt_3_150) (X.2.2.2.2.1 _ xt_1_19) (X.2.2.2.2.1 _ xt_3_151) (Nat.le_of_ble_eq_true rfl) (Nat.le_of_ble_eq_true rfl) (Nat.zero_le _) (Nat.zero_le _) dX0_classOf_70 ?_
        refine xr_iast X hw 44 xl_A_Club_vars_at hB.1 dX0_classOf_73 hB.2 (fun σ3 H locs hB hw => ?_)
        refine lv_aload_n hx hb dX0_classOf_74 rfl (lv_at hl 1 rfl) ?_
        refine xr_getr X hw (xf_X0_9 X) 6 xl_A_Club_at rfl dX0_classOf_75 ?_
        refine lv_iconst (v := (1 : Int32)) hx hb dX0_classOf_78 (by decide) ?_
        refine lv_aload_n hx hb dX0_classOf_79 rfl (lv_at hl 1 rfl) ?_
        refine xr_getr X hw (xf_X0_19 X) 6 xl_A_Club_at rfl dX0_classOf_80 ?_
        refine xr_getr X hw (xf_X0_54 X) 4 xl_A_Kennel_at rfl dX0_classOf_83 ?_
        refine lv_iload_n hx hb dX0_classOf_86 rfl (lv_at hl 3 rfl) ?_
        refine xr_iald X hw 36 xl_A_Kennel_sex_at hB.1 dX0_classOf_87 ?_
        replace hB := hB.2
        refine xr_iast X hw 44 xl_A_Club_vars_at hB.1 dX0_classOf_88 hB.2 (fun σ4 H locs hB hw => ?_)
        refine lv_aload_n hx hb dX0_classOf_89 rfl (lv_at hl 1 rfl) ?_
        refine xr_getr X hw (xf_X0_9 X) 6 xl_A_Club_at rfl dX0_classOf_90 ?_
        refine lv_iconst (v := (2 : Int32)) hx hb dX0_classOf_93 (by decide) ?_
        refine lv_iload_n hx hb dX0_classOf_94 rfl (lv_at hl 0 rfl) ?_
        refine xr_iast X hw 44 xl_A_Club_vars_at hB.1 dX0_classOf_95 hB.2 (fun σ5 H locs hB hw => ?_)
        refine lv_aload_n hx hb dX0_classOf_96 rfl (lv_at hl 1 rfl) ?_
        refine xr_getr X hw (xf_X0_9 X) 6 xl_A_Club_at rfl dX0_classOf_97 ?_
        refine lv_iconst (v := (3 : Int32)) hx hb dX0_classOf_100 (by decide) ?_
        refine lv_iload_n hx hb dX0_classOf_101 rfl (lv_at hl 0 rfl) ?_
        refine lv_iconst (v := (0 : Int32)) hx hb dX0_classOf_102 (by decide) ?_
        refine lv_iconst (v := (5 : Int32)) hx hb dX0_classOf_103 (by decide) ?_
        refine xr_i hw (xr_runSN (As := [.int (σ1.1 34 (Int32.toNatClampNeg a2)), .int (0 : Int32), .int (5 : Int32)]) (rest := [.int (3 : Int32), .ref (q 44)]) X hw (xc_X11_isWithin l D cy q σ5 (σ1.1 34 (Int32.toNatClampNeg a2)) (0 : Int32) (5 : Int32) hB _) xm_X11_isWithin (X.2.2.2.2.2.1.2 _ (List.mem_of_getElem? (i := 5) rfl)) xt_3_81 ⟨Nat.le_of_ble_eq_true rfl, Nat.le_of_ble_eq_true rfl⟩ rfl rfl hl.1 (Nat.le_of_ble_eq_true rfl) dX0_classOf_104 ⟨Nat.zero_le _, Nat.zero_le _⟩) (fun r7 σ6 H locs hB hw => ?_)
        refine lv_if_eq (tgt := 122) hx hb dX0_classOf_107 (by decide) (fun hc => ?_) (fun hc => ?_)
        · replace hB := hB.1 hc
          refine lv_iconst (v := (0 : Int32)) hx hb dX0_classOf_122 (by decide) ?_
          exact hB _ _ _ hw (lv_sub hl [1] rfl)
        · replace hB := hB.2 hc
          refine lv_aload_n hx hb dX0_classOf_110 rfl (lv_at hl 1 rfl) ?_
          refine xr_getr X hw (xf_X0_19 X) 6 xl_A_Club_at rfl dX0_classOf_111 ?_
          refine xr_getr X hw (xf_X0_57 X) 4 xl_A_Kennel_at rfl dX0_classOf_114 ?_
          refine lv_iload_n hx hb dX0_classOf_117 rfl (lv_at hl 0 rfl) ?_
          refine xr_iald X hw 30 xl_A_Kennel_group_at hB.1 dX0_classOf_118 ?_
          replace hB := hB.2
          refine lv_goto (tgt := 123) hx hb dX0_classOf_119 (by decide) ?_
          exact hB _ _ _ hw (lv_sub hl [1] rfl)
      · replace hB := hB.2 hc
        refine lv_iconst (v := (-1 : Int32)) hx hb dX0_classOf_38 (by decide) ?_
        exact xr_iret X hw hr hk hB dX0_classOf_39
    · replace hB := hB.2 hc
      refine lv_aload_n hx hb dX0_classOf_8 rfl (lv_at hl 0 rfl) ?_
      refine xr_getr X hw (xf_X0_9 X) 6 xl_A_Club_at rfl dX0_classOf_9 ?_
      refine lv_iload_n hx hb dX0_classOf_12 rfl (lv_at hl 3 rfl) ?_
      refine lv_iconst (v := (0 : Int32)) hx hb dX0_classOf_13 (by decide) ?_
      refine xr_iast X hw 44 xl_A_Club_vars_at hB.1 dX0_classOf_14 hB.2 (fun σ8 H locs hB hw => ?_)
      refine lv_iinc (v := (v3 + (1 : Int32))) (lv' := [(3, .int (v3 + (1 : Int32))), (0, .ref (q 6)), (1, .ref (q (11 + o1))), (2, .int a2)]) hx hb dX0_classOf_15 hl (k := 3) rfl rfl (by decide) rfl (fun ls hl => ?_)
      refine lv_goto (tgt := 2) hx hb dX0_classOf_18 (by decide) ?_
      exact hB _ _ _ hw (lv_sub hl [1, 2, 3, 0] rfl))
    (by
    intro σ s0 s1 hB H locs ls hw hl
    unfold xb_X0_classOf_123 at hB
    refine xr_iast X hw 44 xl_A_Club_vars_at hB.1 dX0_classOf_123 hB.2 (fun σ9 H locs hB hw => ?_)
    refine lv_aload_n hx hb dX0_classOf_124 rfl (lv_at hl 0 rfl) ?_
    refine xr_getr X hw (xf_X0_15 X) 6 xl_A_Club_at rfl dX0_classOf_125 ?_
    refine lv_iconst (v := (4 : Int32)) hx hb dX0_classOf_128 (by decide) ?_
    refine lv_aload_n hx hb dX0_classOf_129 rfl (lv_at hl 0 rfl) ?_
    refine xr_getr X hw (xf_X0_9 X) 6 xl_A_Club_at rfl dX0_classOf_130 ?_
    refine xr_i hw (xr_runV (As := [.int (4 : Int32), .ref (q 44)]) (rest := []) X hw 9 (xc_X9_firstHolding l D cy q σ9 0 (4 : Int32) (by decide) hB _) xm_X9_firstHolding xt_3_152 xt_3_153 xt_3_154 ⟨Nat.le_of_ble_eq_true rfl, Nat.le_of_ble_eq_true rfl⟩ (xl_A_Text_at (i := 0) (by decide)) rfl rfl rfl rfl hl.1 (Nat.le_of_ble_eq_true rfl) dX0_classOf_133 ⟨Nat.zero_le _, Nat.zero_le _⟩) (fun r11 σ10 H locs hB hw => ?_)
    refine lv_istore (lv' := [(4, .int r11), (0, .ref (q 6))]) hx hb dX0_classOf_136 hl (by decide) rfl (fun ls hl => ?_)
    refine lv_iload hx hb dX0_classOf_138 (lv_at hl 0 rfl) ?_
    refine lv_iconst (v := (0 : Int32)) hx hb dX0_classOf_140 (by decide) ?_
    refine lv_bipush (v := (15 : Int32)) hx hb dX0_classOf_141 (by decide) ?_
    refine xr_i hw (xr_runSN (As := [.int r11, .int (0 : Int32), .int (15 : Int32)]) (rest := []) X hw (xc_X11_isWithin l D cy q σ10 r11 (0 : Int32) (15 : Int32) hB _) xm_X11_isWithin (X.2.2.2.2.2.1.2 _ (List.mem_of_getElem? (i := 5) rfl)) xt_3_81 ⟨Nat.le_of_ble_eq_true rfl, Nat.le_of_ble_eq_true rfl⟩ rfl rfl hl.1 (Nat.le_of_ble_eq_true rfl) dX0_classOf_143 ⟨Nat.zero_le _, Nat.zero_le _⟩) (fun r13 σ12 H locs hB hw => ?_)
    refine lv_if_eq (tgt := 162) hx hb dX0_classOf_146 (by decide) (fun hc => ?_) (fun hc => ?_)
    · replace hB := hB.1 hc
      refine lv_iconst (v := (-1 : Int32)) hx hb dX0_classOf_162 (by decide) ?_
      exact xr_iret X hw hr hk hB dX0_classOf_163
    · replace hB := hB.2 hc
      refine lv_aload_n hx hb dX0_classOf_149 rfl (lv_at hl 1 rfl) ?_
      refine xr_getr X hw (xf_X0_15 X) 6 xl_A_Club_at rfl dX0_classOf_150 ?_
      refine xr_getr X hw (xf_X0_66 X) 9 (xl_A_Text_at (i := 0) (by decide)) rfl dX0_classOf_153 ?_
      refine lv_iload hx hb dX0_classOf_156 (lv_at hl 0 rfl) ?_
      refine xr_iald X hw 50 (xl_A_Text_firstInt_at (i := 0) (by decide)) hB.1 dX0_classOf_158 ?_
      replace hB := hB.2
      refine lv_goto (tgt := 163) hx hb dX0_classOf_159 (by decide) ?_
      exact xr_iret X hw hr hk hB dX0_classOf_163)
  unfold xb_X0_classOf_e at hB
  refine lv_iconst (v := (0 : Int32)) hx hb dX0_classOf_0 (by decide) ?_
  refine lv_istore_n (lv' := [(3, .int (0 : Int32)), (0, .ref (q 6)), (1, .ref (q (11 + o1))), (2, .int a2)]) hx hb dX0_classOf_1 rfl hl (by decide) rfl (fun ls hl => ?_)
  exact hB _ _ _ hw (lv_sub hl [1, 2, 3, 0] rfl)
theorem xf_X7_22 {p : Program} {s : State} {m : MethodId} {args : Array Value} {c : Code} {cc : ByteArray} {nL : Nat} {D : va_G} {cy : Nat → ClassId} {lay : List xw_E} {q : Nat → Nat} (X : xr_X p s m args c cc nL RX7 D cy lay q) : xr_F args s RX7 22 7 3 := ⟨RX7, TX7, 4, tyX7, rfl, by decide, fun w h => X.2.2.2.2.1 w (xt_inX7 w h), tyX7_ok, nmX7, Or.inl (X.2.2.2.2.1 _ xt_2_100)⟩
theorem xp_X7_22 {p : Program} {s : State} {m : MethodId} {args : Array Value} {c : Code} {cc : ByteArray} {nL : Nat} {D : va_G} {cy : Nat → ClassId} {lay : List xw_E} {q : Nat → Nat} (X : xr_X p s m args c cc nL RX7 D cy lay q) : xr_P args s RX7 22 7 3 := ⟨RX7, TX7, 4, tyX7, rfl, by decide, fun w h => X.2.2.2.2.1 w (xt_inX7 w h), tyX7_ok, nmX7, Or.inl (X.2.2.2.2.1 _ xt_2_100), rfl, by decide +kernel⟩
set_option maxRecDepth 100000 in
set_option maxHeartbeats 4000000 in
theorem xc_X7_addEntry (l : Launch) (D : va_G) (cy : Nat → ClassId) (q : Nat → Nat) (σ : xw_M) (o0 : Nat) (a1 : Int32) (h0 : o0 < 5) {Z : xw_M → Prop} (hU : xu_X7_addEntry σ o0 a1 Z) : xr_CV l yX7_addEntry cX7_addEntry 2 { frames := 1, cells := 0, slots := 0, locals := 22 } D cy xl_A q σ [.ref (q (11 + o0)), .int a1] Z := by
  refine xr_CV.of RX7 rfl (by decide) (Nat.le_of_ble_eq_true rfl) (fun p e s m below meth c X hw hr hk ls hl => ?_)
  have hx := X.1
  have hb := X.2.1
  have hl : lv_has ls 2 [(0, .ref (q (11 + o0))), (1, .int a1)] := hl
  unfold xu_X7_addEntry at hU
  have hB := hU
  refine lv_iload_n hx hb dX7_addEntry_0 rfl (lv_at hl 1 rfl) ?_
  refine lv_iconst (v := (0 : Int32)) hx hb dX7_addEntry_1 (by decide) ?_
  refine lv_bipush (v := (19 : Int32)) hx hb dX7_addEntry_2 (by decide) ?_
  refine xr_i hw (xr_runSN (As := [.int a1, .int (0 : Int32), .int (19 : Int32)]) (rest := []) X hw (xc_X11_isWithin l D cy q σ a1 (0 : Int32) (19 : Int32) hB _) xm_X11_isWithin (X.2.2.2.2.2.1.2 _ (List.mem_of_getElem? (i := 4) rfl)) xt_3_81 ⟨Nat.le_of_ble_eq_true rfl, Nat.le_of_ble_eq_true rfl⟩ rfl rfl hl.1 (Nat.le_of_ble_eq_true rfl) dX7_addEntry_4 ⟨Nat.zero_le _, Nat.zero_le _⟩) (fun r2 σ1 H locs hB hw => ?_)
  refine lv_if_eq (tgt := 22) hx hb dX7_addEntry_7 (by decide) (fun hc => ?_) (fun hc => ?_)
  · replace hB := hB.1 hc
    exact xr_vret X hw hr hk hB dX7_addEntry_22
  · replace hB := hB.2 hc
    refine lv_aload_n hx hb dX7_addEntry_10 rfl (lv_at hl 0 rfl) ?_
    refine lv_dup hx hb dX7_addEntry_11 rfl ?_
    refine xr_geti X hw (xf_X7_22 X) (11 + o0) (xl_A_Show_at (i := o0) h0) rfl dX7_addEntry_12 ?_
    refine lv_iconst (v := (1 : Int32)) hx hb dX7_addEntry_15 (by decide) ?_
    refine lv_iload_n hx hb dX7_addEntry_16 rfl (lv_at hl 1 rfl) ?_
    refine lv_ishl hx hb dX7_addEntry_17 ?_
    refine lv_ior hx hb dX7_addEntry_18 ?_
    refine xr_puti X hw (xp_X7_22 X) (11 + o0) (xl_A_Show_at (i := o0) h0) rfl dX7_addEntry_19 hB (fun σ3 H locs hB hw => ?_)
    exact xr_vret X hw hr hk hB dX7_addEntry_22
set_option maxRecDepth 100000 in
set_option maxHeartbeats 4000000 in
theorem xc_X7_hasEntry (l : Launch) (D : va_G) (cy : Nat → ClassId) (q : Nat → Nat) (σ : xw_M) (o0 : Nat) (a1 : Int32) (h0 : o0 < 5) {Z : Int32 → xw_M → Prop} (hU : xu_X7_hasEntry σ o0 a1 Z) : xr_CI l yX7_hasEntry cX7_hasEntry 2 .boolean { frames := 1, cells := 0, slots := 0, locals := 22 } D cy xl_A q σ [.ref (q (11 + o0)), .int a1] Z := by
  refine xr_CI.of RX7 rfl (by decide) (Nat.le_of_ble_eq_true rfl) (fun p e s m below meth c X hw hr hk ls hl => ?_)
  have hx := X.1
  have hb := X.2.1
  have hl : lv_has ls 2 [(0, .ref (q (11 + o0))), (1, .int a1)] := hl
  unfold xu_X7_hasEntry at hU
  have hB := hU
  refine lv_iload_n hx hb dX7_hasEntry_0 rfl (lv_at hl 1 rfl) ?_
  refine lv_iconst (v := (0 : Int32)) hx hb dX7_hasEntry_1 (by decide) ?_
  refine lv_bipush (v := (19 : Int32)) hx hb dX7_hasEntry_2 (by decide) ?_
  refine xr_i hw (xr_runSN (As := [.int a1, .int (0 : Int32), .int (19 : Int32)]) (rest := []) X hw (xc_X11_isWithin l D cy q σ a1 (0 : Int32) (19 : Int32) hB _) xm_X11_isWithin (X.2.2.2.2.2.1.2 _ (List.mem_of_getElem? (i := 4) rfl)) xt_3_81 ⟨Nat.le_of_ble_eq_true rfl, Nat.le_of_ble_eq_true rfl⟩ rfl rfl hl.1 (Nat.le_of_ble_eq_true rfl) dX7_hasEntry_4 ⟨Nat.zero_le _, Nat.zero_le _⟩) (fun r2 σ1 H locs hB hw => ?_)
  refine lv_if_eq (tgt := 26) hx hb dX7_hasEntry_7 (by decide) (fun hc => ?_) (fun hc => ?_)
  · replace hB := hB.1 hc
    refine lv_iconst (v := (0 : Int32)) hx hb dX7_hasEntry_26 (by decide) ?_
    exact xr_zret X hw hr hk hB dX7_hasEntry_27
  · replace hB := hB.2 hc
    refine lv_aload_n hx hb dX7_hasEntry_10 rfl (lv_at hl 0 rfl) ?_
    refine xr_geti X hw (xf_X7_22 X) (11 + o0) (xl_A_Show_at (i := o0) h0) rfl dX7_hasEntry_11 ?_
    refine lv_iload_n hx hb dX7_hasEntry_14 rfl (lv_at hl 1 rfl) ?_
    refine lv_ishr hx hb dX7_hasEntry_15 ?_
    refine lv_iconst (v := (1 : Int32)) hx hb dX7_hasEntry_16 (by decide) ?_
    refine lv_iand hx hb dX7_hasEntry_17 ?_
    refine lv_iconst (v := (1 : Int32)) hx hb dX7_hasEntry_18 (by decide) ?_
    refine lv_icmp_ne (tgt := 26) hx hb dX7_hasEntry_19 (by decide) (fun hc => ?_) (fun hc => ?_)
    · replace hB := hB.1 hc
      refine lv_iconst (v := (0 : Int32)) hx hb dX7_hasEntry_26 (by decide) ?_
      exact xr_zret X hw hr hk hB dX7_hasEntry_27
    · replace hB := hB.2 hc
      refine lv_iconst (v := (1 : Int32)) hx hb dX7_hasEntry_22 (by decide) ?_
      refine lv_goto (tgt := 27) hx hb dX7_hasEntry_23 (by decide) ?_
      exact xr_zret X hw hr hk hB dX7_hasEntry_27
theorem xf_X10_9 {p : Program} {s : State} {m : MethodId} {args : Array Value} {c : Code} {cc : ByteArray} {nL : Nat} {D : va_G} {cy : Nat → ClassId} {lay : List xw_E} {q : Nat → Nat} (X : xr_X p s m args c cc nL RX10 D cy lay q) : xr_F args s RX10 9 10 0 := ⟨RX10, TX10, 1, tyX10, rfl, by decide, fun w h => X.2.2.2.2.1 w (xt_inX10 w h), tyX10_ok, nmX10, Or.inl (X.2.2.2.2.1 _ xt_2_30)⟩
set_option maxRecDepth 100000 in
set_option maxHeartbeats 4000000 in
theorem xc_X10_at (l : Launch) (D : va_G) (cy : Nat → ClassId) (q : Nat → Nat) (σ : xw_M) (o0 : Nat) (a1 : Int32) (a2 : Int32) (h0 : o0 < 7) {Z : Int32 → xw_M → Prop} (hU : xu_X10_at σ o0 a1 a2 Z) : xr_CI l yX10_at cX10_at 3 .int { frames := 1, cells := 0, slots := 0, locals := 22 } D cy xl_A q σ [.ref (q (16 + o0)), .int a1, .int a2] Z := by
  refine xr_CI.of RX10 rfl (by decide) (Nat.le_of_ble_eq_true rfl) (fun p e s m below meth c X hw hr hk ls hl => ?_)
  have hx := X.1
  have hb := X.2.1
  have hl : lv_has ls 3 [(0, .ref (q (16 + o0))), (1, .int a1), (2, .int a2)] := hl
  unfold xu_X10_at at hU
  have hB := hU
  refine lv_iload_n hx hb dX10_at_0 rfl (lv_at hl 1 rfl) ?_
  refine lv_iconst (v := (0 : Int32)) hx hb dX10_at_1 (by decide) ?_
  refine lv_iconst (v := (5 : Int32)) hx hb dX10_at_2 (by decide) ?_
  refine xr_i hw (xr_runSN (As := [.int a1, .int (0 : Int32), .int (5 : Int32)]) (rest := []) X hw (xc_X11_isWithin l D cy q σ a1 (0 : Int32) (5 : Int32) hB _) xm_X11_isWithin (X.2.2.2.2.2.1.2 _ (List.mem_of_getElem? (i := 6) rfl)) xt_3_81 ⟨Nat.le_of_ble_eq_true rfl, Nat.le_of_ble_eq_true rfl⟩ rfl rfl hl.1 (Nat.le_of_ble_eq_true rfl) dX10_at_3 ⟨Nat.zero_le _, Nat.zero_le _⟩) (fun r2 σ1 H locs hB hw => ?_)
  refine lv_if_eq (tgt := 18) hx hb dX10_at_6 (by decide) (fun hc => ?_) (fun hc => ?_)
  · replace hB := hB.1 hc
    refine lv_iconst (v := (-1 : Int32)) hx hb dX10_at_18 (by decide) ?_
    exact xr_iret X hw hr hk hB dX10_at_19
  · replace hB := hB.2 hc
    refine lv_iload_n hx hb dX10_at_9 rfl (lv_at hl 2 rfl) ?_
    refine lv_iconst (v := (0 : Int32)) hx hb dX10_at_10 (by decide) ?_
    refine lv_iconst (v := (3 : Int32)) hx hb dX10_at_11 (by decide) ?_
    refine xr_i hw (xr_runSN (As := [.int a2, .int (0 : Int32), .int (3 : Int32)]) (rest := []) X hw (xc_X11_isWithin l D cy q σ1 a2 (0 : Int32) (3 : Int32) hB _) xm_X11_isWithin (X.2.2.2.2.2.1.2 _ (List.mem_of_getElem? (i := 6) rfl)) xt_3_81 ⟨Nat.le_of_ble_eq_true rfl, Nat.le_of_ble_eq_true rfl⟩ rfl rfl hl.1 (Nat.le_of_ble_eq_true rfl) dX10_at_12 ⟨Nat.zero_le _, Nat.zero_le _⟩) (fun r4 σ3 H locs hB hw => ?_)
    refine lv_if_ne (tgt := 20) hx hb dX10_at_15 (by decide) (fun hc => ?_) (fun hc => ?_)
    · replace hB := hB.1 hc
      refine lv_aload_n hx hb dX10_at_20 rfl (lv_at hl 0 rfl) ?_
      refine xr_getr X hw (xf_X10_9 X) (16 + o0) (xl_A_Timetable_at (i := o0) h0) rfl dX10_at_21 ?_
      refine lv_iload_n hx hb dX10_at_24 rfl (lv_at hl 1 rfl) ?_
      refine lv_iconst (v := (4 : Int32)) hx hb dX10_at_25 (by decide) ?_
      refine lv_imul hx hb dX10_at_26 ?_
      refine lv_iload_n hx hb dX10_at_27 rfl (lv_at hl 2 rfl) ?_
      refine lv_iadd hx hb dX10_at_28 ?_
      refine xr_iald X hw (66 + o0) (xl_A_Timetable_cells_at (i := o0) h0) hB.1 dX10_at_29 ?_
      replace hB := hB.2
      exact xr_iret X hw hr hk hB dX10_at_30
    · replace hB := hB.2 hc
      refine lv_iconst (v := (-1 : Int32)) hx hb dX10_at_18 (by decide) ?_
      exact xr_iret X hw hr hk hB dX10_at_19
theorem xm_X10_at : xr_MW yX10_at cX10_at 3 (some .int) 2 := ⟨xt_3_167, xt_1_10, by decide, by decide, by decide +kernel⟩
set_option maxRecDepth 100000 in
set_option maxHeartbeats 4000000 in
theorem xc_X10_has (l : Launch) (D : va_G) (cy : Nat → ClassId) (q : Nat → Nat) (σ : xw_M) (o0 : Nat) (a1 : Int32) (h0 : o0 < 7) {Z : Int32 → xw_M → Prop} (hU : xu_X10_has σ o0 a1 Z) : xr_CI l yX10_has cX10_has 2 .boolean { frames := 2, cells := 0, slots := 0, locals := 44 } D cy xl_A q σ [.ref (q (16 + o0)), .int a1] Z := by
  refine xr_CI.of RX10 rfl (by decide) (Nat.le_of_ble_eq_true rfl) (fun p e s m below meth c X hw hr hk ls hl => ?_)
  have hx := X.1
  have hb := X.2.1
  have hl : lv_has ls 2 [(0, .ref (q (16 + o0))), (1, .int a1)] := hl
  unfold xu_X10_has at hU
  have hB := hU
  refine lv_aload_n hx hb dX10_has_0 rfl (lv_at hl 0 rfl) ?_
  refine lv_iload_n hx hb dX10_has_1 rfl (lv_at hl 1 rfl) ?_
  refine lv_iconst (v := (1 : Int32)) hx hb dX10_has_2 (by decide) ?_
  refine xr_i hw (xr_runV (As := [.int a1, .int (1 : Int32)]) (rest := []) X hw (16 + o0) (xc_X10_at l D cy q σ o0 a1 (1 : Int32) h0 hB _) xm_X10_at xt_3_164 xt_3_165 xt_3_166 ⟨Nat.le_of_ble_eq_true rfl, Nat.le_of_ble_eq_true rfl⟩ (xl_A_Timetable_at (i := o0) h0) rfl rfl rfl rfl hl.1 (Nat.le_of_ble_eq_true rfl) dX10_has_3 ⟨Nat.zero_le _, Nat.zero_le _⟩) (fun r2 σ1 H locs hB hw => ?_)
  refine lv_iconst (v := (-1 : Int32)) hx hb dX10_has_6 (by decide) ?_
  refine lv_icmp_eq (tgt := 14) hx hb dX10_has_7 (by decide) (fun hc => ?_) (fun hc => ?_)
  · replace hB := hB.1 hc
    refine lv_iconst (v := (0 : Int32)) hx hb dX10_has_14 (by decide) ?_
    exact xr_zret X hw hr hk hB dX10_has_15
  · replace hB := hB.2 hc
    refine lv_iconst (v := (1 : Int32)) hx hb dX10_has_10 (by decide) ?_
    refine lv_goto (tgt := 15) hx hb dX10_has_11 (by decide) ?_
    exact xr_zret X hw hr hk hB dX10_has_15
