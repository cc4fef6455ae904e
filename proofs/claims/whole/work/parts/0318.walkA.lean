set_option maxRecDepth 100000 in
set_option maxHeartbeats 4000000 in
theorem xc_X2_ofBreed (l : Launch) (D : va_G) (cy : Nat → ClassId) (q : Nat → Nat) (σ : xw_M) (a1 : Int32) (a2 : Int32) {Z : Int32 → xw_M → Prop} (hU : xu_X2_ofBreed σ a1 a2 Z) : xr_CI l yX2_ofBreed cX2_ofBreed 5 .int { frames := 0, cells := 0, slots := 0, locals := 0 } D cy xl_A q σ [.ref (q 4), .int a1, .int a2] Z := by
  refine xr_CI.of RX2 rfl (by decide) (Nat.le_of_ble_eq_true rfl) (fun p e s m below meth c X hw hr hk ls hl => ?_)
  have hx := X.1
  have hb := X.2.1
  have hl : lv_has ls 5 [(0, .ref (q 4)), (1, .int a1), (2, .int a2)] := hl
  have hB := hU (fun (σ : xw_M) (v3 : Int32) (v4 : Int32) => ∀ (H : Heap) (locs : List Loc) (ls : Array Slot), xr_H D cy xl_A q s σ H locs → lv_has ls 5 [(0, .ref (q 4)), (1, .int a1), (2, .int a2), (3, .int v3), (4, .int v4)] → W p l e ({ frames := 0, cells := 0, slots := 0, locals := 0 } : Room) s m ([.ref (q 4), .int a1, .int a2] : List Value).toArray below meth c H locs 0 0 (MQ below (va_Qi Z (xr_po D cy xl_A q) (xw_A xl_A q s.heap.size)) ([.ref (q 4), .int a1, .int a2] : List Value).toArray s 0 0 (xw_A xl_A q s.heap.size)) (F0 m 5 ls []))
    (by
    intro σ v3 v4 hB H locs ls hw hl
    unfold xb_X2_ofBreed_5 at hB
    refine lv_iload hx hb dX2_ofBreed_5 (lv_at hl 4 rfl) ?_
    refine lv_aload_n hx hb dX2_ofBreed_7 rfl (lv_at hl 0 rfl) ?_
    refine xr_geti X hw (xf_X2_49 X) 4 xl_A_Kennel_at rfl dX2_ofBreed_8 ?_
    refine lv_icmp_ge (tgt := 40) hx hb dX2_ofBreed_11 (by decide) (fun hc => ?_) (fun hc => ?_)
    · replace hB := hB.1 hc
      refine lv_iload_n hx hb dX2_ofBreed_40 rfl (lv_at hl 3 rfl) ?_
      exact xr_iret X hw hr hk hB dX2_ofBreed_41
    · replace hB := hB.2 hc
      refine lv_aload_n hx hb dX2_ofBreed_14 rfl (lv_at hl 0 rfl) ?_
      refine xr_getr X hw (xf_X2_30 X) 4 xl_A_Kennel_at rfl dX2_ofBreed_15 ?_
      refine lv_iload hx hb dX2_ofBreed_18 (lv_at hl 4 rfl) ?_
      refine xr_iald X hw 34 xl_A_Kennel_breed_at hB.1 dX2_ofBreed_20 ?_
      replace hB := hB.2
      refine lv_iload_n hx hb dX2_ofBreed_21 rfl (lv_at hl 2 rfl) ?_
      refine lv_icmp_ne (tgt := 34) hx hb dX2_ofBreed_22 (by decide) (fun hc => ?_) (fun hc => ?_)
      · replace hB := hB.1 hc
        refine lv_iinc (v := (v4 + (1 : Int32))) (lv' := [(4, .int (v4 + (1 : Int32))), (0, .ref (q 4)), (1, .int a1), (2, .int a2), (3, .int v3)]) hx hb dX2_ofBreed_34 hl (k := 4) rfl rfl (by decide) rfl (fun ls hl => ?_)
        refine lv_goto (tgt := 5) hx hb dX2_ofBreed_37 (by decide) ?_
        exact hB _ _ _ hw (lv_sub hl [1, 2, 3, 4, 0] rfl)
      · replace hB := hB.2 hc
        refine lv_iload_n hx hb dX2_ofBreed_25 rfl (lv_at hl 3 rfl) ?_
        refine lv_iload_n hx hb dX2_ofBreed_26 rfl (lv_at hl 1 rfl) ?_
        refine lv_iconst (v := (1 : Int32)) hx hb dX2_ofBreed_27 (by decide) ?_
        refine lv_iload hx hb dX2_ofBreed_28 (lv_at hl 4 rfl) ?_
        refine lv_ishl hx hb dX2_ofBreed_30 ?_
        refine lv_iand hx hb dX2_ofBreed_31 ?_
        refine lv_ior hx hb dX2_ofBreed_32 ?_
        refine lv_topi (fun x1 hx1 => ?_)
        replace hB := hB _ hx1
        refine lv_istore_n (lv' := [(3, .int x1), (0, .ref (q 4)), (1, .int a1), (2, .int a2), (4, .int v4)]) hx hb dX2_ofBreed_33 rfl hl (by decide) rfl (fun ls hl => ?_)
        refine lv_iinc (v := (v4 + (1 : Int32))) (lv' := [(4, .int (v4 + (1 : Int32))), (3, .int x1), (0, .ref (q 4)), (1, .int a1), (2, .int a2)]) hx hb dX2_ofBreed_34 hl (k := 4) rfl rfl (by decide) rfl (fun ls hl => ?_)
        refine lv_goto (tgt := 5) hx hb dX2_ofBreed_37 (by decide) ?_
        exact hB _ _ _ hw (lv_sub hl [2, 3, 4, 1, 0] rfl))
  unfold xb_X2_ofBreed_e at hB
  refine lv_iconst (v := (0 : Int32)) hx hb dX2_ofBreed_0 (by decide) ?_
  refine lv_istore_n (lv' := [(3, .int (0 : Int32)), (0, .ref (q 4)), (1, .int a1), (2, .int a2)]) hx hb dX2_ofBreed_1 rfl hl (by decide) rfl (fun ls hl => ?_)
  refine lv_iconst (v := (0 : Int32)) hx hb dX2_ofBreed_2 (by decide) ?_
  refine lv_istore (lv' := [(4, .int (0 : Int32)), (3, .int (0 : Int32)), (0, .ref (q 4)), (1, .int a1), (2, .int a2)]) hx hb dX2_ofBreed_3 hl (by decide) rfl (fun ls hl => ?_)
  exact hB _ _ _ hw (lv_sub hl [2, 3, 4, 1, 0] rfl)
theorem xf_X1_31 {p : Program} {s : State} {m : MethodId} {args : Array Value} {c : Code} {cc : ByteArray} {nL : Nat} {D : va_G} {cy : Nat → ClassId} {lay : List xw_E} {q : Nat → Nat} (X : xr_X p s m args c cc nL RX1 D cy lay q) : xr_F args s RX1 31 1 0 := ⟨RX1, TX1, 7, tyX1, rfl, by decide, fun w h => X.2.2.2.2.1 w (xt_inX1 w h), tyX1_ok, nmX1, Or.inl (X.2.2.2.2.1 _ xt_1_212)⟩
theorem xf_X1_56 {p : Program} {s : State} {m : MethodId} {args : Array Value} {c : Code} {cc : ByteArray} {nL : Nat} {D : va_G} {cy : Nat → ClassId} {lay : List xw_E} {q : Nat → Nat} (X : xr_X p s m args c cc nL RX1 D cy lay q) : xr_F args s RX1 56 2 12 := ⟨RX2, TX2, 13, tyX2, rfl, by decide, fun w h => X.2.2.2.2.1 w (xt_inX2 w h), tyX2_ok, nmX2, Or.inr (va_Nw.use rfl (X.2.2.2.2.2.1.1 _ (List.mem_of_getElem? (i := 30) rfl)))⟩
theorem xf_X1_60 {p : Program} {s : State} {m : MethodId} {args : Array Value} {c : Code} {cc : ByteArray} {nL : Nat} {D : va_G} {cy : Nat → ClassId} {lay : List xw_E} {q : Nat → Nat} (X : xr_X p s m args c cc nL RX1 D cy lay q) : xr_F args s RX1 60 2 9 := ⟨RX2, TX2, 13, tyX2, rfl, by decide, fun w h => X.2.2.2.2.1 w (xt_inX2 w h), tyX2_ok, nmX2, Or.inr (va_Nw.use rfl (X.2.2.2.2.2.1.1 _ (List.mem_of_getElem? (i := 24) rfl)))⟩
set_option maxRecDepth 100000 in
set_option maxHeartbeats 4000000 in
theorem xc_X1_buyer (l : Launch) (D : va_G) (cy : Nat → ClassId) (q : Nat → Nat) (σ : xw_M) (a1 : Int32) (a2 : Int32) {Z : Int32 → xw_M → Prop} (hU : xu_X1_buyer σ a1 a2 Z) : xr_CI l yX1_buyer cX1_buyer 3 .int { frames := 0, cells := 0, slots := 0, locals := 0 } D cy xl_A q σ [.ref (q 5), .int a1, .int a2] Z := by
  refine xr_CI.of RX1 rfl (by decide) (Nat.le_of_ble_eq_true rfl) (fun p e s m below meth c X hw hr hk ls hl => ?_)
  have hx := X.1
  have hb := X.2.1
  have hl : lv_has ls 3 [(0, .ref (q 5)), (1, .int a1), (2, .int a2)] := hl
  have hB := hU (fun (σ : xw_M) => ∀ (H : Heap) (locs : List Loc) (ls : Array Slot), xr_H D cy xl_A q s σ H locs → lv_has ls 3 [(0, .ref (q 5)), (1, .int a1)] → W p l e ({ frames := 0, cells := 0, slots := 0, locals := 0 } : Room) s m ([.ref (q 5), .int a1, .int a2] : List Value).toArray below meth c H locs 0 0 (MQ below (va_Qi Z (xr_po D cy xl_A q) (xw_A xl_A q s.heap.size)) ([.ref (q 5), .int a1, .int a2] : List Value).toArray s 0 0 (xw_A xl_A q s.heap.size)) (F0 m 19 ls []))
    (by
    intro σ hB H locs ls hw hl
    unfold xb_X1_buyer_19 at hB
    refine lv_iload_n hx hb dX1_buyer_19 rfl (lv_at hl 1 rfl) ?_
    refine lv_if_lt (tgt := 46) hx hb dX1_buyer_20 (by decide) (fun hc => ?_) (fun hc => ?_)
    · replace hB := hB.1 hc
      refine lv_iconst (v := (-1 : Int32)) hx hb dX1_buyer_46 (by decide) ?_
      exact xr_iret X hw hr hk hB dX1_buyer_47
    · replace hB := hB.2 hc
      refine lv_iload_n hx hb dX1_buyer_23 rfl (lv_at hl 1 rfl) ?_
      refine lv_aload_n hx hb dX1_buyer_24 rfl (lv_at hl 0 rfl) ?_
      refine xr_getr X hw (xf_X1_31 X) 5 xl_A_Facts_at rfl dX1_buyer_25 ?_
      refine xr_geti X hw (xf_X1_56 X) 4 xl_A_Kennel_at rfl dX1_buyer_28 ?_
      refine lv_icmp_ge (tgt := 46) hx hb dX1_buyer_31 (by decide) (fun hc => ?_) (fun hc => ?_)
      · replace hB := hB.1 hc
        refine lv_iconst (v := (-1 : Int32)) hx hb dX1_buyer_46 (by decide) ?_
        exact xr_iret X hw hr hk hB dX1_buyer_47
      · replace hB := hB.2 hc
        refine lv_aload_n hx hb dX1_buyer_34 rfl (lv_at hl 0 rfl) ?_
        refine xr_getr X hw (xf_X1_31 X) 5 xl_A_Facts_at rfl dX1_buyer_35 ?_
        refine xr_getr X hw (xf_X1_60 X) 4 xl_A_Kennel_at rfl dX1_buyer_38 ?_
        refine lv_iload_n hx hb dX1_buyer_41 rfl (lv_at hl 1 rfl) ?_
        refine xr_iald X hw 37 xl_A_Kennel_firstOwner_at hB.1 dX1_buyer_42 ?_
        replace hB := hB.2
        refine lv_goto (tgt := 47) hx hb dX1_buyer_43 (by decide) ?_
        exact xr_iret X hw hr hk hB dX1_buyer_47)
  unfold xb_X1_buyer_e at hB
  refine lv_iload_n hx hb dX1_buyer_0 rfl (lv_at hl 2 rfl) ?_
  refine lv_if_lt (tgt := 19) hx hb dX1_buyer_1 (by decide) (fun hc => ?_) (fun hc => ?_)
  · replace hB := hB.1 hc
    exact hB _ _ _ hw (lv_sub hl [0, 1] rfl)
  · replace hB := hB.2 hc
    refine lv_iload_n hx hb dX1_buyer_4 rfl (lv_at hl 2 rfl) ?_
    refine lv_aload_n hx hb dX1_buyer_5 rfl (lv_at hl 0 rfl) ?_
    refine xr_geti X hw (xf_X1_27 X) 5 xl_A_Facts_at rfl dX1_buyer_6 ?_
    refine lv_icmp_ge (tgt := 19) hx hb dX1_buyer_9 (by decide) (fun hc => ?_) (fun hc => ?_)
    · replace hB := hB.1 hc
      exact hB _ _ _ hw (lv_sub hl [0, 1] rfl)
    · replace hB := hB.2 hc
      refine lv_aload_n hx hb dX1_buyer_12 rfl (lv_at hl 0 rfl) ?_
      refine xr_getr X hw (xf_X1_21 X) 5 xl_A_Facts_at rfl dX1_buyer_13 ?_
      refine lv_iload_n hx hb dX1_buyer_16 rfl (lv_at hl 2 rfl) ?_
      refine xr_iald X hw 42 xl_A_Facts_values_at hB.1 dX1_buyer_17 ?_
      replace hB := hB.2
      exact xr_iret X hw hr hk hB dX1_buyer_18
set_option maxRecDepth 100000 in
set_option maxHeartbeats 4000000 in
theorem xc_X1_saleBy (l : Launch) (D : va_G) (cy : Nat → ClassId) (q : Nat → Nat) (σ : xw_M) (a1 : Int32) (a2 : Int32) (a3 : Int32) {Z : Int32 → xw_M → Prop} (hU : xu_X1_saleBy σ a1 a2 a3 Z) : xr_CI l yX1_saleBy cX1_saleBy 8 .int { frames := 0, cells := 0, slots := 0, locals := 0 } D cy xl_A q σ [.ref (q 5), .int a1, .int a2, .int a3] Z := by
  refine xr_CI.of RX1 rfl (by decide) (Nat.le_of_ble_eq_true rfl) (fun p e s m below meth c X hw hr hk ls hl => ?_)
  have hx := X.1
  have hb := X.2.1
  have hl : lv_has ls 8 [(0, .ref (q 5)), (1, .int a1), (2, .int a2), (3, .int a3)] := hl
  have hB := hU (fun (σ : xw_M) (v4 : Int32) (v5 : Int32) (v6 : Int32) => ∀ (H : Heap) (locs : List Loc) (ls : Array Slot), xr_H D cy xl_A q s σ H locs → lv_has ls 8 [(0, .ref (q 5)), (1, .int a1), (2, .int a2), (3, .int a3), (4, .int v4), (5, .int v5), (6, .int v6)] → W p l e ({ frames := 0, cells := 0, slots := 0, locals := 0 } : Room) s m ([.ref (q 5), .int a1, .int a2, .int a3] : List Value).toArray below meth c H locs 0 0 (MQ below (va_Qi Z (xr_po D cy xl_A q) (xw_A xl_A q s.heap.size)) ([.ref (q 5), .int a1, .int a2, .int a3] : List Value).toArray s 0 0 (xw_A xl_A q s.heap.size)) (F0 m 9 ls []))
    (fun (σ : xw_M) (s0 : Int32) (v4 : Int32) (v5 : Int32) (v6 : Int32) => ∀ (H : Heap) (locs : List Loc) (ls : Array Slot), xr_H D cy xl_A q s σ H locs → lv_has ls 8 [(0, .ref (q 5)), (1, .int a1), (2, .int a2), (3, .int a3), (4, .int v4), (5, .int v5), (6, .int v6)] → W p l e ({ frames := 0, cells := 0, slots := 0, locals := 0 } : Room) s m ([.ref (q 5), .int a1, .int a2, .int a3] : List Value).toArray below meth c H locs 0 0 (MQ below (va_Qi Z (xr_po D cy xl_A q) (xw_A xl_A q s.heap.size)) ([.ref (q 5), .int a1, .int a2, .int a3] : List Value).toArray s 0 0 (xw_A xl_A q s.heap.size)) (F0 m 51 ls [.int s0]))
    (by
    intro σ v4 v5 v6 hB H locs ls hw hl
    unfold xb_X1_saleBy_9 at hB
    refine lv_iload hx hb dX1_saleBy_9 (lv_at hl 6 rfl) ?_
    refine lv_iload_n hx hb dX1_saleBy_11 rfl (lv_at hl 3 rfl) ?_
    refine lv_icmp_ge (tgt := 100) hx hb dX1_saleBy_12 (by decide) (fun hc => ?_) (fun hc => ?_)
    · replace hB := hB.1 hc
      refine lv_iload hx hb dX1_saleBy_100 (lv_at hl 4 rfl) ?_
      exact xr_iret X hw hr hk hB dX1_saleBy_102
    · replace hB := hB.2 hc
      refine lv_iload hx hb dX1_saleBy_15 (lv_at hl 6 rfl) ?_
      refine lv_aload_n hx hb dX1_saleBy_17 rfl (lv_at hl 0 rfl) ?_
      refine xr_geti X hw (xf_X1_27 X) 5 xl_A_Facts_at rfl dX1_saleBy_18 ?_
      refine lv_icmp_ge (tgt := 100) hx hb dX1_saleBy_21 (by decide) (fun hc => ?_) (fun hc => ?_)
      · replace hB := hB.1 hc
        refine lv_iload hx hb dX1_saleBy_100 (lv_at hl 4 rfl) ?_
        exact xr_iret X hw hr hk hB dX1_saleBy_102
      · replace hB := hB.2 hc
        refine lv_aload_n hx hb dX1_saleBy_24 rfl (lv_at hl 0 rfl) ?_
        refine xr_getr X hw (xf_X1_9 X) 5 xl_A_Facts_at rfl dX1_saleBy_25 ?_
        refine lv_iload hx hb dX1_saleBy_28 (lv_at hl 6 rfl) ?_
        refine xr_iald X hw 39 xl_A_Facts_kinds_at hB.1 dX1_saleBy_30 ?_
        replace hB := hB.2
        refine lv_iconst (v := (4 : Int32)) hx hb dX1_saleBy_31 (by decide) ?_
        refine lv_icmp_ne (tgt := 50) hx hb dX1_saleBy_32 (by decide) (fun hc => ?_) (fun hc => ?_)
        · replace hB := hB.1 hc
          refine lv_iconst (v := (0 : Int32)) hx hb dX1_saleBy_50 (by decide) ?_
          exact hB _ _ _ hw (lv_sub hl [0, 1, 2, 3, 4, 5, 6] rfl)
        · replace hB := hB.2 hc
          refine lv_aload_n hx hb dX1_saleBy_35 rfl (lv_at hl 0 rfl) ?_
          refine xr_getr X hw (xf_X1_18 X) 5 xl_A_Facts_at rfl dX1_saleBy_36 ?_
          refine lv_iload hx hb dX1_saleBy_39 (lv_at hl 6 rfl) ?_
          refine xr_iald X hw 41 xl_A_Facts_dogs_at hB.1 dX1_saleBy_41 ?_
          replace hB := hB.2
          refine lv_iload_n hx hb dX1_saleBy_42 rfl (lv_at hl 1 rfl) ?_
          refine lv_icmp_ne (tgt := 50) hx hb dX1_saleBy_43 (by decide) (fun hc => ?_) (fun hc => ?_)
          · replace hB := hB.1 hc
            refine lv_iconst (v := (0 : Int32)) hx hb dX1_saleBy_50 (by decide) ?_
            exact hB _ _ _ hw (lv_sub hl [0, 1, 2, 3, 4, 5, 6] rfl)
          · replace hB := hB.2 hc
            refine lv_iconst (v := (1 : Int32)) hx hb dX1_saleBy_46 (by decide) ?_
            refine lv_goto (tgt := 51) hx hb dX1_saleBy_47 (by decide) ?_
            exact hB _ _ _ hw (lv_sub hl [0, 1, 2, 3, 4, 5, 6] rfl))
    (by
    intro σ s0 v4 v5 v6 hB H locs ls hw hl
    unfold xb_X1_saleBy_51 at hB
    refine lv_istore (lv' := [(7, .int s0), (0, .ref (q 5)), (1, .int a1), (2, .int a2), (3, .int a3), (4, .int v4), (5, .int v5), (6, .int v6)]) hx hb dX1_saleBy_51 hl (by decide) rfl (fun ls hl => ?_)
    refine lv_iload hx hb dX1_saleBy_53 (lv_at hl 0 rfl) ?_
    refine lv_if_eq (tgt := 94) hx hb dX1_saleBy_55 (by decide) (fun hc => ?_) (fun hc => ?_)
    · replace hB := hB.1 hc
      refine lv_iinc (v := (v6 + (1 : Int32))) (lv' := [(6, .int (v6 + (1 : Int32))), (7, .int s0), (0, .ref (q 5)), (1, .int a1), (2, .int a2), (3, .int a3), (4, .int v4), (5, .int v5)]) hx hb dX1_saleBy_94 hl (k := 7) rfl rfl (by decide) rfl (fun ls hl => ?_)
      refine lv_goto (tgt := 9) hx hb dX1_saleBy_97 (by decide) ?_
      exact hB _ _ _ hw (lv_sub hl [2, 3, 4, 5, 6, 7, 0] rfl)
    · replace hB := hB.2 hc
      refine lv_aload_n hx hb dX1_saleBy_58 rfl (lv_at hl 1 rfl) ?_
      refine xr_getr X hw (xf_X1_24 X) 5 xl_A_Facts_at rfl dX1_saleBy_59 ?_
      refine lv_iload hx hb dX1_saleBy_62 (lv_at hl 7 rfl) ?_
      refine xr_iald X hw 43 xl_A_Facts_days_at hB.1 dX1_saleBy_64 ?_
      replace hB := hB.2
      refine lv_iload_n hx hb dX1_saleBy_65 rfl (lv_at hl 3 rfl) ?_
      refine lv_icmp_gt (tgt := 94) hx hb dX1_saleBy_66 (by decide) (fun hc => ?_) (fun hc => ?_)
      · replace hB := hB.1 hc
        refine lv_iinc (v := (v6 + (1 : Int32))) (lv' := [(6, .int (v6 + (1 : Int32))), (7, .int s0), (0, .ref (q 5)), (1, .int a1), (2, .int a2), (3, .int a3), (4, .int v4), (5, .int v5)]) hx hb dX1_saleBy_94 hl (k := 7) rfl rfl (by decide) rfl (fun ls hl => ?_)
        refine lv_goto (tgt := 9) hx hb dX1_saleBy_97 (by decide) ?_
        exact hB _ _ _ hw (lv_sub hl [2, 3, 4, 5, 6, 7, 0] rfl)
      · replace hB := hB.2 hc
        refine lv_aload_n hx hb dX1_saleBy_69 rfl (lv_at hl 1 rfl) ?_
        refine xr_getr X hw (xf_X1_24 X) 5 xl_A_Facts_at rfl dX1_saleBy_70 ?_
        refine lv_iload hx hb dX1_saleBy_73 (lv_at hl 7 rfl) ?_
        refine xr_iald X hw 43 xl_A_Facts_days_at hB.1 dX1_saleBy_75 ?_
        replace hB := hB.2
        refine lv_iload hx hb dX1_saleBy_76 (lv_at hl 6 rfl) ?_
        refine lv_icmp_lt (tgt := 94) hx hb dX1_saleBy_78 (by decide) (fun hc => ?_) (fun hc => ?_)
        · replace hB := hB.1 hc
          refine lv_iinc (v := (v6 + (1 : Int32))) (lv' := [(6, .int (v6 + (1 : Int32))), (7, .int s0), (0, .ref (q 5)), (1, .int a1), (2, .int a2), (3, .int a3), (4, .int v4), (5, .int v5)]) hx hb dX1_saleBy_94 hl (k := 7) rfl rfl (by decide) rfl (fun ls hl => ?_)
          refine lv_goto (tgt := 9) hx hb dX1_saleBy_97 (by decide) ?_
          exact hB _ _ _ hw (lv_sub hl [2, 3, 4, 5, 6, 7, 0] rfl)
        · replace hB := hB.2 hc
          refine lv_iload hx hb dX1_saleBy_81 (lv_at hl 7 rfl) ?_
          refine lv_istore (lv' := [(4, .int v6), (7, .int s0), (0, .ref (q 5)), (1, .int a1), (2, .int a2), (3, .int a3), (5, .int v5), (6, .int v6)]) hx hb dX1_saleBy_83 hl (by decide) rfl (fun ls hl => ?_)
          refine lv_aload_n hx hb dX1_saleBy_85 rfl (lv_at hl 2 rfl) ?_
          refine xr_getr X hw (xf_X1_24 X) 5 xl_A_Facts_at rfl dX1_saleBy_86 ?_
          refine lv_iload hx hb dX1_saleBy_89 (lv_at hl 7 rfl) ?_
          refine xr_iald X hw 43 xl_A_Facts_days_at hB.1 dX1_saleBy_91 ?_
          replace hB := hB.2
          refine lv_istore (lv' := [(5, .int (σ.1 43 (Int32.toNatClampNeg v6))), (4, .int v6), (7, .int s0), (0, .ref (q 5)), (1, .int a1), (2, .int a2), (3, .int a3), (6, .int v6)]) hx hb dX1_saleBy_92 hl (by decide) rfl (fun ls hl => ?_)
          refine lv_iinc (v := (v6 + (1 : Int32))) (lv' := [(6, .int (v6 + (1 : Int32))), (5, .int (σ.1 43 (Int32.toNatClampNeg v6))), (4, .int v6), (7, .int s0), (0, .ref (q 5)), (1, .int a1), (2, .int a2), (3, .int a3)]) hx hb dX1_saleBy_94 hl (k := 7) rfl rfl (by decide) rfl (fun ls hl => ?_)
          refine lv_goto (tgt := 9) hx hb dX1_saleBy_97 (by decide) ?_
          exact hB _ _ _ hw (lv_sub hl [4, 5, 6, 7, 2, 1, 0] rfl))
  unfold xb_X1_saleBy_e at hB
  refine lv_iconst (v := (-1 : Int32)) hx hb dX1_saleBy_0 (by decide) ?_
  refine lv_istore (lv' := [(4, .int (-1 : Int32)), (0, .ref (q 5)), (1, .int a1), (2, .int a2), (3, .int a3)]) hx hb dX1_saleBy_1 hl (by decide) rfl (fun ls hl => ?_)
  refine lv_iconst (v := (-1 : Int32)) hx hb dX1_saleBy_3 (by decide) ?_
  refine lv_istore (lv' := [(5, .int (-1 : Int32)), (4, .int (-1 : Int32)), (0, .ref (q 5)), (1, .int a1), (2, .int a2), (3, .int a3)]) hx hb dX1_saleBy_4 hl (by decide) rfl (fun ls hl => ?_)
  refine lv_iconst (v := (0 : Int32)) hx hb dX1_saleBy_6 (by decide) ?_
  refine lv_istore (lv' := [(6, .int (0 : Int32)), (5, .int (-1 : Int32)), (4, .int (-1 : Int32)), (0, .ref (q 5)), (1, .int a1), (2, .int a2), (3, .int a3)]) hx hb dX1_saleBy_7 hl (by decide) rfl (fun ls hl => ?_)
  exact hB _ _ _ hw (lv_sub hl [3, 4, 5, 6, 2, 1, 0] rfl)
theorem xm_X1_saleBy : xr_MW yX1_saleBy cX1_saleBy 8 (some .int) 3 := ⟨xt_3_230, xt_1_7, by decide, by decide, by decide +kernel⟩
theorem xm_X1_buyer : xr_MW yX1_buyer cX1_buyer 3 (some .int) 2 := ⟨xt_3_234, xt_1_7, by decide, by decide, by decide +kernel⟩
set_option maxRecDepth 100000 in
set_option maxHeartbeats 4000000 in
theorem xc_X1_ownerOn (l : Launch) (D : va_G) (cy : Nat → ClassId) (q : Nat → Nat) (σ : xw_M) (a1 : Int32) (a2 : Int32) (a3 : Int32) {Z : Int32 → xw_M → Prop} (hU : xu_X1_ownerOn σ a1 a2 a3 Z) : xr_CI l yX1_ownerOn cX1_ownerOn 4 .int { frames := 1, cells := 0, slots := 0, locals := 27 } D cy xl_A q σ [.ref (q 5), .int a1, .int a2, .int a3] Z := by
  refine xr_CI.of RX1 rfl (by decide) (Nat.le_of_ble_eq_true rfl) (fun p e s m below meth c X hw hr hk ls hl => ?_)
  have hx := X.1
  have hb := X.2.1
  have hl : lv_has ls 4 [(0, .ref (q 5)), (1, .int a1), (2, .int a2), (3, .int a3)] := hl
  unfold xu_X1_ownerOn at hU
  have hB := hU
  refine lv_aload_n hx hb dX1_ownerOn_0 rfl (lv_at hl 0 rfl) ?_
  refine lv_iload_n hx hb dX1_ownerOn_1 rfl (lv_at hl 1 rfl) ?_
  refine lv_aload_n hx hb dX1_ownerOn_2 rfl (lv_at hl 0 rfl) ?_
  refine lv_iload_n hx hb dX1_ownerOn_3 rfl (lv_at hl 1 rfl) ?_
  refine lv_iload_n hx hb dX1_ownerOn_4 rfl (lv_at hl 2 rfl) ?_
  refine lv_iload_n hx hb dX1_ownerOn_5 rfl (lv_at hl 3 rfl) ?_
  refine xr_i hw (xr_runV (As := [.int a1, .int a2, .int a3]) (rest := [.int a1, .ref (q 5)]) X hw 5 (xc_X1_saleBy l D cy q σ a1 a2 a3 hB _) xm_X1_saleBy xt_3_227 xt_3_229 xt_p_19 ⟨Nat.le_of_ble_eq_true rfl, Nat.le_of_ble_eq_true rfl⟩ xl_A_Facts_at rfl rfl rfl rfl hl.1 (Nat.le_of_ble_eq_true rfl) dX1_ownerOn_6 ⟨Nat.zero_le _, Nat.zero_le _⟩) (fun r2 σ1 H locs hB hw => ?_)
  refine xr_i hw (xr_runV (As := [.int a1, .int r2]) (rest := []) X hw 5 (xc_X1_buyer l D cy q σ1 a1 r2 hB _) xm_X1_buyer xt_3_231 xt_3_233 xt_p_20 ⟨Nat.le_of_ble_eq_true rfl, Nat.le_of_ble_eq_true rfl⟩ xl_A_Facts_at rfl rfl rfl rfl hl.1 (Nat.le_of_ble_eq_true rfl) dX1_ownerOn_9 ⟨Nat.zero_le _, Nat.zero_le _⟩) (fun r4 σ3 H locs hB hw => ?_)
  exact xr_iret X hw hr hk hB dX1_ownerOn_12
theorem xm_X1_ownerOn : xr_MW yX1_ownerOn cX1_ownerOn 4 (some .int) 3 := ⟨xt_3_226, xt_1_7, by decide, by decide, by decide +kernel⟩
set_option maxRecDepth 100000 in
set_option maxHeartbeats 4000000 in
theorem xc_X1_daysSinceOwned (l : Launch) (D : va_G) (cy : Nat → ClassId) (q : Nat → Nat) (σ : xw_M) (a1 : Int32) (a2 : Int32) (a3 : Int32) (a4 : Int32) {Z : Int32 → xw_M → Prop} (hU : xu_X1_daysSinceOwned σ a1 a2 a3 a4 Z) : xr_CI l yX1_daysSinceOwned cX1_daysSinceOwned 8 .int { frames := 2, cells := 0, slots := 0, locals := 50 } D cy xl_A q σ [.ref (q 5), .int a1, .int a2, .int a3, .int a4] Z := by
  refine xr_CI.of RX1 rfl (by decide) (Nat.le_of_ble_eq_true rfl) (fun p e s m below meth c X hw hr hk ls hl => ?_)
  have hx := X.1
  have hb := X.2.1
  have hl : lv_has ls 8 [(0, .ref (q 5)), (1, .int a1), (2, .int a2), (3, .int a3), (4, .int a4)] := hl
  have hB := hU (fun (σ : xw_M) (v5 : Int32) (v6 : Int32) => ∀ (H : Heap) (locs : List Loc) (ls : Array Slot), xr_H D cy xl_A q s σ H locs → lv_has ls 8 [(0, .ref (q 5)), (1, .int a1), (2, .int a2), (3, .int a3), (4, .int a4), (5, .int v5), (6, .int v6)] → W p l e ({ frames := 2, cells := 0, slots := 0, locals := 50 } : Room) s m ([.ref (q 5), .int a1, .int a2, .int a3, .int a4] : List Value).toArray below meth c H locs 0 0 (MQ below (va_Qi Z (xr_po D cy xl_A q) (xw_A xl_A q s.heap.size)) ([.ref (q 5), .int a1, .int a2, .int a3, .int a4] : List Value).toArray s 0 0 (xw_A xl_A q s.heap.size)) (F0 m 22 ls []))
    (by
    intro σ v5 v6 hB H locs ls hw hl
    unfold xb_X1_daysSinceOwned_22 at hB
    refine lv_iload hx hb dX1_daysSinceOwned_22 (lv_at hl 6 rfl) ?_
    refine lv_sipush (v := (200 : Int32)) hx hb dX1_daysSinceOwned_24 (by decide) ?_
    refine lv_icmp_gt (tgt := 98) hx hb dX1_daysSinceOwned_27 (by decide) (fun hc => ?_) (fun hc => ?_)
    · replace hB := hB.1 hc
      refine lv_iconst (v := (-1 : Int32)) hx hb dX1_daysSinceOwned_98 (by decide) ?_
      exact xr_iret X hw hr hk hB dX1_daysSinceOwned_99
    · replace hB := hB.2 hc
      refine lv_iload hx hb dX1_daysSinceOwned_30 (lv_at hl 5 rfl) ?_
      refine lv_if_lt (tgt := 98) hx hb dX1_daysSinceOwned_32 (by decide) (fun hc => ?_) (fun hc => ?_)
      · replace hB := hB.1 hc
        refine lv_iconst (v := (-1 : Int32)) hx hb dX1_daysSinceOwned_98 (by decide) ?_
        exact xr_iret X hw hr hk hB dX1_daysSinceOwned_99
      · replace hB := hB.2 hc
        refine lv_aload_n hx hb dX1_daysSinceOwned_35 rfl (lv_at hl 0 rfl) ?_
        refine lv_iload_n hx hb dX1_daysSinceOwned_36 rfl (lv_at hl 2 rfl) ?_
        refine lv_iload hx hb dX1_daysSinceOwned_37 (lv_at hl 5 rfl) ?_
        refine lv_iload hx hb dX1_daysSinceOwned_39 (lv_at hl 4 rfl) ?_
        refine xr_i hw (xr_runV (As := [.int a2, .int v5, .int a4]) (rest := []) X hw 5 (xc_X1_saleBy l D cy q σ a2 v5 a4 hB _) xm_X1_saleBy xt_3_227 xt_3_229 xt_p_19 ⟨Nat.le_of_ble_eq_true rfl, Nat.le_of_ble_eq_true rfl⟩ xl_A_Facts_at rfl rfl rfl rfl hl.1 (Nat.le_of_ble_eq_true rfl) dX1_daysSinceOwned_41 ⟨Nat.zero_le _, Nat.zero_le _⟩) (fun r4 σ3 H locs hB hw => ?_)
        refine lv_istore (lv' := [(7, .int r4), (0, .ref (q 5)), (1, .int a1), (2, .int a2), (3, .int a3), (4, .int a4), (5, .int v5), (6, .int v6)]) hx hb dX1_daysSinceOwned_44 hl (by decide) rfl (fun ls hl => ?_)
        refine lv_aload_n hx hb dX1_daysSinceOwned_46 rfl (lv_at hl 1 rfl) ?_
        refine lv_iload_n hx hb dX1_daysSinceOwned_47 rfl (lv_at hl 3 rfl) ?_
        refine lv_iload hx hb dX1_daysSinceOwned_48 (lv_at hl 0 rfl) ?_
        refine xr_i hw (xr_runV (As := [.int a2, .int r4]) (rest := []) X hw 5 (xc_X1_buyer l D cy q σ3 a2 r4 hB _) xm_X1_buyer xt_3_231 xt_3_233 xt_p_20 ⟨Nat.le_of_ble_eq_true rfl, Nat.le_of_ble_eq_true rfl⟩ xl_A_Facts_at rfl rfl rfl rfl hl.1 (Nat.le_of_ble_eq_true rfl) dX1_daysSinceOwned_50 ⟨Nat.zero_le _, Nat.zero_le _⟩) (fun r6 σ5 H locs hB hw => ?_)
        refine lv_iload_n hx hb dX1_daysSinceOwned_53 rfl (lv_at hl 2 rfl) ?_
        refine lv_icmp_ne (tgt := 62) hx hb dX1_daysSinceOwned_54 (by decide) (fun hc => ?_) (fun hc => ?_)
        · replace hB := hB.1 hc
          refine lv_iload hx hb dX1_daysSinceOwned_62 (lv_at hl 0 rfl) ?_
          refine lv_iconst (v := (0 : Int32)) hx hb dX1_daysSinceOwned_64 (by decide) ?_
          refine lv_aload_n hx hb dX1_daysSinceOwned_65 rfl (lv_at hl 1 rfl) ?_
          refine xr_geti X hw (xf_X1_27 X) 5 xl_A_Facts_at rfl dX1_daysSinceOwned_66 ?_
          refine lv_iconst (v := (1 : Int32)) hx hb dX1_daysSinceOwned_69 (by decide) ?_
          refine lv_isub hx hb dX1_daysSinceOwned_70 ?_
          refine xr_i hw (xr_runSN (As := [.int r4, .int (0 : Int32), .int ((σ5.1 5 6) - (1 : Int32))]) (rest := []) X hw (xc_X11_isWithin l D cy q σ5 r4 (0 : Int32) ((σ5.1 5 6) - (1 : Int32)) hB _) xm_X11_isWithin (X.2.2.2.2.2.1.2 _ (List.mem_of_getElem? (i := 7) rfl)) xt_3_81 ⟨Nat.le_of_ble_eq_true rfl, Nat.le_of_ble_eq_true rfl⟩ rfl rfl hl.1 (Nat.le_of_ble_eq_true rfl) dX1_daysSinceOwned_71 ⟨Nat.zero_le _, Nat.zero_le _⟩) (fun r8 σ7 H locs hB hw => ?_)
          refine lv_if_eq (tgt := 89) hx hb dX1_daysSinceOwned_74 (by decide) (fun hc => ?_) (fun hc => ?_)
          · replace hB := hB.1 hc
            refine lv_iconst (v := (-1 : Int32)) hx hb dX1_daysSinceOwned_89 (by decide) ?_
            refine lv_istore (lv' := [(5, .int (-1 : Int32)), (7, .int r4), (0, .ref (q 5)), (1, .int a1), (2, .int a2), (3, .int a3), (4, .int a4), (6, .int v6)]) hx hb dX1_daysSinceOwned_90 hl (by decide) rfl (fun ls hl => ?_)
            refine lv_iinc (v := (v6 + (1 : Int32))) (lv' := [(6, .int (v6 + (1 : Int32))), (5, .int (-1 : Int32)), (7, .int r4), (0, .ref (q 5)), (1, .int a1), (2, .int a2), (3, .int a3), (4, .int a4)]) hx hb dX1_daysSinceOwned_92 hl (k := 7) rfl rfl (by decide) rfl (fun ls hl => ?_)
            refine lv_goto (tgt := 22) hx hb dX1_daysSinceOwned_95 (by decide) ?_
            exact hB _ _ _ hw (lv_sub hl [3, 4, 5, 6, 7, 1, 0] rfl)
          · replace hB := hB.2 hc
            refine lv_aload_n hx hb dX1_daysSinceOwned_77 rfl (lv_at hl 1 rfl) ?_
            refine xr_getr X hw (xf_X1_24 X) 5 xl_A_Facts_at rfl dX1_daysSinceOwned_78 ?_
            refine lv_iload hx hb dX1_daysSinceOwned_81 (lv_at hl 0 rfl) ?_
            refine xr_iald X hw 43 xl_A_Facts_days_at hB.1 dX1_daysSinceOwned_83 ?_
            replace hB := hB.2
            refine lv_iconst (v := (1 : Int32)) hx hb dX1_daysSinceOwned_84 (by decide) ?_
            refine lv_isub hx hb dX1_daysSinceOwned_85 ?_
            refine lv_goto (tgt := 90) hx hb dX1_daysSinceOwned_86 (by decide) ?_
            refine lv_topi (fun x9 hx9 => ?_)
            replace hB := hB _ hx9
            refine lv_istore (lv' := [(5, .int x9), (7, .int r4), (0, .ref (q 5)), (1, .int a1), (2, .int a2), (3, .int a3), (4, .int a4), (6, .int v6)]) hx hb dX1_daysSinceOwned_90 hl (by decide) rfl (fun ls hl => ?_)
            refine lv_iinc (v := (v6 + (1 : Int32))) (lv' := [(6, .int (v6 + (1 : Int32))), (5, .int x9), (7, .int r4), (0, .ref (q 5)), (1, .int a1), (2, .int a2), (3, .int a3), (4, .int a4)]) hx hb dX1_daysSinceOwned_92 hl (k := 7) rfl rfl (by decide) rfl (fun ls hl => ?_)
            refine lv_goto (tgt := 22) hx hb dX1_daysSinceOwned_95 (by decide) ?_
            exact hB _ _ _ hw (lv_sub hl [3, 4, 5, 6, 7, 1, 0] rfl)
        · replace hB := hB.2 hc
          refine lv_iload_n hx hb dX1_daysSinceOwned_57 rfl (lv_at hl 4 rfl) ?_
          refine lv_iload hx hb dX1_daysSinceOwned_58 (lv_at hl 6 rfl) ?_
          refine lv_isub hx hb dX1_daysSinceOwned_60 ?_
          exact xr_iret X hw hr hk hB dX1_daysSinceOwned_61)
  unfold xb_X1_daysSinceOwned_e at hB
  refine lv_aload_n hx hb dX1_daysSinceOwned_0 rfl (lv_at hl 0 rfl) ?_
  refine lv_iload_n hx hb dX1_daysSinceOwned_1 rfl (lv_at hl 2 rfl) ?_
  refine lv_iload_n hx hb dX1_daysSinceOwned_2 rfl (lv_at hl 3 rfl) ?_
  refine lv_iload hx hb dX1_daysSinceOwned_3 (lv_at hl 4 rfl) ?_
  refine xr_i hw (xr_runV (As := [.int a2, .int a3, .int a4]) (rest := []) X hw 5 (xc_X1_ownerOn l D cy q σ a2 a3 a4 hB _) xm_X1_ownerOn xt_4_0 xt_3_224 xt_3_225 ⟨Nat.le_of_ble_eq_true rfl, Nat.le_of_ble_eq_true rfl⟩ xl_A_Facts_at rfl rfl rfl rfl hl.1 (Nat.le_of_ble_eq_true rfl) dX1_daysSinceOwned_5 ⟨Nat.zero_le _, Nat.zero_le _⟩) (fun r2 σ1 H locs hB hw => ?_)
  refine lv_iload_n hx hb dX1_daysSinceOwned_8 rfl (lv_at hl 1 rfl) ?_
  refine lv_icmp_ne (tgt := 14) hx hb dX1_daysSinceOwned_9 (by decide) (fun hc => ?_) (fun hc => ?_)
  · replace hB := hB.1 hc
    refine lv_iload_n hx hb dX1_daysSinceOwned_14 rfl (lv_at hl 3 rfl) ?_
    refine lv_iconst (v := (1 : Int32)) hx hb dX1_daysSinceOwned_15 (by decide) ?_
    refine lv_isub hx hb dX1_daysSinceOwned_16 ?_
    refine lv_istore (lv' := [(5, .int (a3 - (1 : Int32))), (0, .ref (q 5)), (1, .int a1), (2, .int a2), (3, .int a3), (4, .int a4)]) hx hb dX1_daysSinceOwned_17 hl (by decide) rfl (fun ls hl => ?_)
    refine lv_iconst (v := (0 : Int32)) hx hb dX1_daysSinceOwned_19 (by decide) ?_
    refine lv_istore (lv' := [(6, .int (0 : Int32)), (5, .int (a3 - (1 : Int32))), (0, .ref (q 5)), (1, .int a1), (2, .int a2), (3, .int a3), (4, .int a4)]) hx hb dX1_daysSinceOwned_20 hl (by decide) rfl (fun ls hl => ?_)
    exact hB _ _ _ hw (lv_sub hl [2, 3, 4, 5, 6, 1, 0] rfl)
  · replace hB := hB.2 hc
    refine lv_iconst (v := (-1 : Int32)) hx hb dX1_daysSinceOwned_12 (by decide) ?_
    exact xr_iret X hw hr hk hB dX1_daysSinceOwned_13
