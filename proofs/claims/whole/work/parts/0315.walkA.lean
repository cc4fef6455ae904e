theorem xf_X9_36 {p : Program} {s : State} {m : MethodId} {args : Array Value} {c : Code} {cc : ByteArray} {nL : Nat} {D : va_G} {cy : Nat → ClassId} {lay : List xw_E} {q : Nat → Nat} (X : xr_X p s m args c cc nL RX9 D cy lay q) : xr_F args s RX9 36 9 8 := ⟨RX9, TX9, 11, tyX9, rfl, by decide, fun w h => X.2.2.2.2.1 w (xt_inX9 w h), tyX9_ok, nmX9, Or.inl (X.2.2.2.2.1 _ xt_1_62)⟩
set_option maxRecDepth 100000 in
set_option maxHeartbeats 4000000 in
theorem xc_X9_valueOf (l : Launch) (D : va_G) (cy : Nat → ClassId) (q : Nat → Nat) (σ : xw_M) (o0 : Nat) (a1 : Int32) (a2 : Int32) (h0 : o0 < 2) {Z : Int32 → xw_M → Prop} (hU : xu_X9_valueOf σ o0 a1 a2 Z) : xr_CI l yX9_valueOf cX9_valueOf 10 .int { frames := 0, cells := 0, slots := 0, locals := 0 } D cy xl_A q σ [.ref (q (9 + o0)), .int a1, .int a2, .ref (q 44)] Z := by
  refine xr_CI.of RX9 rfl (by decide) (Nat.le_of_ble_eq_true rfl) (fun p e s m below meth c X hw hr hk ls hl => ?_)
  have hx := X.1
  have hb := X.2.1
  have hl : lv_has ls 10 [(0, .ref (q (9 + o0))), (1, .int a1), (2, .int a2), (3, .ref (q 44))] := hl
  have hB := hU (fun (σ : xw_M) (v4 : Int32) (v5 : Int32) => ∀ (H : Heap) (locs : List Loc) (ls : Array Slot), xr_H D cy xl_A q s σ H locs → lv_has ls 10 [(0, .ref (q (9 + o0))), (2, .int a2), (3, .ref (q 44)), (4, .int v4), (5, .int v5)] → W p l e ({ frames := 0, cells := 0, slots := 0, locals := 0 } : Room) s m ([.ref (q (9 + o0)), .int a1, .int a2, .ref (q 44)] : List Value).toArray below meth c H locs 0 0 (MQ below (va_Qi Z (xr_po D cy xl_A q) (xw_A xl_A q s.heap.size)) ([.ref (q (9 + o0)), .int a1, .int a2, .ref (q 44)] : List Value).toArray s 0 0 (xw_A xl_A q s.heap.size)) (F0 m 6 ls []))
    (fun (σ : xw_M) (v4 : Int32) (v5 : Int32) (v6 : Int32) => ∀ (H : Heap) (locs : List Loc) (ls : Array Slot), xr_H D cy xl_A q s σ H locs → lv_has ls 10 [(0, .ref (q (9 + o0))), (2, .int a2), (3, .ref (q 44)), (4, .int v4), (5, .int v5), (6, .int v6)] → W p l e ({ frames := 0, cells := 0, slots := 0, locals := 0 } : Room) s m ([.ref (q (9 + o0)), .int a1, .int a2, .ref (q 44)] : List Value).toArray below meth c H locs 0 0 (MQ below (va_Qi Z (xr_po D cy xl_A q) (xw_A xl_A q s.heap.size)) ([.ref (q (9 + o0)), .int a1, .int a2, .ref (q 44)] : List Value).toArray s 0 0 (xw_A xl_A q s.heap.size)) (F0 m 65 ls []))
    (fun (σ : xw_M) (v4 : Int32) (v5 : Int32) (v6 : Int32) => ∀ (H : Heap) (locs : List Loc) (ls : Array Slot), xr_H D cy xl_A q s σ H locs → lv_has ls 10 [(0, .ref (q (9 + o0))), (2, .int a2), (3, .ref (q 44)), (4, .int v4), (5, .int v5), (6, .int v6)] → W p l e ({ frames := 0, cells := 0, slots := 0, locals := 0 } : Room) s m ([.ref (q (9 + o0)), .int a1, .int a2, .ref (q 44)] : List Value).toArray below meth c H locs 0 0 (MQ below (va_Qi Z (xr_po D cy xl_A q) (xw_A xl_A q s.heap.size)) ([.ref (q (9 + o0)), .int a1, .int a2, .ref (q 44)] : List Value).toArray s 0 0 (xw_A xl_A q s.heap.size)) (F0 m 102 ls []))
    (fun (σ : xw_M) (s0 : Int32) (v4 : Int32) (v5 : Int32) => ∀ (H : Heap) (locs : List Loc) (ls : Array Slot), xr_H D cy xl_A q s σ H locs → lv_has ls 10 [(0, .ref (q (9 + o0))), (2, .int a2), (3, .ref (q 44)), (4, .int v4), (5, .int v5)] → W p l e ({ frames := 0, cells := 0, slots := 0, locals := 0 } : Room) s m ([.ref (q (9 + o0)), .int a1, .int a2, .ref (q 44)] : List Value).toArray below meth c H locs 0 0 (MQ below (va_Qi Z (xr_po D cy xl_A q) (xw_A xl_A q s.heap.size)) ([.ref (q (9 + o0)), .int a1, .int a2, .ref (q 44)] : List Value).toArray s 0 0 (xw_A xl_A q s.heap.size)) (F0 m 234 ls [.int s0]))
    (fun (σ : xw_M) (s0 : Int32) (v4 : Int32) (v5 : Int32) => ∀ (H : Heap) (locs : List Loc) (ls : Array Slot), xr_H D cy xl_A q s σ H locs → lv_has ls 10 [(0, .ref (q (9 + o0))), (2, .int a2), (3, .ref (q 44)), (4, .int v4), (5, .int v5)] → W p l e ({ frames := 0, cells := 0, slots := 0, locals := 0 } : Room) s m ([.ref (q (9 + o0)), .int a1, .int a2, .ref (q 44)] : List Value).toArray below meth c H locs 0 0 (MQ below (va_Qi Z (xr_po D cy xl_A q) (xw_A xl_A q s.heap.size)) ([.ref (q (9 + o0)), .int a1, .int a2, .ref (q 44)] : List Value).toArray s 0 0 (xw_A xl_A q s.heap.size)) (F0 m 251 ls [.int s0]))
    (fun (σ : xw_M) (s0 : Int32) (v4 : Int32) (v5 : Int32) => ∀ (H : Heap) (locs : List Loc) (ls : Array Slot), xr_H D cy xl_A q s σ H locs → lv_has ls 10 [(0, .ref (q (9 + o0))), (2, .int a2), (3, .ref (q 44)), (4, .int v4), (5, .int v5)] → W p l e ({ frames := 0, cells := 0, slots := 0, locals := 0 } : Room) s m ([.ref (q (9 + o0)), .int a1, .int a2, .ref (q 44)] : List Value).toArray below meth c H locs 0 0 (MQ below (va_Qi Z (xr_po D cy xl_A q) (xw_A xl_A q s.heap.size)) ([.ref (q (9 + o0)), .int a1, .int a2, .ref (q 44)] : List Value).toArray s 0 0 (xw_A xl_A q s.heap.size)) (F0 m 268 ls [.int s0]))
    (fun (σ : xw_M) (s0 : Int32) (v4 : Int32) (v5 : Int32) => ∀ (H : Heap) (locs : List Loc) (ls : Array Slot), xr_H D cy xl_A q s σ H locs → lv_has ls 10 [(0, .ref (q (9 + o0))), (2, .int a2), (3, .ref (q 44)), (4, .int v4), (5, .int v5)] → W p l e ({ frames := 0, cells := 0, slots := 0, locals := 0 } : Room) s m ([.ref (q (9 + o0)), .int a1, .int a2, .ref (q 44)] : List Value).toArray below meth c H locs 0 0 (MQ below (va_Qi Z (xr_po D cy xl_A q) (xw_A xl_A q s.heap.size)) ([.ref (q (9 + o0)), .int a1, .int a2, .ref (q 44)] : List Value).toArray s 0 0 (xw_A xl_A q s.heap.size)) (F0 m 285 ls [.int s0]))
    (by
    intro σ v4 v5 hB H locs ls hw hl
    unfold xb_X9_valueOf_6 at hB
    refine lv_iload hx hb dX9_valueOf_6 (lv_at hl 4 rfl) ?_
    refine lv_iload_n hx hb dX9_valueOf_8 rfl (lv_at hl 1 rfl) ?_
    refine lv_icmp_ge (tgt := 330) hx hb dX9_valueOf_9 (by decide) (fun hc => ?_) (fun hc => ?_)
    · replace hB := hB.1 hc
      refine lv_iload hx hb dX9_valueOf_330 (lv_at hl 3 rfl) ?_
      refine lv_if_le (tgt := 344) hx hb dX9_valueOf_332 (by decide) (fun hc => ?_) (fun hc => ?_)
      · replace hB := hB.1 hc
        refine lv_iconst (v := (0 : Int32)) hx hb dX9_valueOf_344 (by decide) ?_
        exact xr_iret X hw hr hk hB dX9_valueOf_345
      · replace hB := hB.2 hc
        refine lv_aload_n hx hb dX9_valueOf_335 rfl (lv_at hl 0 rfl) ?_
        refine xr_getr X hw (xf_X9_36 X) (9 + o0) (xl_A_Text_at (i := o0) h0) rfl dX9_valueOf_336 ?_
        refine lv_iconst (v := (0 : Int32)) hx hb dX9_valueOf_339 (by decide) ?_
        refine xr_iald X hw (64 + o0) (xl_A_Text_stack_at (i := o0) h0) hB.1 dX9_valueOf_340 ?_
        replace hB := hB.2
        refine lv_goto (tgt := 345) hx hb dX9_valueOf_341 (by decide) ?_
        exact xr_iret X hw hr hk hB dX9_valueOf_345
    · replace hB := hB.2 hc
      refine lv_iload hx hb dX9_valueOf_12 (lv_at hl 4 rfl) ?_
      refine lv_aload_n hx hb dX9_valueOf_14 rfl (lv_at hl 0 rfl) ?_
      refine xr_geti X hw (xf_X9_43 X) (9 + o0) (xl_A_Text_at (i := o0) h0) rfl dX9_valueOf_15 ?_
      refine lv_icmp_ge (tgt := 330) hx hb dX9_valueOf_18 (by decide) (fun hc => ?_) (fun hc => ?_)
      · replace hB := hB.1 hc
        refine lv_iload hx hb dX9_valueOf_330 (lv_at hl 3 rfl) ?_
        refine lv_if_le (tgt := 344) hx hb dX9_valueOf_332 (by decide) (fun hc => ?_) (fun hc => ?_)
        · replace hB := hB.1 hc
          refine lv_iconst (v := (0 : Int32)) hx hb dX9_valueOf_344 (by decide) ?_
          exact xr_iret X hw hr hk hB dX9_valueOf_345
        · replace hB := hB.2 hc
          refine lv_aload_n hx hb dX9_valueOf_335 rfl (lv_at hl 0 rfl) ?_
          refine xr_getr X hw (xf_X9_36 X) (9 + o0) (xl_A_Text_at (i := o0) h0) rfl dX9_valueOf_336 ?_
          refine lv_iconst (v := (0 : Int32)) hx hb dX9_valueOf_339 (by decide) ?_
          refine xr_iald X hw (64 + o0) (xl_A_Text_stack_at (i := o0) h0) hB.1 dX9_valueOf_340 ?_
          replace hB := hB.2
          refine lv_goto (tgt := 345) hx hb dX9_valueOf_341 (by decide) ?_
          exact xr_iret X hw hr hk hB dX9_valueOf_345
      · replace hB := hB.2 hc
        refine lv_aload_n hx hb dX9_valueOf_21 rfl (lv_at hl 0 rfl) ?_
        refine xr_getr X hw (xf_X9_30 X) (9 + o0) (xl_A_Text_at (i := o0) h0) rfl dX9_valueOf_22 ?_
        refine lv_iload hx hb dX9_valueOf_25 (lv_at hl 4 rfl) ?_
        refine xr_iald X hw (60 + o0) (xl_A_Text_steps_at (i := o0) h0) hB.1 dX9_valueOf_27 ?_
        replace hB := hB.2
        refine lv_istore (lv' := [(6, .int (σ.1 (60 + o0) (Int32.toNatClampNeg v5))), (0, .ref (q (9 + o0))), (2, .int a2), (3, .ref (q 44)), (4, .int v4), (5, .int v5)]) hx hb dX9_valueOf_28 hl (by decide) rfl (fun ls hl => ?_)
        refine lv_iload hx hb dX9_valueOf_30 (lv_at hl 0 rfl) ?_
        refine lv_bipush (v := (16 : Int32)) hx hb dX9_valueOf_32 (by decide) ?_
        refine lv_icmp_ne (tgt := 65) hx hb dX9_valueOf_34 (by decide) (fun hc => ?_) (fun hc => ?_)
        · replace hB := hB.1 hc
          exact hB _ _ _ hw (lv_sub hl [1, 2, 3, 4, 5, 0] rfl)
        · replace hB := hB.2 hc
          refine lv_iload hx hb dX9_valueOf_37 (lv_at hl 4 rfl) ?_
          refine lv_sipush (v := (400 : Int32)) hx hb dX9_valueOf_39 (by decide) ?_
          refine lv_icmp_ge (tgt := 65) hx hb dX9_valueOf_42 (by decide) (fun hc => ?_) (fun hc => ?_)
          · replace hB := hB.1 hc
            exact hB _ _ _ hw (lv_sub hl [1, 2, 3, 4, 5, 0] rfl)
          · replace hB := hB.2 hc
            refine lv_aload_n hx hb dX9_valueOf_45 rfl (lv_at hl 1 rfl) ?_
            refine xr_getr X hw (xf_X9_36 X) (9 + o0) (xl_A_Text_at (i := o0) h0) rfl dX9_valueOf_46 ?_
            refine lv_iload hx hb dX9_valueOf_49 (lv_at hl 4 rfl) ?_
            refine lv_aload_n hx hb dX9_valueOf_51 rfl (lv_at hl 1 rfl) ?_
            refine xr_getr X hw (xf_X9_33 X) (9 + o0) (xl_A_Text_at (i := o0) h0) rfl dX9_valueOf_52 ?_
            refine lv_iload hx hb dX9_valueOf_55 (lv_at hl 5 rfl) ?_
            refine xr_iald X hw (62 + o0) (xl_A_Text_numbers_at (i := o0) h0) hB.1 dX9_valueOf_57 ?_
            replace hB := hB.2
            refine xr_iast X hw (64 + o0) (xl_A_Text_stack_at (i := o0) h0) hB.1 dX9_valueOf_58 hB.2 (fun σ1 H locs hB hw => ?_)
            refine lv_iinc (v := (v4 + (1 : Int32))) (lv' := [(4, .int (v4 + (1 : Int32))), (6, .int (σ.1 (60 + o0) (Int32.toNatClampNeg v5))), (0, .ref (q (9 + o0))), (2, .int a2), (3, .ref (q 44)), (5, .int v5)]) hx hb dX9_valueOf_59 hl (k := 4) rfl rfl (by decide) rfl (fun ls hl => ?_)
            refine lv_goto (tgt := 324) hx hb dX9_valueOf_62 (by decide) ?_
            refine lv_iinc (v := (v5 + (1 : Int32))) (lv' := [(5, .int (v5 + (1 : Int32))), (4, .int (v4 + (1 : Int32))), (6, .int (σ.1 (60 + o0) (Int32.toNatClampNeg v5))), (0, .ref (q (9 + o0))), (2, .int a2), (3, .ref (q 44))]) hx hb dX9_valueOf_324 hl (k := 5) rfl rfl (by decide) rfl (fun ls hl => ?_)
            refine lv_goto (tgt := 6) hx hb dX9_valueOf_327 (by decide) ?_
            exact hB _ _ _ hw (lv_sub hl [3, 4, 5, 1, 0] rfl))
    (by
    intro σ v4 v5 v6 hB H locs ls hw hl
    unfold xb_X9_valueOf_65 at hB
    refine lv_iload hx hb dX9_valueOf_65 (lv_at hl 5 rfl) ?_
    refine lv_if_lt (tgt := 102) hx hb dX9_valueOf_67 (by decide) (fun hc => ?_) (fun hc => ?_)
    · replace hB := hB.1 hc
      exact hB _ _ _ hw (lv_sub hl [0, 1, 2, 3, 4, 5] rfl)
    · replace hB := hB.2 hc
      refine lv_iload hx hb dX9_valueOf_70 (lv_at hl 5 rfl) ?_
      refine lv_aload_n hx hb dX9_valueOf_72 rfl (lv_at hl 2 rfl) ?_
      refine xr_alen X hw 44 xl_A_Club_vars_at (v := 9) (by decide) dX9_valueOf_73 ?_
      refine lv_icmp_ge (tgt := 102) hx hb dX9_valueOf_74 (by decide) (fun hc => ?_) (fun hc => ?_)
      · replace hB := hB.1 hc
        exact hB _ _ _ hw (lv_sub hl [0, 1, 2, 3, 4, 5] rfl)
      · replace hB := hB.2 hc
        refine lv_iload hx hb dX9_valueOf_77 (lv_at hl 3 rfl) ?_
        refine lv_sipush (v := (400 : Int32)) hx hb dX9_valueOf_79 (by decide) ?_
        refine lv_icmp_ge (tgt := 102) hx hb dX9_valueOf_82 (by decide) (fun hc => ?_) (fun hc => ?_)
        · replace hB := hB.1 hc
          exact hB _ _ _ hw (lv_sub hl [0, 1, 2, 3, 4, 5] rfl)
        · replace hB := hB.2 hc
          refine lv_aload_n hx hb dX9_valueOf_85 rfl (lv_at hl 0 rfl) ?_
          refine xr_getr X hw (xf_X9_36 X) (9 + o0) (xl_A_Text_at (i := o0) h0) rfl dX9_valueOf_86 ?_
          refine lv_iload hx hb dX9_valueOf_89 (lv_at hl 3 rfl) ?_
          refine lv_aload_n hx hb dX9_valueOf_91 rfl (lv_at hl 2 rfl) ?_
          refine lv_iload hx hb dX9_valueOf_92 (lv_at hl 5 rfl) ?_
          refine xr_iald X hw 44 xl_A_Club_vars_at hB.1 dX9_valueOf_94 ?_
          replace hB := hB.2
          refine xr_iast X hw (64 + o0) (xl_A_Text_stack_at (i := o0) h0) hB.1 dX9_valueOf_95 hB.2 (fun σ2 H locs hB hw => ?_)
          refine lv_iinc (v := (v4 + (1 : Int32))) (lv' := [(4, .int (v4 + (1 : Int32))), (0, .ref (q (9 + o0))), (2, .int a2), (3, .ref (q 44)), (5, .int v5), (6, .int v6)]) hx hb dX9_valueOf_96 hl (k := 3) rfl rfl (by decide) rfl (fun ls hl => ?_)
          refine lv_goto (tgt := 324) hx hb dX9_valueOf_99 (by decide) ?_
          refine lv_iinc (v := (v5 + (1 : Int32))) (lv' := [(5, .int (v5 + (1 : Int32))), (4, .int (v4 + (1 : Int32))), (0, .ref (q (9 + o0))), (2, .int a2), (3, .ref (q 44)), (6, .int v6)]) hx hb dX9_valueOf_324 hl (k := 4) rfl rfl (by decide) rfl (fun ls hl => ?_)
          refine lv_goto (tgt := 6) hx hb dX9_valueOf_327 (by decide) ?_
          exact hB _ _ _ hw (lv_sub hl [2, 3, 4, 1, 0] rfl))
    (by
    intro σ v4 v5 v6 hB H locs ls hw hl
    unfold xb_X9_valueOf_102 at hB
    refine lv_iload hx hb dX9_valueOf_102 (lv_at hl 3 rfl) ?_
    refine lv_iconst (v := (2 : Int32)) hx hb dX9_valueOf_104 (by decide) ?_
    refine lv_icmp_lt (tgt := 324) hx hb dX9_valueOf_105 (by decide) (fun hc => ?_) (fun hc => ?_)
    · replace hB := hB.1 hc
      refine lv_iinc (v := (v5 + (1 : Int32))) (lv' := [(5, .int (v5 + (1 : Int32))), (0, .ref (q (9 + o0))), (2, .int a2), (3, .ref (q 44)), (4, .int v4), (6, .int v6)]) hx hb dX9_valueOf_324 hl (k := 4) rfl rfl (by decide) rfl (fun ls hl => ?_)
      refine lv_goto (tgt := 6) hx hb dX9_valueOf_327 (by decide) ?_
      exact hB _ _ _ hw (lv_sub hl [1, 2, 3, 4, 0] rfl)
    · replace hB := hB.2 hc
      refine lv_aload_n hx hb dX9_valueOf_108 rfl (lv_at hl 0 rfl) ?_
      refine xr_getr X hw (xf_X9_36 X) (9 + o0) (xl_A_Text_at (i := o0) h0) rfl dX9_valueOf_109 ?_
      refine lv_iload hx hb dX9_valueOf_112 (lv_at hl 3 rfl) ?_
      refine lv_iconst (v := (2 : Int32)) hx hb dX9_valueOf_114 (by decide) ?_
      refine lv_isub hx hb dX9_valueOf_115 ?_
      refine xr_iald X hw (64 + o0) (xl_A_Text_stack_at (i := o0) h0) hB.1 dX9_valueOf_116 ?_
      replace hB := hB.2
      refine lv_topi (fun x3 hx3 => ?_)
      replace hB := hB _ hx3
      refine lv_istore (lv' := [(7, .int x3), (0, .ref (q (9 + o0))), (2, .int a2), (3, .ref (q 44)), (4, .int v4), (5, .int v5), (6, .int v6)]) hx hb dX9_valueOf_117 hl (by decide) rfl (fun ls hl => ?_)
      refine lv_aload_n hx hb dX9_valueOf_119 rfl (lv_at hl 1 rfl) ?_
      refine xr_getr X hw (xf_X9_36 X) (9 + o0) (xl_A_Text_at (i := o0) h0) rfl dX9_valueOf_120 ?_
      refine lv_iload hx hb dX9_valueOf_123 (lv_at hl 4 rfl) ?_
      refine lv_iconst (v := (1 : Int32)) hx hb dX9_valueOf_125 (by decide) ?_
      refine lv_isub hx hb dX9_valueOf_126 ?_
      refine xr_iald X hw (64 + o0) (xl_A_Text_stack_at (i := o0) h0) hB.1 dX9_valueOf_127 ?_
      replace hB := hB.2
      refine lv_topi (fun x4 hx4 => ?_)
      replace hB := hB _ hx4
      refine lv_istore (lv' := [(8, .int x4), (7, .int x3), (0, .ref (q (9 + o0))), (2, .int a2), (3, .ref (q 44)), (4, .int v4), (5, .int v5), (6, .int v6)]) hx hb dX9_valueOf_128 hl (by decide) rfl (fun ls hl => ?_)
      refine lv_iconst (v := (0 : Int32)) hx hb dX9_valueOf_130 (by decide) ?_
      refine lv_istore (lv' := [(9, .int (0 : Int32)), (8, .int x4), (7, .int x3), (0, .ref (q (9 + o0))), (2, .int a2), (3, .ref (q 44)), (4, .int v4), (5, .int v5), (6, .int v6)]) hx hb dX9_valueOf_131 hl (by decide) rfl (fun ls hl => ?_)
      refine lv_iload hx hb dX9_valueOf_133 (lv_at hl 8 rfl) ?_
      by_cases hc14 : v6 = (14 : Int32)
      · replace hB := hB.1 hc14
        refine lv_tableIn (tgt := 300) hx hb dX9_valueOf_135 (by rw [hc14]; decide) (by rw [hc14]; decide) (by rw [hc14]; rfl) (by decide) ?_
        refine lv_iload hx hb dX9_valueOf_300 (lv_at hl 2 rfl) ?_
        refine lv_iload hx hb dX9_valueOf_302 (lv_at hl 1 rfl) ?_
        refine lv_ior hx hb dX9_valueOf_304 ?_
        refine lv_istore (lv' := [(9, .int (x3 ||| x4)), (8, .int x4), (7, .int x3), (0, .ref (q (9 + o0))), (2, .int a2), (3, .ref (q 44)), (4, .int v4), (5, .int v5), (6, .int v6)]) hx hb dX9_valueOf_305 hl (by decide) rfl (fun ls hl => ?_)
        refine lv_goto (tgt := 310) hx hb dX9_valueOf_307 (by decide) ?_
        refine lv_aload_n hx hb dX9_valueOf_310 rfl (lv_at hl 3 rfl) ?_
        refine xr_getr X hw (xf_X9_36 X) (9 + o0) (xl_A_Text_at (i := o0) h0) rfl dX9_valueOf_311 ?_
        refine lv_iload hx hb dX9_valueOf_314 (lv_at hl 6 rfl) ?_
        refine lv_iconst (v := (2 : Int32)) hx hb dX9_valueOf_316 (by decide) ?_
        refine lv_isub hx hb dX9_valueOf_317 ?_
        refine lv_iload hx hb dX9_valueOf_318 (lv_at hl 0 rfl) ?_
        refine xr_iast X hw (64 + o0) (xl_A_Text_stack_at (i := o0) h0) hB.1 dX9_valueOf_320 hB.2 (fun σ5 H locs hB hw => ?_)
        refine lv_iinc (v := (v4 + (-1 : Int32))) (lv' := [(4, .int (v4 + (-1 : Int32))), (9, .int (x3 ||| x4)), (8, .int x4), (7, .int x3), (0, .ref (q (9 + o0))), (2, .int a2), (3, .ref (q 44)), (5, .int v5), (6, .int v6)]) hx hb dX9_valueOf_321 hl (k := 6) rfl rfl (by decide) rfl (fun ls hl => ?_)
        refine lv_iinc (v := (v5 + (1 : Int32))) (lv' := [(5, .int (v5 + (1 : Int32))), (4, .int (v4 + (-1 : Int32))), (9, .int (x3 ||| x4)), (8, .int x4), (7, .int x3), (0, .ref (q (9 + o0))), (2, .int a2), (3, .ref (q 44)), (6, .int v6)]) hx hb dX9_valueOf_324 hl (k := 7) rfl rfl (by decide) rfl (fun ls hl => ?_)
        refine lv_goto (tgt := 6) hx hb dX9_valueOf_327 (by decide) ?_
        exact hB _ _ _ hw (lv_sub hl [5, 6, 7, 1, 0] rfl)
      replace hB := hB.2 hc14
      by_cases hc15 : v6 = (15 : Int32)
      · replace hB := hB.1 hc15
        refine lv_tableIn (tgt := 290) hx hb dX9_valueOf_135 (by rw [hc15]; decide) (by rw [hc15]; decide) (by rw [hc15]; rfl) (by decide) ?_
        refine lv_iload hx hb dX9_valueOf_290 (lv_at hl 2 rfl) ?_
        refine lv_iload hx hb dX9_valueOf_292 (lv_at hl 1 rfl) ?_
        refine lv_iand hx hb dX9_valueOf_294 ?_
        refine lv_istore (lv' := [(9, .int (x3 &&& x4)), (8, .int x4), (7, .int x3), (0, .ref (q (9 + o0))), (2, .int a2), (3, .ref (q 44)), (4, .int v4), (5, .int v5), (6, .int v6)]) hx hb dX9_valueOf_295 hl (by decide) rfl (fun ls hl => ?_)
        refine lv_goto (tgt := 310) hx hb dX9_valueOf_297 (by decide) ?_
        refine lv_aload_n hx hb dX9_valueOf_310 rfl (lv_at hl 3 rfl) ?_
        refine xr_getr X hw (xf_X9_36 X) (9 + o0) (xl_A_Text_at (i := o0) h0) rfl dX9_valueOf_311 ?_
        refine lv_iload hx hb dX9_valueOf_314 (lv_at hl 6 rfl) ?_
        refine lv_iconst (v := (2 : Int32)) hx hb dX9_valueOf_316 (by decide) ?_
        refine lv_isub hx hb dX9_valueOf_317 ?_
        refine lv_iload hx hb dX9_valueOf_318 (lv_at hl 0 rfl) ?_
        refine xr_iast X hw (64 + o0) (xl_A_Text_stack_at (i := o0) h0) hB.1 dX9_valueOf_320 hB.2 (fun σ6 H locs hB hw => ?_)
        refine lv_iinc (v := (v4 + (-1 : Int32))) (lv' := [(4, .int (v4 + (-1 : Int32))), (9, .int (x3 &&& x4)), (8, .int x4), (7, .int x3), (0, .ref (q (9 + o0))), (2, .int a2), (3, .ref (q 44)), (5, .int v5), (6, .int v6)]) hx hb dX9_valueOf_321 hl (k := 6) rfl rfl (by decide) rfl (fun ls hl => ?_)
        refine lv_iinc (v := (v5 + (1 : Int32))) (lv' := [(5, .int (v5 + (1 : Int32))), (4, .int (v4 + (-1 : Int32))), (9, .int (x3 &&& x4)), (8, .int x4), (7, .int x3), (0, .ref (q (9 + o0))), (2, .int a2), (3, .ref (q 44)), (6, .int v6)]) hx hb dX9_valueOf_324 hl (k := 7) rfl rfl (by decide) rfl (fun ls hl => ?_)
        refine lv_goto (tgt := 6) hx hb dX9_valueOf_327 (by decide) ?_
        exact hB _ _ _ hw (lv_sub hl [5, 6, 7, 1, 0] rfl)
      replace hB := hB.2 hc15
      by_cases hc18 : v6 = (18 : Int32)
      · replace hB := hB.1 hc18
        refine lv_tableIn (tgt := 192) hx hb dX9_valueOf_135 (by rw [hc18]; decide) (by rw [hc18]; decide) (by rw [hc18]; rfl) (by decide) ?_
        refine lv_iload hx hb dX9_valueOf_192 (lv_at hl 2 rfl) ?_
        refine lv_iload hx hb dX9_valueOf_194 (lv_at hl 1 rfl) ?_
        refine lv_iadd hx hb dX9_valueOf_196 ?_
        refine lv_istore (lv' := [(9, .int (x3 + x4)), (8, .int x4), (7, .int x3), (0, .ref (q (9 + o0))), (2, .int a2), (3, .ref (q 44)), (4, .int v4), (5, .int v5), (6, .int v6)]) hx hb dX9_valueOf_197 hl (by decide) rfl (fun ls hl => ?_)
        refine lv_goto (tgt := 310) hx hb dX9_valueOf_199 (by decide) ?_
        refine lv_aload_n hx hb dX9_valueOf_310 rfl (lv_at hl 3 rfl) ?_
        refine xr_getr X hw (xf_X9_36 X) (9 + o0) (xl_A_Text_at (i := o0) h0) rfl dX9_valueOf_311 ?_
        refine lv_iload hx hb dX9_valueOf_314 (lv_at hl 6 rfl) ?_
        refine lv_iconst (v := (2 : Int32)) hx hb dX9_valueOf_316 (by decide) ?_
        refine lv_isub hx hb dX9_valueOf_317 ?_
        refine lv_iload hx hb dX9_valueOf_318 (lv_at hl 0 rfl) ?_
        refine xr_iast X hw (64 + o0) (xl_A_Text_stack_at (i := o0) h0) hB.1 dX9_valueOf_320 hB.2 (fun σ7 H locs hB hw => ?_)
        refine lv_iinc (v := (v4 + (-1 : Int32))) (lv' := [(4, .int (v4 + (-1 : Int32))), (9, .int (x3 + x4)), (8, .int x4), (7, .int x3), (0, .ref (q (9 + o0))), (2, .int a2), (3, .ref (q 44)), (5, .int v5), (6, .int v6)]) hx hb dX9_valueOf_321 hl (k := 6) rfl rfl (by decide) rfl (fun ls hl => ?_)
        refine lv_iinc (v := (v5 + (1 : Int32))) (lv' := [(5, .int (v5 + (1 : Int32))), (4, .int (v4 + (-1 : Int32))), (9, .int (x3 + x4)), (8, .int x4), (7, .int x3), (0, .ref (q (9 + o0))), (2, .int a2), (3, .ref (q 44)), (6, .int v6)]) hx hb dX9_valueOf_324 hl (k := 7) rfl rfl (by decide) rfl (fun ls hl => ?_)
        refine lv_goto (tgt := 6) hx hb dX9_valueOf_327 (by decide) ?_
        exact hB _ _ _ hw (lv_sub hl [5, 6, 7, 1, 0] rfl)
      replace hB := hB.2 hc18
      by_cases hc19 : v6 = (19 : Int32)
      · replace hB := hB.1 hc19
        refine lv_tableIn (tgt := 202) hx hb dX9_valueOf_135 (by rw [hc19]; decide) (by rw [hc19]; decide) (by rw [hc19]; rfl) (by decide) ?_
        refine lv_iload hx hb dX9_valueOf_202 (lv_at hl 2 rfl) ?_
        refine lv_iload hx hb dX9_valueOf_204 (lv_at hl 1 rfl) ?_
        refine lv_isub hx hb dX9_valueOf_206 ?_
        refine lv_istore (lv' := [(9, .int (x3 - x4)), (8, .int x4), (7, .int x3), (0, .ref (q (9 + o0))), (2, .int a2), (3, .ref (q 44)), (4, .int v4), (5, .int v5), (6, .int v6)]) hx hb dX9_valueOf_207 hl (by decide) rfl (fun ls hl => ?_)
        refine lv_goto (tgt := 310) hx hb dX9_valueOf_209 (by decide) ?_
        refine lv_aload_n hx hb dX9_valueOf_310 rfl (lv_at hl 3 rfl) ?_
        refine xr_getr X hw (xf_X9_36 X) (9 + o0) (xl_A_Text_at (i := o0) h0) rfl dX9_valueOf_311 ?_
        refine lv_iload hx hb dX9_valueOf_314 (lv_at hl 6 rfl) ?_
        refine lv_iconst (v := (2 : Int32)) hx hb dX9_valueOf_316 (by decide) ?_
        refine lv_isub hx hb dX9_valueOf_317 ?_
        refine lv_iload hx hb dX9_valueOf_318 (lv_at hl 0 rfl) ?_
        refine xr_iast X hw (64 + o0) (xl_A_Text_stack_at (i := o0) h0) hB.1 dX9_valueOf_320 hB.2 (fun σ8 H locs hB hw => ?_)
        refine lv_iinc (v := (v4 + (-1 : Int32))) (lv' := [(4, .int (v4 + (-1 : Int32))), (9, .int (x3 - x4)), (8, .int x4), (7, .int x3), (0, .ref (q (9 + o0))), (2, .int a2), (3, .ref (q 44)), (5, .int v5), (6, .int v6)]) hx hb dX9_valueOf_321 hl (k := 6) rfl rfl (by decide) rfl (fun ls hl => ?_)
        refine lv_iinc (v := (v5 + (1 : Int32))) (lv' := [(5, .int (v5 + (1 : Int32))), (4, .int (v4 + (-1 : Int32))), (9, .int (x3 - x4)), (8, .int x4), (7, .int x3), (0, .ref (q (9 + o0))), (2, .int a2), (3, .ref (q 44)), (6, .int v6)]) hx hb dX9_valueOf_324 hl (k := 7) rfl rfl (by decide) rfl (fun ls hl => ?_)
        refine lv_goto (tgt := 6) hx hb dX9_valueOf_327 (by decide) ?_
        exact hB _ _ _ hw (lv_sub hl [5, 6, 7, 1, 0] rfl)
      replace hB := hB.2 hc19
      by_cases hc20 : v6 = (20 : Int32)
      · replace hB := hB.1 hc20
        refine lv_tableIn (tgt := 212) hx hb dX9_valueOf_135 (by rw [hc20]; decide) (by rw [hc20]; decide) (by rw [hc20]; rfl) (by decide) ?_
        refine lv_iload hx hb dX9_valueOf_212 (lv_at hl 2 rfl) ?_
        refine lv_iload hx hb dX9_valueOf_214 (lv_at hl 1 rfl) ?_
        refine lv_imul hx hb dX9_valueOf_216 ?_
        refine lv_istore (lv' := [(9, .int (x3 * x4)), (8, .int x4), (7, .int x3), (0, .ref (q (9 + o0))), (2, .int a2), (3, .ref (q 44)), (4, .int v4), (5, .int v5), (6, .int v6)]) hx hb dX9_valueOf_217 hl (by decide) rfl (fun ls hl => ?_)
        refine lv_goto (tgt := 310) hx hb dX9_valueOf_219 (by decide) ?_
        refine lv_aload_n hx hb dX9_valueOf_310 rfl (lv_at hl 3 rfl) ?_
        refine xr_getr X hw (xf_X9_36 X) (9 + o0) (xl_A_Text_at (i := o0) h0) rfl dX9_valueOf_311 ?_
        refine lv_iload hx hb dX9_valueOf_314 (lv_at hl 6 rfl) ?_
        refine lv_iconst (v := (2 : Int32)) hx hb dX9_valueOf_316 (by decide) ?_
        refine lv_isub hx hb dX9_valueOf_317 ?_
        refine lv_iload hx hb dX9_valueOf_318 (lv_at hl 0 rfl) ?_
        refine xr_iast X hw (64 + o0) (xl_A_Text_stack_at (i := o0) h0) hB.1 dX9_valueOf_320 hB.2 (fun σ9 H locs hB hw => ?_)
        refine lv_iinc (v := (v4 + (-1 : Int32))) (lv' := [(4, .int (v4 + (-1 : Int32))), (9, .int (x3 * x4)), (8, .int x4), (7, .int x3), (0, .ref (q (9 + o0))), (2, .int a2), (3, .ref (q 44)), (5, .int v5), (6, .int v6)]) hx hb dX9_valueOf_321 hl (k := 6) rfl rfl (by decide) rfl (fun ls hl => ?_)
        refine lv_iinc (v := (v5 + (1 : Int32))) (lv' := [(5, .int (v5 + (1 : Int32))), (4, .int (v4 + (-1 : Int32))), (9, .int (x3 * x4)), (8, .int x4), (7, .int x3), (0, .ref (q (9 + o0))), (2, .int a2), (3, .ref (q 44)), (6, .int v6)]) hx hb dX9_valueOf_324 hl (k := 7) rfl rfl (by decide) rfl (fun ls hl => ?_)
        refine lv_goto (tgt := 6) hx hb dX9_valueOf_327 (by decide) ?_
        exact hB _ _ _ hw (lv_sub hl [5, 6, 7, 1, 0] rfl)
      replace hB := hB.2 hc20
      by_cases hc21 : v6 = (21 : Int32)
      · replace hB := hB.1 hc21
        refine lv_tableIn (tgt := 222) hx hb dX9_valueOf_135 (by rw [hc21]; decide) (by rw [hc21]; decide) (by rw [hc21]; rfl) (by decide) ?_
        refine lv_iload hx hb dX9_valueOf_222 (lv_at hl 2 rfl) ?_
        refine lv_iload hx hb dX9_valueOf_224 (lv_at hl 1 rfl) ?_
        refine lv_icmp_ne (tgt := 233) hx hb dX9_valueOf_226 (by decide) (fun hc => ?_) (fun hc => ?_)
        · replace hB := hB.1 hc
          refine lv_iconst (v := (0 : Int32)) hx hb dX9_valueOf_233 (by decide) ?_
          exact hB _ _ _ hw (lv_sub hl [3, 4, 5, 6, 7] rfl)
        · replace hB := hB.2 hc
          refine lv_iconst (v := (1 : Int32)) hx hb dX9_valueOf_229 (by decide) ?_
          refine lv_goto (tgt := 234) hx hb dX9_valueOf_230 (by decide) ?_
          exact hB _ _ _ hw (lv_sub hl [3, 4, 5, 6, 7] rfl)
      replace hB := hB.2 hc21
      by_cases hc22 : v6 = (22 : Int32)
      · replace hB := hB.1 hc22
        refine lv_tableIn (tgt := 239) hx hb dX9_valueOf_135 (by rw [hc22]; decide) (by rw [hc22]; decide) (by rw [hc22]; rfl) (by decide) ?_
        refine lv_iload hx hb dX9_valueOf_239 (lv_at hl 2 rfl) ?_
        refine lv_iload hx hb dX9_valueOf_241 (lv_at hl 1 rfl) ?_
        refine lv_icmp_eq (tgt := 250) hx hb dX9_valueOf_243 (by decide) (fun hc => ?_) (fun hc => ?_)
        · replace hB := hB.1 hc
          refine lv_iconst (v := (0 : Int32)) hx hb dX9_valueOf_250 (by decide) ?_
          exact hB _ _ _ hw (lv_sub hl [3, 4, 5, 6, 7] rfl)
        · replace hB := hB.2 hc
          refine lv_iconst (v := (1 : Int32)) hx hb dX9_valueOf_246 (by decide) ?_
          refine lv_goto (tgt := 251) hx hb dX9_valueOf_247 (by decide) ?_
          exact hB _ _ _ hw (lv_sub hl [3, 4, 5, 6, 7] rfl)
      replace hB := hB.2 hc22
      by_cases hc23 : v6 = (23 : Int32)
      · replace hB := hB.1 hc23
        refine lv_tableIn (tgt := 256) hx hb dX9_valueOf_135 (by rw [hc23]; decide) (by rw [hc23]; decide) (by rw [hc23]; rfl) (by decide) ?_
        refine lv_iload hx hb dX9_valueOf_256 (lv_at hl 2 rfl) ?_
        refine lv_iload hx hb dX9_valueOf_258 (lv_at hl 1 rfl) ?_
        refine lv_icmp_ge (tgt := 267) hx hb dX9_valueOf_260 (by decide) (fun hc => ?_) (fun hc => ?_)
        · replace hB := hB.1 hc
          refine lv_iconst (v := (0 : Int32)) hx hb dX9_valueOf_267 (by decide) ?_
          exact hB _ _ _ hw (lv_sub hl [3, 4, 5, 6, 7] rfl)
        · replace hB := hB.2 hc
          refine lv_iconst (v := (1 : Int32)) hx hb dX9_valueOf_263 (by decide) ?_
          refine lv_goto (tgt := 268) hx hb dX9_valueOf_264 (by decide) ?_
          exact hB _ _ _ hw (lv_sub hl [3, 4, 5, 6, 7] rfl)
      replace hB := hB.2 hc23
      by_cases hc24 : v6 = (24 : Int32)
      · replace hB := hB.1 hc24
        refine lv_tableIn (tgt := 273) hx hb dX9_valueOf_135 (by rw [hc24]; decide) (by rw [hc24]; decide) (by rw [hc24]; rfl) (by decide) ?_
        refine lv_iload hx hb dX9_valueOf_273 (lv_at hl 2 rfl) ?_
        refine lv_iload hx hb dX9_valueOf_275 (lv_at hl 1 rfl) ?_
        refine lv_icmp_gt (tgt := 284) hx hb dX9_valueOf_277 (by decide) (fun hc => ?_) (fun hc => ?_)
        · replace hB := hB.1 hc
          refine lv_iconst (v := (0 : Int32)) hx hb dX9_valueOf_284 (by decide) ?_
          exact hB _ _ _ hw (lv_sub hl [3, 4, 5, 6, 7] rfl)
        · replace hB := hB.2 hc
          refine lv_iconst (v := (1 : Int32)) hx hb dX9_valueOf_280 (by decide) ?_
          refine lv_goto (tgt := 285) hx hb dX9_valueOf_281 (by decide) ?_
          exact hB _ _ _ hw (lv_sub hl [3, 4, 5, 6, 7] rfl)
      replace hB := hB.2 hc24
      refine xr_tdef hx hb (tgt := 310) dX9_valueOf_135 (by decide) (by decide) (by decide) ?_ ?_
      · intro j hj hx2
        match j, hj, hx2 with
        | 0, _, hx2 => exact absurd hx2 hc14
        | 1, _, hx2 => exact absurd hx2 hc15
        | 2, _, hx2 => exact rfl
        | 3, _, hx2 => exact rfl
        | 4, _, hx2 => exact absurd hx2 hc18
        | 5, _, hx2 => exact absurd hx2 hc19
        | 6, _, hx2 => exact absurd hx2 hc20
        | 7, _, hx2 => exact absurd hx2 hc21
        | 8, _, hx2 => exact absurd hx2 hc22
        | 9, _, hx2 => exact absurd hx2 hc23
        | 10, _, hx2 => exact absurd hx2 hc24
        | j + 11, hj, _ => exact absurd hj (by simp)
      refine lv_aload_n hx hb dX9_valueOf_310 rfl (lv_at hl 3 rfl) ?_
      refine xr_getr X hw (xf_X9_36 X) (9 + o0) (xl_A_Text_at (i := o0) h0) rfl dX9_valueOf_311 ?_
      refine lv_iload hx hb dX9_valueOf_314 (lv_at hl 6 rfl) ?_
      refine lv_iconst (v := (2 : Int32)) hx hb dX9_valueOf_316 (by decide) ?_
      refine lv_isub hx hb dX9_valueOf_317 ?_
      refine lv_iload hx hb dX9_valueOf_318 (lv_at hl 0 rfl) ?_
      refine xr_iast X hw (64 + o0) (xl_A_Text_stack_at (i := o0) h0) hB.1 dX9_valueOf_320 hB.2 (fun σ10 H locs hB hw => ?_)
      refine lv_iinc (v := (v4 + (-1 : Int32))) (lv' := [(4, .int (v4 + (-1 : Int32))), (9, .int (0 : Int32)), (8, .int x4), (7, .int x3), (0, .ref (q (9 + o0))), (2, .int a2), (3, .ref (q 44)), (5, .int v5), (6, .int v6)]) hx hb dX9_valueOf_321 hl (k := 6) rfl rfl (by decide) rfl (fun ls hl => ?_)
      refine lv_iinc (v := (v5 + (1 : Int32))) (lv' := [(5, .int (v5 + (1 : Int32))), (4, .int (v4 + (-1 : Int32))), (9, .int (0 : Int32)), (8, .int x4), (7, .int x3), (0, .ref (q (9 + o0))), (2, .int a2), (3, .ref (q 44)), (6, .int v6)]) hx hb dX9_valueOf_324 hl (k := 7) rfl rfl (by decide) rfl (fun ls hl => ?_)
      refine lv_goto (tgt := 6) hx hb dX9_valueOf_327 (by decide) ?_
      exact hB _ _ _ hw (lv_sub hl [5, 6, 7, 1, 0] rfl))
    (by
    intro σ s0 v4 v5 hB H locs ls hw hl
    unfold xb_X9_valueOf_234 at hB
    refine lv_istore (lv' := [(9, .int s0), (0, .ref (q (9 + o0))), (2, .int a2), (3, .ref (q 44)), (4, .int v4), (5, .int v5)]) hx hb dX9_valueOf_234 hl (by decide) rfl (fun ls hl => ?_)
    refine lv_goto (tgt := 310) hx hb dX9_valueOf_236 (by decide) ?_
    refine lv_aload_n hx hb dX9_valueOf_310 rfl (lv_at hl 1 rfl) ?_
    refine xr_getr X hw (xf_X9_36 X) (9 + o0) (xl_A_Text_at (i := o0) h0) rfl dX9_valueOf_311 ?_
    refine lv_iload hx hb dX9_valueOf_314 (lv_at hl 4 rfl) ?_
    refine lv_iconst (v := (2 : Int32)) hx hb dX9_valueOf_316 (by decide) ?_
    refine lv_isub hx hb dX9_valueOf_317 ?_
    refine lv_iload hx hb dX9_valueOf_318 (lv_at hl 0 rfl) ?_
    refine xr_iast X hw (64 + o0) (xl_A_Text_stack_at (i := o0) h0) hB.1 dX9_valueOf_320 hB.2 (fun σ11 H locs hB hw => ?_)
    refine lv_iinc (v := (v4 + (-1 : Int32))) (lv' := [(4, .int (v4 + (-1 : Int32))), (9, .int s0), (0, .ref (q (9 + o0))), (2, .int a2), (3, .ref (q 44)), (5, .int v5)]) hx hb dX9_valueOf_321 hl (k := 4) rfl rfl (by decide) rfl (fun ls hl => ?_)
    refine lv_iinc (v := (v5 + (1 : Int32))) (lv' := [(5, .int (v5 + (1 : Int32))), (4, .int (v4 + (-1 : Int32))), (9, .int s0), (0, .ref (q (9 + o0))), (2, .int a2), (3, .ref (q 44))]) hx hb dX9_valueOf_324 hl (k := 5) rfl rfl (by decide) rfl (fun ls hl => ?_)
    refine lv_goto (tgt := 6) hx hb dX9_valueOf_327 (by decide) ?_
    exact hB _ _ _ hw (lv_sub hl [3, 4, 5, 1, 0] rfl))
    (by
    intro σ s0 v4 v5 hB H locs ls hw hl
    unfold xb_X9_valueOf_251 at hB
    refine lv_istore (lv' := [(9, .int s0), (0, .ref (q (9 + o0))), (2, .int a2), (3, .ref (q 44)), (4, .int v4), (5, .int v5)]) hx hb dX9_valueOf_251 hl (by decide) rfl (fun ls hl => ?_)
    refine lv_goto (tgt := 310) hx hb dX9_valueOf_253 (by decide) ?_
    refine lv_aload_n hx hb dX9_valueOf_310 rfl (lv_at hl 1 rfl) ?_
    refine xr_getr X hw (xf_X9_36 X) (9 + o0) (xl_A_Text_at (i := o0) h0) rfl dX9_valueOf_311 ?_
    refine lv_iload hx hb dX9_valueOf_314 (lv_at hl 4 rfl) ?_
    refine lv_iconst (v := (2 : Int32)) hx hb dX9_valueOf_316 (by decide) ?_
    refine lv_isub hx hb dX9_valueOf_317 ?_
    refine lv_iload hx hb dX9_valueOf_318 (lv_at hl 0 rfl) ?_
    refine xr_iast X hw (64 + o0) (xl_A_Text_stack_at (i := o0) h0) hB.1 dX9_valueOf_320 hB.2 (fun σ12 H locs hB hw => ?_)
    refine lv_iinc (v := (v4 + (-1 : Int32))) (lv' := [(4, .int (v4 + (-1 : Int32))), (9, .int s0), (0, .ref (q (9 + o0))), (2, .int a2), (3, .ref (q 44)), (5, .int v5)]) hx hb dX9_valueOf_321 hl (k := 4) rfl rfl (by decide) rfl (fun ls hl => ?_)
    refine lv_iinc (v := (v5 + (1 : Int32))) (lv' := [(5, .int (v5 + (1 : Int32))), (4, .int (v4 + (-1 : Int32))), (9, .int s0), (0, .ref (q (9 + o0))), (2, .int a2), (3, .ref (q 44))]) hx hb dX9_valueOf_324 hl (k := 5) rfl rfl (by decide) rfl (fun ls hl => ?_)
    refine lv_goto (tgt := 6) hx hb dX9_valueOf_327 (by decide) ?_
    exact hB _ _ _ hw (lv_sub hl [3, 4, 5, 1, 0] rfl))
    (by
    intro σ s0 v4 v5 hB H locs ls hw hl
    unfold xb_X9_valueOf_268 at hB
    refine lv_istore (lv' := [(9, .int s0), (0, .ref (q (9 + o0))), (2, .int a2), (3, .ref (q 44)), (4, .int v4), (5, .int v5)]) hx hb dX9_valueOf_268 hl (by decide) rfl (fun ls hl => ?_)
    refine lv_goto (tgt := 310) hx hb dX9_valueOf_270 (by decide) ?_
    refine lv_aload_n hx hb dX9_valueOf_310 rfl (lv_at hl 1 rfl) ?_
    refine xr_getr X hw (xf_X9_36 X) (9 + o0) (xl_A_Text_at (i := o0) h0) rfl dX9_valueOf_311 ?_
    refine lv_iload hx hb dX9_valueOf_314 (lv_at hl 4 rfl) ?_
    refine lv_iconst (v := (2 : Int32)) hx hb dX9_valueOf_316 (by decide) ?_
    refine lv_isub hx hb dX9_valueOf_317 ?_
    refine lv_iload hx hb dX9_valueOf_318 (lv_at hl 0 rfl) ?_
    refine xr_iast X hw (64 + o0) (xl_A_Text_stack_at (i := o0) h0) hB.1 dX9_valueOf_320 hB.2 (fun σ13 H locs hB hw => ?_)
    refine lv_iinc (v := (v4 + (-1 : Int32))) (lv' := [(4, .int (v4 + (-1 : Int32))), (9, .int s0), (0, .ref (q (9 + o0))), (2, .int a2), (3, .ref (q 44)), (5, .int v5)]) hx hb dX9_valueOf_321 hl (k := 4) rfl rfl (by decide) rfl (fun ls hl => ?_)
    refine lv_iinc (v := (v5 + (1 : Int32))) (lv' := [(5, .int (v5 + (1 : Int32))), (4, .int (v4 + (-1 : Int32))), (9, .int s0), (0, .ref (q (9 + o0))), (2, .int a2), (3, .ref (q 44))]) hx hb dX9_valueOf_324 hl (k := 5) rfl rfl (by decide) rfl (fun ls hl => ?_)
    refine lv_goto (tgt := 6) hx hb dX9_valueOf_327 (by decide) ?_
    exact hB _ _ _ hw (lv_sub hl [3, 4, 5, 1, 0] rfl))
    (by
    intro σ s0 v4 v5 hB H locs ls hw hl
    unfold xb_X9_valueOf_285 at hB
    refine lv_istore (lv' := [(9, .int s0), (0, .ref (q (9 + o0))), (2, .int a2), (3, .ref (q 44)), (4, .int v4), (5, .int v5)]) hx hb dX9_valueOf_285 hl (by decide) rfl (fun ls hl => ?_)
    refine lv_goto (tgt := 310) hx hb dX9_valueOf_287 (by decide) ?_
    refine lv_aload_n hx hb dX9_valueOf_310 rfl (lv_at hl 1 rfl) ?_
    refine xr_getr X hw (xf_X9_36 X) (9 + o0) (xl_A_Text_at (i := o0) h0) rfl dX9_valueOf_311 ?_
    refine lv_iload hx hb dX9_valueOf_314 (lv_at hl 4 rfl) ?_
    refine lv_iconst (v := (2 : Int32)) hx hb dX9_valueOf_316 (by decide) ?_
    refine lv_isub hx hb dX9_valueOf_317 ?_
    refine lv_iload hx hb dX9_valueOf_318 (lv_at hl 0 rfl) ?_
    refine xr_iast X hw (64 + o0) (xl_A_Text_stack_at (i := o0) h0) hB.1 dX9_valueOf_320 hB.2 (fun σ14 H locs hB hw => ?_)
    refine lv_iinc (v := (v4 + (-1 : Int32))) (lv' := [(4, .int (v4 + (-1 : Int32))), (9, .int s0), (0, .ref (q (9 + o0))), (2, .int a2), (3, .ref (q 44)), (5, .int v5)]) hx hb dX9_valueOf_321 hl (k := 4) rfl rfl (by decide) rfl (fun ls hl => ?_)
    refine lv_iinc (v := (v5 + (1 : Int32))) (lv' := [(5, .int (v5 + (1 : Int32))), (4, .int (v4 + (-1 : Int32))), (9, .int s0), (0, .ref (q (9 + o0))), (2, .int a2), (3, .ref (q 44))]) hx hb dX9_valueOf_324 hl (k := 5) rfl rfl (by decide) rfl (fun ls hl => ?_)
    refine lv_goto (tgt := 6) hx hb dX9_valueOf_327 (by decide) ?_
    exact hB _ _ _ hw (lv_sub hl [3, 4, 5, 1, 0] rfl))
  unfold xb_X9_valueOf_e at hB
  refine lv_iconst (v := (0 : Int32)) hx hb dX9_valueOf_0 (by decide) ?_
  refine lv_istore (lv' := [(4, .int (0 : Int32)), (0, .ref (q (9 + o0))), (1, .int a1), (2, .int a2), (3, .ref (q 44))]) hx hb dX9_valueOf_1 hl (by decide) rfl (fun ls hl => ?_)
  refine lv_iload_n hx hb dX9_valueOf_3 rfl (lv_at hl 2 rfl) ?_
  refine lv_istore (lv' := [(5, .int a1), (4, .int (0 : Int32)), (0, .ref (q (9 + o0))), (1, .int a1), (2, .int a2), (3, .ref (q 44))]) hx hb dX9_valueOf_4 hl (by decide) rfl (fun ls hl => ?_)
  exact hB _ _ _ hw (lv_sub hl [2, 4, 5, 1, 0] rfl)
