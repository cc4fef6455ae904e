theorem xm_X12_gathers : xr_MW yX12_gathers cX12_gathers 6 none 2 := ⟨xt_6_129, xt_1_13, by decide, by decide, by decide +kernel⟩
theorem xm_X12_nextOrder : xr_MW yX12_nextOrder cX12_nextOrder 7 (some .boolean) 1 := ⟨xt_6_144, xt_1_13, by decide, by decide, by decide +kernel⟩
theorem xm_X12_places : xr_MW yX12_places cX12_places 9 none 1 := ⟨xt_6_137, xt_1_13, by decide, by decide, by decide +kernel⟩
theorem xf_X12_182 {p : Program} {s : State} {m : MethodId} {args : Array Value} {c : Code} {cc : ByteArray} {nL : Nat} {D : va_G} {cy : Nat → ClassId} {lay : List xw_E} {q : Nat → Nat} (X : xr_X p s m args c cc nL RX12 D cy lay q) : xr_F args s RX12 182 12 74 := ⟨RX12, TX12, 77, tyX12, rfl, by decide, fun w h => X.2.2.2.2.1 w (xt_inX12 w h), tyX12_ok, nmX12, Or.inl (X.2.2.2.2.1 _ xt_5_6)⟩
theorem xf_X12_185 {p : Program} {s : State} {m : MethodId} {args : Array Value} {c : Code} {cc : ByteArray} {nL : Nat} {D : va_G} {cy : Nat → ClassId} {lay : List xw_E} {q : Nat → Nat} (X : xr_X p s m args c cc nL RX12 D cy lay q) : xr_F args s RX12 185 12 75 := ⟨RX12, TX12, 77, tyX12, rfl, by decide, fun w h => X.2.2.2.2.1 w (xt_inX12 w h), tyX12_ok, nmX12, Or.inl (X.2.2.2.2.1 _ xt_5_7)⟩
theorem xf_X12_188 {p : Program} {s : State} {m : MethodId} {args : Array Value} {c : Code} {cc : ByteArray} {nL : Nat} {D : va_G} {cy : Nat → ClassId} {lay : List xw_E} {q : Nat → Nat} (X : xr_X p s m args c cc nL RX12 D cy lay q) : xr_F args s RX12 188 12 76 := ⟨RX12, TX12, 77, tyX12, rfl, by decide, fun w h => X.2.2.2.2.1 w (xt_inX12 w h), tyX12_ok, nmX12, Or.inl (X.2.2.2.2.1 _ xt_5_8)⟩
theorem xf_X12_149 {p : Program} {s : State} {m : MethodId} {args : Array Value} {c : Code} {cc : ByteArray} {nL : Nat} {D : va_G} {cy : Nat → ClassId} {lay : List xw_E} {q : Nat → Nat} (X : xr_X p s m args c cc nL RX12 D cy lay q) : xr_F args s RX12 149 12 63 := ⟨RX12, TX12, 77, tyX12, rfl, by decide, fun w h => X.2.2.2.2.1 w (xt_inX12 w h), tyX12_ok, nmX12, Or.inl (X.2.2.2.2.1 _ xt_4_235)⟩
theorem xf_X12_155 {p : Program} {s : State} {m : MethodId} {args : Array Value} {c : Code} {cc : ByteArray} {nL : Nat} {D : va_G} {cy : Nat → ClassId} {lay : List xw_E} {q : Nat → Nat} (X : xr_X p s m args c cc nL RX12 D cy lay q) : xr_F args s RX12 155 12 65 := ⟨RX12, TX12, 77, tyX12, rfl, by decide, fun w h => X.2.2.2.2.1 w (xt_inX12 w h), tyX12_ok, nmX12, Or.inl (X.2.2.2.2.1 _ xt_4_237)⟩
theorem xf_X12_158 {p : Program} {s : State} {m : MethodId} {args : Array Value} {c : Code} {cc : ByteArray} {nL : Nat} {D : va_G} {cy : Nat → ClassId} {lay : List xw_E} {q : Nat → Nat} (X : xr_X p s m args c cc nL RX12 D cy lay q) : xr_F args s RX12 158 12 66 := ⟨RX12, TX12, 77, tyX12, rfl, by decide, fun w h => X.2.2.2.2.1 w (xt_inX12 w h), tyX12_ok, nmX12, Or.inl (X.2.2.2.2.1 _ xt_4_238)⟩
set_option maxRecDepth 100000 in
set_option maxHeartbeats 4000000 in
theorem xc_X12_plan (l : Launch) (D : va_G) (cy : Nat → ClassId) (q : Nat → Nat) (σ : xw_M) (a1 : Int32) (a2 : Int32) {Z : Int32 → xw_M → Prop} (hU : xu_X12_plan σ a1 a2 Z) : xr_CI l yX12_plan cX12_plan 11 .int { frames := 6, cells := 0, slots := 0, locals := 148 } D cy xl_B q σ [.ref (q 0), .int a1, .int a2] Z := by
  refine xr_CI.of RX12 rfl (by decide) (Nat.le_of_ble_eq_true rfl) (fun p e s m below meth c X hw hr hk ls hl => ?_)
  have hx := X.1
  have hb := X.2.1
  have hl : lv_has ls 11 [(0, .ref (q 0)), (1, .int a1), (2, .int a2)] := hl
  have hB := hU (fun (σ : xw_M) (v3 : Int32) (v4 : Int32) => ∀ (H : Heap) (locs : List Loc) (ls : Array Slot), xr_H D cy xl_B q s σ H locs → lv_has ls 11 [(0, .ref (q 0)), (1, .int a1), (3, .int v3), (4, .int v4)] → W p l e ({ frames := 6, cells := 0, slots := 0, locals := 148 } : Room) s m ([.ref (q 0), .int a1, .int a2] : List Value).toArray below meth c H locs 0 0 (MQ below (va_Qi Z (xr_po D cy xl_B q) (xw_A xl_B q s.heap.size)) ([.ref (q 0), .int a1, .int a2] : List Value).toArray s 0 0 (xw_A xl_B q s.heap.size)) (F0 m 29 ls []))
    (fun (σ : xw_M) (v3 : Int32) (v4 : Int32) (v5 : Int32) (v6 : Int32) => ∀ (H : Heap) (locs : List Loc) (ls : Array Slot), xr_H D cy xl_B q s σ H locs → lv_has ls 11 [(0, .ref (q 0)), (1, .int a1), (3, .int v3), (4, .int v4), (5, .int v5), (6, .int v6)] → W p l e ({ frames := 6, cells := 0, slots := 0, locals := 148 } : Room) s m ([.ref (q 0), .int a1, .int a2] : List Value).toArray below meth c H locs 0 0 (MQ below (va_Qi Z (xr_po D cy xl_B q) (xw_A xl_B q s.heap.size)) ([.ref (q 0), .int a1, .int a2] : List Value).toArray s 0 0 (xw_A xl_B q s.heap.size)) (F0 m 90 ls []))
    (fun (σ : xw_M) (v3 : Int32) (v4 : Int32) (v5 : Int32) (v7 : Int32) (v8 : Int32) (v9 : Int32) => ∀ (H : Heap) (locs : List Loc) (ls : Array Slot), xr_H D cy xl_B q s σ H locs → lv_has ls 11 [(0, .ref (q 0)), (1, .int a1), (3, .int v3), (4, .int v4), (5, .int v5), (7, .int v7), (8, .int v8), (9, .int v9)] → W p l e ({ frames := 6, cells := 0, slots := 0, locals := 148 } : Room) s m ([.ref (q 0), .int a1, .int a2] : List Value).toArray below meth c H locs 0 0 (MQ below (va_Qi Z (xr_po D cy xl_B q) (xw_A xl_B q s.heap.size)) ([.ref (q 0), .int a1, .int a2] : List Value).toArray s 0 0 (xw_A xl_B q s.heap.size)) (F0 m 104 ls []))
    (fun (σ : xw_M) (v3 : Int32) (v4 : Int32) (v5 : Int32) (v9 : Int32) => ∀ (H : Heap) (locs : List Loc) (ls : Array Slot), xr_H D cy xl_B q s σ H locs → lv_has ls 11 [(0, .ref (q 0)), (1, .int a1), (3, .int v3), (4, .int v4), (5, .int v5), (9, .int v9)] → W p l e ({ frames := 6, cells := 0, slots := 0, locals := 148 } : Room) s m ([.ref (q 0), .int a1, .int a2] : List Value).toArray below meth c H locs 0 0 (MQ below (va_Qi Z (xr_po D cy xl_B q) (xw_A xl_B q s.heap.size)) ([.ref (q 0), .int a1, .int a2] : List Value).toArray s 0 0 (xw_A xl_B q s.heap.size)) (F0 m 205 ls []))
    (fun (σ : xw_M) (v4 : Int32) (v7 : Int32) => ∀ (H : Heap) (locs : List Loc) (ls : Array Slot), xr_H D cy xl_B q s σ H locs → lv_has ls 11 [(0, .ref (q 0)), (1, .int a1), (4, .int v4), (7, .int v7)] → W p l e ({ frames := 6, cells := 0, slots := 0, locals := 148 } : Room) s m ([.ref (q 0), .int a1, .int a2] : List Value).toArray below meth c H locs 0 0 (MQ below (va_Qi Z (xr_po D cy xl_B q) (xw_A xl_B q s.heap.size)) ([.ref (q 0), .int a1, .int a2] : List Value).toArray s 0 0 (xw_A xl_B q s.heap.size)) (F0 m 275 ls []))
    (fun (σ : xw_M) (s0 : Int32) (s1 : Int32) (v4 : Int32) (v7 : Int32) (v8 : Int32) => ∀ (H : Heap) (locs : List Loc) (ls : Array Slot), xr_H D cy xl_B q s σ H locs → lv_has ls 11 [(0, .ref (q 0)), (1, .int a1), (4, .int v4), (7, .int v7), (8, .int v8)] → W p l e ({ frames := 6, cells := 0, slots := 0, locals := 148 } : Room) s m ([.ref (q 0), .int a1, .int a2] : List Value).toArray below meth c H locs 0 0 (MQ below (va_Qi Z (xr_po D cy xl_B q) (xw_A xl_B q s.heap.size)) ([.ref (q 0), .int a1, .int a2] : List Value).toArray s 0 0 (xw_A xl_B q s.heap.size)) (F0 m 320 ls [.int s1, .int s0, .ref (q 45)]))
    (by
    intro σ v3 v4 hB H locs ls hw hl
    unfold xb_X12_plan_29 at hB
    refine lv_iload hx hb dX12_plan_29 (lv_at hl 3 rfl) ?_
    refine lv_aload_n hx hb dX12_plan_31 rfl (lv_at hl 0 rfl) ?_
    refine xr_geti X hw (xf_X12_302 X) 0 xl_B_ShowRingsModel_at rfl dX12_plan_32 ?_
    refine lv_icmp_ge (tgt := 81) hx hb dX12_plan_35 (by decide) (fun hc => ?_) (fun hc => ?_)
    · replace hB := hB.1 hc
      refine lv_iconst (v := (-1 : Int32)) hx hb dX12_plan_81 (by decide) ?_
      refine lv_istore (lv' := [(4, .int (-1 : Int32)), (0, .ref (q 0)), (1, .int a1), (3, .int v3)]) hx hb dX12_plan_82 hl (by decide) rfl (fun ls hl => ?_)
      refine lv_iconst (v := (0 : Int32)) hx hb dX12_plan_84 (by decide) ?_
      refine lv_istore (lv' := [(5, .int (0 : Int32)), (4, .int (-1 : Int32)), (0, .ref (q 0)), (1, .int a1), (3, .int v3)]) hx hb dX12_plan_85 hl (by decide) rfl (fun ls hl => ?_)
      refine lv_iconst (v := (1 : Int32)) hx hb dX12_plan_87 (by decide) ?_
      refine lv_istore (lv' := [(6, .int (1 : Int32)), (5, .int (0 : Int32)), (4, .int (-1 : Int32)), (0, .ref (q 0)), (1, .int a1), (3, .int v3)]) hx hb dX12_plan_88 hl (by decide) rfl (fun ls hl => ?_)
      exact hB _ _ _ hw (lv_sub hl [3, 4, 5, 2, 1, 0] rfl)
    · replace hB := hB.2 hc
      refine lv_aload_n hx hb dX12_plan_38 rfl (lv_at hl 0 rfl) ?_
      refine xr_getr X hw (xf_X12_161 X) 0 xl_B_ShowRingsModel_at rfl dX12_plan_39 ?_
      refine lv_iload hx hb dX12_plan_42 (lv_at hl 3 rfl) ?_
      refine xr_iald X hw 48 xl_B_ShowRingsModel_takes_at hB.1 dX12_plan_44 ?_
      replace hB := hB.2
      refine lv_if_ne (tgt := 51) hx hb dX12_plan_45 (by decide) (fun hc => ?_) (fun hc => ?_)
      · replace hB := hB.1 hc
        refine lv_aload_n hx hb dX12_plan_51 rfl (lv_at hl 0 rfl) ?_
        refine xr_getr X hw (xf_X12_164 X) 0 xl_B_ShowRingsModel_at rfl dX12_plan_52 ?_
        refine lv_iload hx hb dX12_plan_55 (lv_at hl 3 rfl) ?_
        refine xr_iald X hw 49 xl_B_ShowRingsModel_mayJudge_at hB.1 dX12_plan_57 ?_
        replace hB := hB.2
        refine lv_if_ne (tgt := 64) hx hb dX12_plan_58 (by decide) (fun hc => ?_) (fun hc => ?_)
        · replace hB := hB.1 hc
          refine lv_aload_n hx hb dX12_plan_64 rfl (lv_at hl 0 rfl) ?_
          refine xr_getr X hw (xf_X12_170 X) 0 xl_B_ShowRingsModel_at rfl dX12_plan_65 ?_
          refine lv_iload_n hx hb dX12_plan_68 rfl (lv_at hl 2 rfl) ?_
          refine lv_iload hx hb dX12_plan_69 (lv_at hl 3 rfl) ?_
          refine xr_iast X hw 51 xl_B_ShowRingsModel_order_at hB.1 dX12_plan_71 hB.2 (fun σ6 H locs hB hw => ?_)
          refine lv_iinc (v := (v3 + (1 : Int32))) (lv' := [(3, .int (v3 + (1 : Int32))), (0, .ref (q 0)), (1, .int a1), (4, .int v4)]) hx hb dX12_plan_72 hl (k := 2) rfl rfl (by decide) rfl (fun ls hl => ?_)
          refine lv_iinc (v := (v4 + (1 : Int32))) (lv' := [(4, .int (v4 + (1 : Int32))), (3, .int (v3 + (1 : Int32))), (0, .ref (q 0)), (1, .int a1)]) hx hb dX12_plan_75 hl (k := 3) rfl rfl (by decide) rfl (fun ls hl => ?_)
          refine lv_goto (tgt := 29) hx hb dX12_plan_78 (by decide) ?_
          exact hB _ _ _ hw (lv_sub hl [2, 3, 1, 0] rfl)
        · replace hB := hB.2 hc
          refine lv_bipush (v := (-2 : Int32)) hx hb dX12_plan_61 (by decide) ?_
          exact xr_iret X hw hr hk hB dX12_plan_63
      · replace hB := hB.2 hc
        refine lv_goto (tgt := 75) hx hb dX12_plan_48 (by decide) ?_
        refine lv_iinc (v := (v4 + (1 : Int32))) (lv' := [(4, .int (v4 + (1 : Int32))), (0, .ref (q 0)), (1, .int a1), (3, .int v3)]) hx hb dX12_plan_75 hl (k := 3) rfl rfl (by decide) rfl (fun ls hl => ?_)
        refine lv_goto (tgt := 29) hx hb dX12_plan_78 (by decide) ?_
        exact hB _ _ _ hw (lv_sub hl [1, 2, 3, 0] rfl))
    (by
    intro σ v3 v4 v5 v6 hB H locs ls hw hl
    unfold xb_X12_plan_90 at hB
    refine lv_iload hx hb dX12_plan_90 (lv_at hl 5 rfl) ?_
    refine lv_if_eq (tgt := 272) hx hb dX12_plan_92 (by decide) (fun hc => ?_) (fun hc => ?_)
    · replace hB := hB.1 hc
      refine lv_iconst (v := (0 : Int32)) hx hb dX12_plan_272 (by decide) ?_
      refine lv_istore (lv' := [(7, .int (0 : Int32)), (0, .ref (q 0)), (1, .int a1), (3, .int v3), (4, .int v4), (5, .int v5), (6, .int v6)]) hx hb dX12_plan_273 hl (by decide) rfl (fun ls hl => ?_)
      exact hB _ _ _ hw (lv_sub hl [1, 2, 4, 0] rfl)
    · replace hB := hB.2 hc
      refine lv_iconst (v := (0 : Int32)) hx hb dX12_plan_95 (by decide) ?_
      refine lv_istore (lv' := [(7, .int (0 : Int32)), (0, .ref (q 0)), (1, .int a1), (3, .int v3), (4, .int v4), (5, .int v5), (6, .int v6)]) hx hb dX12_plan_96 hl (by decide) rfl (fun ls hl => ?_)
      refine lv_iconst (v := (0 : Int32)) hx hb dX12_plan_98 (by decide) ?_
      refine lv_istore (lv' := [(8, .int (0 : Int32)), (7, .int (0 : Int32)), (0, .ref (q 0)), (1, .int a1), (3, .int v3), (4, .int v4), (5, .int v5), (6, .int v6)]) hx hb dX12_plan_99 hl (by decide) rfl (fun ls hl => ?_)
      refine lv_iconst (v := (0 : Int32)) hx hb dX12_plan_101 (by decide) ?_
      refine lv_istore (lv' := [(9, .int (0 : Int32)), (8, .int (0 : Int32)), (7, .int (0 : Int32)), (0, .ref (q 0)), (1, .int a1), (3, .int v3), (4, .int v4), (5, .int v5), (6, .int v6)]) hx hb dX12_plan_102 hl (by decide) rfl (fun ls hl => ?_)
      exact hB _ _ _ hw (lv_sub hl [3, 4, 5, 6, 7, 2, 1, 0] rfl))
    (by
    intro σ v3 v4 v5 v7 v8 v9 hB H locs ls hw hl
    unfold xb_X12_plan_104 at hB
    refine lv_iload hx hb dX12_plan_104 (lv_at hl 7 rfl) ?_
    refine lv_iload_n hx hb dX12_plan_106 rfl (lv_at hl 2 rfl) ?_
    refine lv_icmp_ge (tgt := 167) hx hb dX12_plan_107 (by decide) (fun hc => ?_) (fun hc => ?_)
    · replace hB := hB.1 hc
      refine lv_iload hx hb dX12_plan_167 (lv_at hl 3 rfl) ?_
      refine lv_iconst (v := (-1 : Int32)) hx hb dX12_plan_169 (by decide) ?_
      refine lv_icmp_eq (tgt := 194) hx hb dX12_plan_170 (by decide) (fun hc => ?_) (fun hc => ?_)
      · replace hB := hB.1 hc
        refine lv_iload hx hb dX12_plan_194 (lv_at hl 5 rfl) ?_
        refine lv_istore (lv' := [(4, .int v7), (0, .ref (q 0)), (1, .int a1), (3, .int v3), (5, .int v5), (7, .int v7), (8, .int v8), (9, .int v9)]) hx hb dX12_plan_196 hl (by decide) rfl (fun ls hl => ?_)
        refine lv_iload hx hb dX12_plan_198 (lv_at hl 6 rfl) ?_
        refine lv_istore (lv' := [(5, .int v8), (4, .int v7), (0, .ref (q 0)), (1, .int a1), (3, .int v3), (7, .int v7), (8, .int v8), (9, .int v9)]) hx hb dX12_plan_200 hl (by decide) rfl (fun ls hl => ?_)
        refine lv_iconst (v := (0 : Int32)) hx hb dX12_plan_202 (by decide) ?_
        refine lv_istore (lv' := [(9, .int (0 : Int32)), (5, .int v8), (4, .int v7), (0, .ref (q 0)), (1, .int a1), (3, .int v3), (7, .int v7), (8, .int v8)]) hx hb dX12_plan_203 hl (by decide) rfl (fun ls hl => ?_)
        exact hB _ _ _ hw (lv_sub hl [3, 4, 5, 2, 1, 0] rfl)
      · replace hB := hB.2 hc
        refine lv_iload hx hb dX12_plan_173 (lv_at hl 5 rfl) ?_
        refine lv_iload hx hb dX12_plan_175 (lv_at hl 3 rfl) ?_
        refine lv_icmp_lt (tgt := 194) hx hb dX12_plan_177 (by decide) (fun hc => ?_) (fun hc => ?_)
        · replace hB := hB.1 hc
          refine lv_iload hx hb dX12_plan_194 (lv_at hl 5 rfl) ?_
          refine lv_istore (lv' := [(4, .int v7), (0, .ref (q 0)), (1, .int a1), (3, .int v3), (5, .int v5), (7, .int v7), (8, .int v8), (9, .int v9)]) hx hb dX12_plan_196 hl (by decide) rfl (fun ls hl => ?_)
          refine lv_iload hx hb dX12_plan_198 (lv_at hl 6 rfl) ?_
          refine lv_istore (lv' := [(5, .int v8), (4, .int v7), (0, .ref (q 0)), (1, .int a1), (3, .int v3), (7, .int v7), (8, .int v8), (9, .int v9)]) hx hb dX12_plan_200 hl (by decide) rfl (fun ls hl => ?_)
          refine lv_iconst (v := (0 : Int32)) hx hb dX12_plan_202 (by decide) ?_
          refine lv_istore (lv' := [(9, .int (0 : Int32)), (5, .int v8), (4, .int v7), (0, .ref (q 0)), (1, .int a1), (3, .int v3), (7, .int v7), (8, .int v8)]) hx hb dX12_plan_203 hl (by decide) rfl (fun ls hl => ?_)
          exact hB _ _ _ hw (lv_sub hl [3, 4, 5, 2, 1, 0] rfl)
        · replace hB := hB.2 hc
          refine lv_iload hx hb dX12_plan_180 (lv_at hl 5 rfl) ?_
          refine lv_iload hx hb dX12_plan_182 (lv_at hl 3 rfl) ?_
          refine lv_icmp_ne (tgt := 262) hx hb dX12_plan_184 (by decide) (fun hc => ?_) (fun hc => ?_)
          · replace hB := hB.1 hc
            refine lv_aload_n hx hb dX12_plan_262 rfl (lv_at hl 0 rfl) ?_
            refine lv_iload_n hx hb dX12_plan_263 rfl (lv_at hl 2 rfl) ?_
            refine xr_i hw (xr_runV (As := [.int v3]) (rest := []) X hw 0 (xc_X12_nextOrder l D cy q σ v3 hB _) xm_X12_nextOrder xt_6_141 xt_6_143 xt_p_60 ⟨Nat.le_of_ble_eq_true rfl, Nat.le_of_ble_eq_true rfl⟩ xl_B_ShowRingsModel_at rfl rfl rfl rfl hl.1 (Nat.le_of_ble_eq_true rfl) dX12_plan_264 ⟨Nat.zero_le _, Nat.zero_le _⟩) (fun r8 σ7 H locs hB hw => ?_)
            refine lv_istore (lv' := [(6, .int r8), (0, .ref (q 0)), (1, .int a1), (3, .int v3), (4, .int v4), (5, .int v5), (7, .int v7), (8, .int v8), (9, .int v9)]) hx hb dX12_plan_267 hl (by decide) rfl (fun ls hl => ?_)
            refine lv_goto (tgt := 90) hx hb dX12_plan_269 (by decide) ?_
            exact hB _ _ _ hw (lv_sub hl [1, 2, 3, 4, 5, 0] rfl)
          · replace hB := hB.2 hc
            refine lv_iload hx hb dX12_plan_187 (lv_at hl 6 rfl) ?_
            refine lv_iload hx hb dX12_plan_189 (lv_at hl 4 rfl) ?_
            refine lv_icmp_ge (tgt := 262) hx hb dX12_plan_191 (by decide) (fun hc => ?_) (fun hc => ?_)
            · replace hB := hB.1 hc
              refine lv_aload_n hx hb dX12_plan_262 rfl (lv_at hl 0 rfl) ?_
              refine lv_iload_n hx hb dX12_plan_263 rfl (lv_at hl 2 rfl) ?_
              refine xr_i hw (xr_runV (As := [.int v3]) (rest := []) X hw 0 (xc_X12_nextOrder l D cy q σ v3 hB _) xm_X12_nextOrder xt_6_141 xt_6_143 xt_p_60 ⟨Nat.le_of_ble_eq_true rfl, Nat.le_of_ble_eq_true rfl⟩ xl_B_ShowRingsModel_at rfl rfl rfl rfl hl.1 (Nat.le_of_ble_eq_true rfl) dX12_plan_264 ⟨Nat.zero_le _, Nat.zero_le _⟩) (fun r10 σ9 H locs hB hw => ?_)
              refine lv_istore (lv' := [(6, .int r10), (0, .ref (q 0)), (1, .int a1), (3, .int v3), (4, .int v4), (5, .int v5), (7, .int v7), (8, .int v8), (9, .int v9)]) hx hb dX12_plan_267 hl (by decide) rfl (fun ls hl => ?_)
              refine lv_goto (tgt := 90) hx hb dX12_plan_269 (by decide) ?_
              exact hB _ _ _ hw (lv_sub hl [1, 2, 3, 4, 5, 0] rfl)
            · replace hB := hB.2 hc
              refine lv_iload hx hb dX12_plan_194 (lv_at hl 5 rfl) ?_
              refine lv_istore (lv' := [(4, .int v7), (0, .ref (q 0)), (1, .int a1), (3, .int v3), (5, .int v5), (7, .int v7), (8, .int v8), (9, .int v9)]) hx hb dX12_plan_196 hl (by decide) rfl (fun ls hl => ?_)
              refine lv_iload hx hb dX12_plan_198 (lv_at hl 6 rfl) ?_
              refine lv_istore (lv' := [(5, .int v8), (4, .int v7), (0, .ref (q 0)), (1, .int a1), (3, .int v3), (7, .int v7), (8, .int v8), (9, .int v9)]) hx hb dX12_plan_200 hl (by decide) rfl (fun ls hl => ?_)
              refine lv_iconst (v := (0 : Int32)) hx hb dX12_plan_202 (by decide) ?_
              refine lv_istore (lv' := [(9, .int (0 : Int32)), (5, .int v8), (4, .int v7), (0, .ref (q 0)), (1, .int a1), (3, .int v3), (7, .int v7), (8, .int v8)]) hx hb dX12_plan_203 hl (by decide) rfl (fun ls hl => ?_)
              exact hB _ _ _ hw (lv_sub hl [3, 4, 5, 2, 1, 0] rfl)
    · replace hB := hB.2 hc
      refine lv_aload_n hx hb dX12_plan_110 rfl (lv_at hl 0 rfl) ?_
      refine lv_iload hx hb dX12_plan_111 (lv_at hl 7 rfl) ?_
      refine xr_v hw (xr_runV (As := [.int v9]) (rest := []) X hw 0 (xc_X12_places l D cy q σ v9 hB _) xm_X12_places xt_6_134 xt_6_136 xt_p_59 ⟨Nat.le_of_ble_eq_true rfl, Nat.le_of_ble_eq_true rfl⟩ xl_B_ShowRingsModel_at rfl rfl rfl rfl hl.1 (Nat.le_of_ble_eq_true rfl) dX12_plan_113 ⟨Nat.zero_le _, Nat.zero_le _⟩) (fun σ11 H locs hB hw => ?_)
      refine lv_aload_n hx hb dX12_plan_116 rfl (lv_at hl 0 rfl) ?_
      refine xr_getr X hw (xf_X12_179 X) 0 xl_B_ShowRingsModel_at rfl dX12_plan_117 ?_
      refine lv_aload_n hx hb dX12_plan_120 rfl (lv_at hl 0 rfl) ?_
      refine xr_getr X hw (xf_X12_170 X) 0 xl_B_ShowRingsModel_at rfl dX12_plan_121 ?_
      refine lv_iload hx hb dX12_plan_124 (lv_at hl 7 rfl) ?_
      refine xr_iald X hw 51 xl_B_ShowRingsModel_order_at hB.1 dX12_plan_126 ?_
      replace hB := hB.2
      refine xr_iald X hw 54 xl_B_ShowRingsModel_from_at hB.1 dX12_plan_127 ?_
      replace hB := hB.2
      refine lv_aload_n hx hb dX12_plan_128 rfl (lv_at hl 0 rfl) ?_
      refine xr_getr X hw (xf_X12_161 X) 0 xl_B_ShowRingsModel_at rfl dX12_plan_129 ?_
      refine lv_aload_n hx hb dX12_plan_132 rfl (lv_at hl 0 rfl) ?_
      refine xr_getr X hw (xf_X12_170 X) 0 xl_B_ShowRingsModel_at rfl dX12_plan_133 ?_
      refine lv_iload hx hb dX12_plan_136 (lv_at hl 7 rfl) ?_
      refine xr_iald X hw 51 xl_B_ShowRingsModel_order_at hB.1 dX12_plan_138 ?_
      replace hB := hB.2
      refine xr_iald X hw 48 xl_B_ShowRingsModel_takes_at hB.1 dX12_plan_139 ?_
      replace hB := hB.2
      refine lv_iadd hx hb dX12_plan_140 ?_
      refine lv_topi (fun x12 hx12 => ?_)
      replace hB := hB _ hx12
      refine lv_istore (lv' := [(10, .int x12), (0, .ref (q 0)), (1, .int a1), (3, .int v3), (4, .int v4), (5, .int v5), (7, .int v7), (8, .int v8), (9, .int v9)]) hx hb dX12_plan_141 hl (by decide) rfl (fun ls hl => ?_)
      refine lv_iload hx hb dX12_plan_143 (lv_at hl 7 rfl) ?_
      refine lv_iload hx hb dX12_plan_145 (lv_at hl 0 rfl) ?_
      refine lv_iadd hx hb dX12_plan_147 ?_
      refine lv_istore (lv' := [(8, .int (v8 + x12)), (10, .int x12), (0, .ref (q 0)), (1, .int a1), (3, .int v3), (4, .int v4), (5, .int v5), (7, .int v7), (9, .int v9)]) hx hb dX12_plan_148 hl (by decide) rfl (fun ls hl => ?_)
      refine lv_iload hx hb dX12_plan_150 (lv_at hl 1 rfl) ?_
      refine lv_iload hx hb dX12_plan_152 (lv_at hl 7 rfl) ?_
      refine lv_icmp_le (tgt := 161) hx hb dX12_plan_154 (by decide) (fun hc => ?_) (fun hc => ?_)
      · replace hB := hB.1 hc
        refine lv_iinc (v := (v9 + (1 : Int32))) (lv' := [(9, .int (v9 + (1 : Int32))), (8, .int (v8 + x12)), (10, .int x12), (0, .ref (q 0)), (1, .int a1), (3, .int v3), (4, .int v4), (5, .int v5), (7, .int v7)]) hx hb dX12_plan_161 hl (k := 8) rfl rfl (by decide) rfl (fun ls hl => ?_)
        refine lv_goto (tgt := 104) hx hb dX12_plan_164 (by decide) ?_
        exact hB _ _ _ hw (lv_sub hl [3, 4, 5, 6, 7, 8, 1, 0] rfl)
      · replace hB := hB.2 hc
        refine lv_iload hx hb dX12_plan_157 (lv_at hl 1 rfl) ?_
        refine lv_istore (lv' := [(7, .int x12), (8, .int (v8 + x12)), (10, .int x12), (0, .ref (q 0)), (1, .int a1), (3, .int v3), (4, .int v4), (5, .int v5), (9, .int v9)]) hx hb dX12_plan_159 hl (by decide) rfl (fun ls hl => ?_)
        refine lv_iinc (v := (v9 + (1 : Int32))) (lv' := [(9, .int (v9 + (1 : Int32))), (7, .int x12), (8, .int (v8 + x12)), (10, .int x12), (0, .ref (q 0)), (1, .int a1), (3, .int v3), (4, .int v4), (5, .int v5)]) hx hb dX12_plan_161 hl (k := 8) rfl rfl (by decide) rfl (fun ls hl => ?_)
        refine lv_goto (tgt := 104) hx hb dX12_plan_164 (by decide) ?_
        exact hB _ _ _ hw (lv_sub hl [4, 5, 6, 7, 8, 1, 2, 0] rfl))
    (by
    intro σ v3 v4 v5 v9 hB H locs ls hw hl
    unfold xb_X12_plan_205 at hB
    refine lv_iload hx hb dX12_plan_205 (lv_at hl 5 rfl) ?_
    refine lv_aload_n hx hb dX12_plan_207 rfl (lv_at hl 0 rfl) ?_
    refine xr_geti X hw (xf_X12_302 X) 0 xl_B_ShowRingsModel_at rfl dX12_plan_208 ?_
    refine lv_icmp_ge (tgt := 262) hx hb dX12_plan_211 (by decide) (fun hc => ?_) (fun hc => ?_)
    · replace hB := hB.1 hc
      refine lv_aload_n hx hb dX12_plan_262 rfl (lv_at hl 0 rfl) ?_
      refine lv_iload_n hx hb dX12_plan_263 rfl (lv_at hl 2 rfl) ?_
      refine xr_i hw (xr_runV (As := [.int v3]) (rest := []) X hw 0 (xc_X12_nextOrder l D cy q σ v3 hB _) xm_X12_nextOrder xt_6_141 xt_6_143 xt_p_60 ⟨Nat.le_of_ble_eq_true rfl, Nat.le_of_ble_eq_true rfl⟩ xl_B_ShowRingsModel_at rfl rfl rfl rfl hl.1 (Nat.le_of_ble_eq_true rfl) dX12_plan_264 ⟨Nat.zero_le _, Nat.zero_le _⟩) (fun r14 σ13 H locs hB hw => ?_)
      refine lv_istore (lv' := [(6, .int r14), (0, .ref (q 0)), (1, .int a1), (3, .int v3), (4, .int v4), (5, .int v5), (9, .int v9)]) hx hb dX12_plan_267 hl (by decide) rfl (fun ls hl => ?_)
      refine lv_goto (tgt := 90) hx hb dX12_plan_269 (by decide) ?_
      exact hB _ _ _ hw (lv_sub hl [1, 2, 3, 4, 5, 0] rfl)
    · replace hB := hB.2 hc
      refine lv_aload_n hx hb dX12_plan_214 rfl (lv_at hl 0 rfl) ?_
      refine xr_getr X hw (xf_X12_182 X) 0 xl_B_ShowRingsModel_at rfl dX12_plan_215 ?_
      refine lv_iload hx hb dX12_plan_218 (lv_at hl 5 rfl) ?_
      refine lv_aload_n hx hb dX12_plan_220 rfl (lv_at hl 0 rfl) ?_
      refine xr_getr X hw (xf_X12_173 X) 0 xl_B_ShowRingsModel_at rfl dX12_plan_221 ?_
      refine lv_iload hx hb dX12_plan_224 (lv_at hl 5 rfl) ?_
      refine xr_iald X hw 52 xl_B_ShowRingsModel_ring_at hB.1 dX12_plan_226 ?_
      replace hB := hB.2
      refine xr_iast X hw 55 xl_B_ShowRingsModel_bestRing_at hB.1 dX12_plan_227 hB.2 (fun σ15 H locs hB hw => ?_)
      refine lv_aload_n hx hb dX12_plan_228 rfl (lv_at hl 0 rfl) ?_
      refine xr_getr X hw (xf_X12_185 X) 0 xl_B_ShowRingsModel_at rfl dX12_plan_229 ?_
      refine lv_iload hx hb dX12_plan_232 (lv_at hl 5 rfl) ?_
      refine lv_aload_n hx hb dX12_plan_234 rfl (lv_at hl 0 rfl) ?_
      refine xr_getr X hw (xf_X12_176 X) 0 xl_B_ShowRingsModel_at rfl dX12_plan_235 ?_
      refine lv_iload hx hb dX12_plan_238 (lv_at hl 5 rfl) ?_
      refine xr_iald X hw 53 xl_B_ShowRingsModel_judge_at hB.1 dX12_plan_240 ?_
      replace hB := hB.2
      refine xr_iast X hw 56 xl_B_ShowRingsModel_bestJudge_at hB.1 dX12_plan_241 hB.2 (fun σ16 H locs hB hw => ?_)
      refine lv_aload_n hx hb dX12_plan_242 rfl (lv_at hl 0 rfl) ?_
      refine xr_getr X hw (xf_X12_188 X) 0 xl_B_ShowRingsModel_at rfl dX12_plan_243 ?_
      refine lv_iload hx hb dX12_plan_246 (lv_at hl 5 rfl) ?_
      refine lv_aload_n hx hb dX12_plan_248 rfl (lv_at hl 0 rfl) ?_
      refine xr_getr X hw (xf_X12_179 X) 0 xl_B_ShowRingsModel_at rfl dX12_plan_249 ?_
      refine lv_iload hx hb dX12_plan_252 (lv_at hl 5 rfl) ?_
      refine xr_iald X hw 54 xl_B_ShowRingsModel_from_at hB.1 dX12_plan_254 ?_
      replace hB := hB.2
      refine xr_iast X hw 57 xl_B_ShowRingsModel_bestFrom_at hB.1 dX12_plan_255 hB.2 (fun σ17 H locs hB hw => ?_)
      refine lv_iinc (v := (v9 + (1 : Int32))) (lv' := [(9, .int (v9 + (1 : Int32))), (0, .ref (q 0)), (1, .int a1), (3, .int v3), (4, .int v4), (5, .int v5)]) hx hb dX12_plan_256 hl (k := 5) rfl rfl (by decide) rfl (fun ls hl => ?_)
      refine lv_goto (tgt := 205) hx hb dX12_plan_259 (by decide) ?_
      exact hB _ _ _ hw (lv_sub hl [1, 2, 3, 4, 5, 0] rfl))
    (by
    intro σ v4 v7 hB H locs ls hw hl
    unfold xb_X12_plan_275 at hB
    refine lv_iload hx hb dX12_plan_275 (lv_at hl 3 rfl) ?_
    refine lv_aload_n hx hb dX12_plan_277 rfl (lv_at hl 0 rfl) ?_
    refine xr_geti X hw (xf_X12_302 X) 0 xl_B_ShowRingsModel_at rfl dX12_plan_278 ?_
    refine lv_icmp_ge (tgt := 377) hx hb dX12_plan_281 (by decide) (fun hc => ?_) (fun hc => ?_)
    · replace hB := hB.1 hc
      refine lv_iload hx hb dX12_plan_377 (lv_at hl 2 rfl) ?_
      exact xr_iret X hw hr hk hB dX12_plan_379
    · replace hB := hB.2 hc
      refine lv_bipush (v := (6 : Int32)) hx hb dX12_plan_284 (by decide) ?_
      refine lv_iload_n hx hb dX12_plan_286 rfl (lv_at hl 1 rfl) ?_
      refine lv_imul hx hb dX12_plan_287 ?_
      refine lv_iload hx hb dX12_plan_288 (lv_at hl 3 rfl) ?_
      refine lv_iadd hx hb dX12_plan_290 ?_
      refine lv_istore (lv' := [(8, .int (((6 : Int32) * a1) + v7)), (0, .ref (q 0)), (1, .int a1), (4, .int v4), (7, .int v7)]) hx hb dX12_plan_291 hl (by decide) rfl (fun ls hl => ?_)
      refine lv_aload_n hx hb dX12_plan_293 rfl (lv_at hl 1 rfl) ?_
      refine xr_getr X hw (xf_X12_152 X) 0 xl_B_ShowRingsModel_at rfl dX12_plan_294 ?_
      refine lv_iload hx hb dX12_plan_297 (lv_at hl 0 rfl) ?_
      refine lv_aload_n hx hb dX12_plan_299 rfl (lv_at hl 1 rfl) ?_
      refine xr_getr X hw (xf_X12_161 X) 0 xl_B_ShowRingsModel_at rfl dX12_plan_300 ?_
      refine lv_iload hx hb dX12_plan_303 (lv_at hl 4 rfl) ?_
      refine xr_iald X hw 48 xl_B_ShowRingsModel_takes_at hB.1 dX12_plan_305 ?_
      replace hB := hB.2
      refine lv_if_ne (tgt := 313) hx hb dX12_plan_306 (by decide) (fun hc => ?_) (fun hc => ?_)
      · replace hB := hB.1 hc
        refine lv_aload_n hx hb dX12_plan_313 rfl (lv_at hl 1 rfl) ?_
        refine xr_getr X hw (xf_X12_185 X) 0 xl_B_ShowRingsModel_at rfl dX12_plan_314 ?_
        refine lv_iload hx hb dX12_plan_317 (lv_at hl 4 rfl) ?_
        refine xr_iald X hw 56 xl_B_ShowRingsModel_bestJudge_at hB.1 dX12_plan_319 ?_
        replace hB := hB.2
        exact hB _ _ _ hw (lv_sub hl [1, 2, 3, 4, 0] rfl)
      · replace hB := hB.2 hc
        refine lv_iconst (v := (-1 : Int32)) hx hb dX12_plan_309 (by decide) ?_
        refine lv_goto (tgt := 320) hx hb dX12_plan_310 (by decide) ?_
        exact hB _ _ _ hw (lv_sub hl [1, 2, 3, 4, 0] rfl))
    (by
    intro σ s0 s1 v4 v7 v8 hB H locs ls hw hl
    unfold xb_X12_plan_320 at hB
    refine xr_iast X hw 45 xl_B_ShowRingsModel_plannedJudge_at hB.1 dX12_plan_320 hB.2 (fun σ18 H locs hB hw => ?_)
    refine lv_aload_n hx hb dX12_plan_321 rfl (lv_at hl 0 rfl) ?_
    refine xr_getr X hw (xf_X12_149 X) 0 xl_B_ShowRingsModel_at rfl dX12_plan_322 ?_
    refine lv_iload hx hb dX12_plan_325 (lv_at hl 4 rfl) ?_
    refine lv_aload_n hx hb dX12_plan_327 rfl (lv_at hl 0 rfl) ?_
    refine xr_getr X hw (xf_X12_182 X) 0 xl_B_ShowRingsModel_at rfl dX12_plan_328 ?_
    refine lv_iload hx hb dX12_plan_331 (lv_at hl 3 rfl) ?_
    refine xr_iald X hw 55 xl_B_ShowRingsModel_bestRing_at hB.1 dX12_plan_333 ?_
    replace hB := hB.2
    refine xr_iast X hw 44 xl_B_ShowRingsModel_plannedRing_at hB.1 dX12_plan_334 hB.2 (fun σ19 H locs hB hw => ?_)
    refine lv_aload_n hx hb dX12_plan_335 rfl (lv_at hl 0 rfl) ?_
    refine xr_getr X hw (xf_X12_155 X) 0 xl_B_ShowRingsModel_at rfl dX12_plan_336 ?_
    refine lv_iload hx hb dX12_plan_339 (lv_at hl 4 rfl) ?_
    refine lv_aload_n hx hb dX12_plan_341 rfl (lv_at hl 0 rfl) ?_
    refine xr_getr X hw (xf_X12_188 X) 0 xl_B_ShowRingsModel_at rfl dX12_plan_342 ?_
    refine lv_iload hx hb dX12_plan_345 (lv_at hl 3 rfl) ?_
    refine xr_iald X hw 57 xl_B_ShowRingsModel_bestFrom_at hB.1 dX12_plan_347 ?_
    replace hB := hB.2
    refine xr_iast X hw 46 xl_B_ShowRingsModel_plannedFrom_at hB.1 dX12_plan_348 hB.2 (fun σ20 H locs hB hw => ?_)
    refine lv_aload_n hx hb dX12_plan_349 rfl (lv_at hl 0 rfl) ?_
    refine xr_getr X hw (xf_X12_158 X) 0 xl_B_ShowRingsModel_at rfl dX12_plan_350 ?_
    refine lv_iload hx hb dX12_plan_353 (lv_at hl 4 rfl) ?_
    refine lv_aload_n hx hb dX12_plan_355 rfl (lv_at hl 0 rfl) ?_
    refine xr_getr X hw (xf_X12_188 X) 0 xl_B_ShowRingsModel_at rfl dX12_plan_356 ?_
    refine lv_iload hx hb dX12_plan_359 (lv_at hl 3 rfl) ?_
    refine xr_iald X hw 57 xl_B_ShowRingsModel_bestFrom_at hB.1 dX12_plan_361 ?_
    replace hB := hB.2
    refine lv_aload_n hx hb dX12_plan_362 rfl (lv_at hl 0 rfl) ?_
    refine xr_getr X hw (xf_X12_161 X) 0 xl_B_ShowRingsModel_at rfl dX12_plan_363 ?_
    refine lv_iload hx hb dX12_plan_366 (lv_at hl 3 rfl) ?_
    refine xr_iald X hw 48 xl_B_ShowRingsModel_takes_at hB.1 dX12_plan_368 ?_
    replace hB := hB.2
    refine lv_iadd hx hb dX12_plan_369 ?_
    refine xr_iast X hw 47 xl_B_ShowRingsModel_plannedTo_at hB.1 dX12_plan_370 hB.2 (fun σ21 H locs hB hw => ?_)
    refine lv_iinc (v := (v7 + (1 : Int32))) (lv' := [(7, .int (v7 + (1 : Int32))), (0, .ref (q 0)), (1, .int a1), (4, .int v4), (8, .int v8)]) hx hb dX12_plan_371 hl (k := 3) rfl rfl (by decide) rfl (fun ls hl => ?_)
    refine lv_goto (tgt := 275) hx hb dX12_plan_374 (by decide) ?_
    exact hB _ _ _ hw (lv_sub hl [1, 2, 3, 0] rfl))
  unfold xb_X12_plan_e at hB
  refine lv_aload_n hx hb dX12_plan_0 rfl (lv_at hl 0 rfl) ?_
  refine lv_iload_n hx hb dX12_plan_1 rfl (lv_at hl 1 rfl) ?_
  refine xr_i hw (xr_runV (As := [.int a1]) (rest := []) X hw 0 (xc_X12_isShow l D cy q σ a1 hB _) xm_X12_isShow xt_6_46 xt_6_48 xt_p_44 ⟨Nat.le_of_ble_eq_true rfl, Nat.le_of_ble_eq_true rfl⟩ xl_B_ShowRingsModel_at rfl rfl rfl rfl hl.1 (Nat.le_of_ble_eq_true rfl) dX12_plan_2 ⟨Nat.zero_le _, Nat.zero_le _⟩) (fun r2 σ1 H locs hB hw => ?_)
  refine lv_if_eq (tgt := 16) hx hb dX12_plan_5 (by decide) (fun hc => ?_) (fun hc => ?_)
  · replace hB := hB.1 hc
    refine lv_iconst (v := (-1 : Int32)) hx hb dX12_plan_16 (by decide) ?_
    exact xr_iret X hw hr hk hB dX12_plan_17
  · replace hB := hB.2 hc
    refine lv_aload_n hx hb dX12_plan_8 rfl (lv_at hl 0 rfl) ?_
    refine lv_iload_n hx hb dX12_plan_9 rfl (lv_at hl 2 rfl) ?_
    refine xr_i hw (xr_runV (As := [.int a2]) (rest := []) X hw 0 (xc_X12_isKnown l D cy q σ1 a2 hB _) xm_X12_isKnown xt_6_66 xt_6_68 xt_p_47 ⟨Nat.le_of_ble_eq_true rfl, Nat.le_of_ble_eq_true rfl⟩ xl_B_ShowRingsModel_at rfl rfl rfl rfl hl.1 (Nat.le_of_ble_eq_true rfl) dX12_plan_10 ⟨Nat.zero_le _, Nat.zero_le _⟩) (fun r4 σ3 H locs hB hw => ?_)
    refine lv_if_ne (tgt := 18) hx hb dX12_plan_13 (by decide) (fun hc => ?_) (fun hc => ?_)
    · replace hB := hB.1 hc
      refine lv_aload_n hx hb dX12_plan_18 rfl (lv_at hl 0 rfl) ?_
      refine lv_iload_n hx hb dX12_plan_19 rfl (lv_at hl 1 rfl) ?_
      refine lv_iload_n hx hb dX12_plan_20 rfl (lv_at hl 2 rfl) ?_
      refine xr_v hw (xr_runV (As := [.int a1, .int a2]) (rest := []) X hw 0 (xc_X12_gathers l D cy q σ3 a1 a2 hB _) xm_X12_gathers xt_6_126 xt_6_128 xt_p_57 ⟨Nat.le_of_ble_eq_true rfl, Nat.le_of_ble_eq_true rfl⟩ xl_B_ShowRingsModel_at rfl rfl rfl rfl hl.1 (Nat.le_of_ble_eq_true rfl) dX12_plan_21 ⟨Nat.zero_le _, Nat.zero_le _⟩) (fun σ5 H locs hB hw => ?_)
      refine lv_iconst (v := (0 : Int32)) hx hb dX12_plan_24 (by decide) ?_
      refine lv_istore_n (lv' := [(3, .int (0 : Int32)), (0, .ref (q 0)), (1, .int a1), (2, .int a2)]) hx hb dX12_plan_25 rfl hl (by decide) rfl (fun ls hl => ?_)
      refine lv_iconst (v := (0 : Int32)) hx hb dX12_plan_26 (by decide) ?_
      refine lv_istore (lv' := [(4, .int (0 : Int32)), (3, .int (0 : Int32)), (0, .ref (q 0)), (1, .int a1), (2, .int a2)]) hx hb dX12_plan_27 hl (by decide) rfl (fun ls hl => ?_)
      exact hB _ _ _ hw (lv_sub hl [2, 3, 1, 0] rfl)
    · replace hB := hB.2 hc
      refine lv_iconst (v := (-1 : Int32)) hx hb dX12_plan_16 (by decide) ?_
      exact xr_iret X hw hr hk hB dX12_plan_17
set_option maxRecDepth 100000 in
set_option maxHeartbeats 4000000 in
theorem xc_X12_isPlanned (l : Launch) (D : va_G) (cy : Nat → ClassId) (q : Nat → Nat) (σ : xw_M) (a1 : Int32) (a2 : Int32) {Z : Int32 → xw_M → Prop} (hU : xu_X12_isPlanned σ a1 a2 Z) : xr_CI l yX12_isPlanned cX12_isPlanned 3 .boolean { frames := 1, cells := 0, slots := 0, locals := 21 } D cy xl_B q σ [.ref (q 0), .int a1, .int a2] Z := by
  refine xr_CI.of RX12 rfl (by decide) (Nat.le_of_ble_eq_true rfl) (fun p e s m below meth c X hw hr hk ls hl => ?_)
  have hx := X.1
  have hb := X.2.1
  have hl : lv_has ls 3 [(0, .ref (q 0)), (1, .int a1), (2, .int a2)] := hl
  unfold xu_X12_isPlanned at hU
  have hB := hU
  refine lv_aload_n hx hb dX12_isPlanned_0 rfl (lv_at hl 0 rfl) ?_
  refine lv_iload_n hx hb dX12_isPlanned_1 rfl (lv_at hl 1 rfl) ?_
  refine xr_i hw (xr_runV (As := [.int a1]) (rest := []) X hw 0 (xc_X12_isShow l D cy q σ a1 hB _) xm_X12_isShow xt_6_46 xt_6_48 xt_p_44 ⟨Nat.le_of_ble_eq_true rfl, Nat.le_of_ble_eq_true rfl⟩ xl_B_ShowRingsModel_at rfl rfl rfl rfl hl.1 (Nat.le_of_ble_eq_true rfl) dX12_isPlanned_2 ⟨Nat.zero_le _, Nat.zero_le _⟩) (fun r2 σ1 H locs hB hw => ?_)
  refine lv_if_eq (tgt := 35) hx hb dX12_isPlanned_5 (by decide) (fun hc => ?_) (fun hc => ?_)
  · replace hB := hB.1 hc
    refine lv_iconst (v := (0 : Int32)) hx hb dX12_isPlanned_35 (by decide) ?_
    exact xr_zret X hw hr hk hB dX12_isPlanned_36
  · replace hB := hB.2 hc
    refine lv_aload_n hx hb dX12_isPlanned_8 rfl (lv_at hl 0 rfl) ?_
    refine lv_iload_n hx hb dX12_isPlanned_9 rfl (lv_at hl 2 rfl) ?_
    refine xr_i hw (xr_runV (As := [.int a2]) (rest := []) X hw 0 (xc_X12_isBreed l D cy q σ1 a2 hB _) xm_X12_isBreed xt_6_23 xt_6_25 xt_p_43 ⟨Nat.le_of_ble_eq_true rfl, Nat.le_of_ble_eq_true rfl⟩ xl_B_ShowRingsModel_at rfl rfl rfl rfl hl.1 (Nat.le_of_ble_eq_true rfl) dX12_isPlanned_10 ⟨Nat.zero_le _, Nat.zero_le _⟩) (fun r4 σ3 H locs hB hw => ?_)
    refine lv_if_eq (tgt := 35) hx hb dX12_isPlanned_13 (by decide) (fun hc => ?_) (fun hc => ?_)
    · replace hB := hB.1 hc
      refine lv_iconst (v := (0 : Int32)) hx hb dX12_isPlanned_35 (by decide) ?_
      exact xr_zret X hw hr hk hB dX12_isPlanned_36
    · replace hB := hB.2 hc
      refine lv_aload_n hx hb dX12_isPlanned_16 rfl (lv_at hl 0 rfl) ?_
      refine xr_getr X hw (xf_X12_152 X) 0 xl_B_ShowRingsModel_at rfl dX12_isPlanned_17 ?_
      refine lv_bipush (v := (6 : Int32)) hx hb dX12_isPlanned_20 (by decide) ?_
      refine lv_iload_n hx hb dX12_isPlanned_22 rfl (lv_at hl 1 rfl) ?_
      refine lv_imul hx hb dX12_isPlanned_23 ?_
      refine lv_iload_n hx hb dX12_isPlanned_24 rfl (lv_at hl 2 rfl) ?_
      refine lv_iadd hx hb dX12_isPlanned_25 ?_
      refine xr_iald X hw 45 xl_B_ShowRingsModel_plannedJudge_at hB.1 dX12_isPlanned_26 ?_
      replace hB := hB.2
      refine lv_iconst (v := (-1 : Int32)) hx hb dX12_isPlanned_27 (by decide) ?_
      refine lv_icmp_eq (tgt := 35) hx hb dX12_isPlanned_28 (by decide) (fun hc => ?_) (fun hc => ?_)
      · replace hB := hB.1 hc
        refine lv_iconst (v := (0 : Int32)) hx hb dX12_isPlanned_35 (by decide) ?_
        exact xr_zret X hw hr hk hB dX12_isPlanned_36
      · replace hB := hB.2 hc
        refine lv_iconst (v := (1 : Int32)) hx hb dX12_isPlanned_31 (by decide) ?_
        refine lv_goto (tgt := 36) hx hb dX12_isPlanned_32 (by decide) ?_
        exact xr_zret X hw hr hk hB dX12_isPlanned_36
