theorem xf_X12_170 {p : Program} {s : State} {m : MethodId} {args : Array Value} {c : Code} {cc : ByteArray} {nL : Nat} {D : va_G} {cy : Nat → ClassId} {lay : List xw_E} {q : Nat → Nat} (X : xr_X p s m args c cc nL RX12 D cy lay q) : xr_F args s RX12 170 12 70 := ⟨RX12, TX12, 77, tyX12, rfl, by decide, fun w h => X.2.2.2.2.1 w (xt_inX12 w h), tyX12_ok, nmX12, Or.inl (X.2.2.2.2.1 _ xt_5_2)⟩
theorem xf_X12_195 {p : Program} {s : State} {m : MethodId} {args : Array Value} {c : Code} {cc : ByteArray} {nL : Nat} {D : va_G} {cy : Nat → ClassId} {lay : List xw_E} {q : Nat → Nat} (X : xr_X p s m args c cc nL RX12 D cy lay q) : xr_F args s RX12 195 12 41 := ⟨RX12, TX12, 77, tyX12, rfl, by decide, fun w h => X.2.2.2.2.1 w (xt_inX12 w h), tyX12_ok, nmX12, Or.inl (X.2.2.2.2.1 _ xt_4_213)⟩
theorem xf_X12_179 {p : Program} {s : State} {m : MethodId} {args : Array Value} {c : Code} {cc : ByteArray} {nL : Nat} {D : va_G} {cy : Nat → ClassId} {lay : List xw_E} {q : Nat → Nat} (X : xr_X p s m args c cc nL RX12 D cy lay q) : xr_F args s RX12 179 12 73 := ⟨RX12, TX12, 77, tyX12, rfl, by decide, fun w h => X.2.2.2.2.1 w (xt_inX12 w h), tyX12_ok, nmX12, Or.inl (X.2.2.2.2.1 _ xt_5_5)⟩
theorem xf_X12_173 {p : Program} {s : State} {m : MethodId} {args : Array Value} {c : Code} {cc : ByteArray} {nL : Nat} {D : va_G} {cy : Nat → ClassId} {lay : List xw_E} {q : Nat → Nat} (X : xr_X p s m args c cc nL RX12 D cy lay q) : xr_F args s RX12 173 12 71 := ⟨RX12, TX12, 77, tyX12, rfl, by decide, fun w h => X.2.2.2.2.1 w (xt_inX12 w h), tyX12_ok, nmX12, Or.inl (X.2.2.2.2.1 _ xt_5_3)⟩
theorem xm_X12_least : xr_MW yX12_least cX12_least 2 (some .int) 1 := ⟨xt_6_140, xt_1_13, by decide, by decide, by decide +kernel⟩
theorem xf_X12_176 {p : Program} {s : State} {m : MethodId} {args : Array Value} {c : Code} {cc : ByteArray} {nL : Nat} {D : va_G} {cy : Nat → ClassId} {lay : List xw_E} {q : Nat → Nat} (X : xr_X p s m args c cc nL RX12 D cy lay q) : xr_F args s RX12 176 12 72 := ⟨RX12, TX12, 77, tyX12, rfl, by decide, fun w h => X.2.2.2.2.1 w (xt_inX12 w h), tyX12_ok, nmX12, Or.inl (X.2.2.2.2.1 _ xt_5_4)⟩
set_option maxRecDepth 100000 in
set_option maxHeartbeats 4000000 in
theorem xc_X12_places (l : Launch) (D : va_G) (cy : Nat → ClassId) (q : Nat → Nat) (σ : xw_M) (a1 : Int32) {Z : xw_M → Prop} (hU : xu_X12_places σ a1 Z) : xr_CV l yX12_places cX12_places 9 { frames := 1, cells := 0, slots := 0, locals := 21 } D cy xl_B q σ [.ref (q 0), .int a1] Z := by
  refine xr_CV.of RX12 rfl (by decide) (Nat.le_of_ble_eq_true rfl) (fun p e s m below meth c X hw hr hk ls hl => ?_)
  have hx := X.1
  have hb := X.2.1
  have hl : lv_has ls 9 [(0, .ref (q 0)), (1, .int a1)] := hl
  have hB := hU (fun (σ : xw_M) (v2 : Int32) (v3 : Int32) => ∀ (H : Heap) (locs : List Loc) (ls : Array Slot), xr_H D cy xl_B q s σ H locs → lv_has ls 9 [(0, .ref (q 0)), (1, .int a1), (2, .int v2), (3, .int v3)] → W p l e ({ frames := 1, cells := 0, slots := 0, locals := 21 } : Room) s m ([.ref (q 0), .int a1] : List Value).toArray below meth c H locs 0 0 (MQ below (va_Qv Z (xr_po D cy xl_B q) (xw_A xl_B q s.heap.size)) ([.ref (q 0), .int a1] : List Value).toArray s 0 0 (xw_A xl_B q s.heap.size)) (F0 m 9 ls []))
    (fun (σ : xw_M) (v2 : Int32) (v3 : Int32) (v4 : Int32) (v5 : Int32) (v6 : Int32) (v7 : Int32) => ∀ (H : Heap) (locs : List Loc) (ls : Array Slot), xr_H D cy xl_B q s σ H locs → lv_has ls 9 [(0, .ref (q 0)), (1, .int a1), (2, .int v2), (3, .int v3), (4, .int v4), (5, .int v5), (6, .int v6), (7, .int v7)] → W p l e ({ frames := 1, cells := 0, slots := 0, locals := 21 } : Room) s m ([.ref (q 0), .int a1] : List Value).toArray below meth c H locs 0 0 (MQ below (va_Qv Z (xr_po D cy xl_B q) (xw_A xl_B q s.heap.size)) ([.ref (q 0), .int a1] : List Value).toArray s 0 0 (xw_A xl_B q s.heap.size)) (F0 m 33 ls []))
    (by
    intro σ v2 v3 hB H locs ls hw hl
    unfold xb_X12_places_9 at hB
    refine lv_aload_n hx hb dX12_places_9 rfl (lv_at hl 0 rfl) ?_
    refine xr_getr X hw (xf_X12_164 X) 0 xl_B_ShowRingsModel_at rfl dX12_places_10 ?_
    refine lv_iload_n hx hb dX12_places_13 rfl (lv_at hl 2 rfl) ?_
    refine xr_iald X hw 49 xl_B_ShowRingsModel_mayJudge_at hB.1 dX12_places_14 ?_
    replace hB := hB.2
    refine lv_istore (lv' := [(4, .int (σ.1 49 (Int32.toNatClampNeg v2))), (0, .ref (q 0)), (1, .int a1), (2, .int v2), (3, .int v3)]) hx hb dX12_places_15 hl (by decide) rfl (fun ls hl => ?_)
    refine lv_iconst (v := (1 : Int32)) hx hb dX12_places_17 (by decide) ?_
    refine lv_aload_n hx hb dX12_places_18 rfl (lv_at hl 1 rfl) ?_
    refine xr_geti X hw (xf_X12_195 X) 0 xl_B_ShowRingsModel_at rfl dX12_places_19 ?_
    refine lv_ishl hx hb dX12_places_22 ?_
    refine lv_iconst (v := (1 : Int32)) hx hb dX12_places_23 (by decide) ?_
    refine lv_isub hx hb dX12_places_24 ?_
    refine lv_topi (fun x1 hx1 => ?_)
    replace hB := hB _ hx1
    refine lv_istore (lv' := [(5, .int x1), (4, .int (σ.1 49 (Int32.toNatClampNeg v2))), (0, .ref (q 0)), (1, .int a1), (2, .int v2), (3, .int v3)]) hx hb dX12_places_25 hl (by decide) rfl (fun ls hl => ?_)
    refine lv_iconst (v := (0 : Int32)) hx hb dX12_places_27 (by decide) ?_
    refine lv_istore (lv' := [(6, .int (0 : Int32)), (5, .int x1), (4, .int (σ.1 49 (Int32.toNatClampNeg v2))), (0, .ref (q 0)), (1, .int a1), (2, .int v2), (3, .int v3)]) hx hb dX12_places_28 hl (by decide) rfl (fun ls hl => ?_)
    refine lv_iconst (v := (0 : Int32)) hx hb dX12_places_30 (by decide) ?_
    refine lv_istore (lv' := [(7, .int (0 : Int32)), (6, .int (0 : Int32)), (5, .int x1), (4, .int (σ.1 49 (Int32.toNatClampNeg v2))), (0, .ref (q 0)), (1, .int a1), (2, .int v2), (3, .int v3)]) hx hb dX12_places_31 hl (by decide) rfl (fun ls hl => ?_)
    exact hB _ _ _ hw (lv_sub hl [4, 5, 6, 7, 3, 2, 1, 0] rfl))
    (by
    intro σ v2 v3 v4 v5 v6 v7 hB H locs ls hw hl
    unfold xb_X12_places_33 at hB
    refine lv_iload hx hb dX12_places_33 (lv_at hl 7 rfl) ?_
    refine lv_iload_n hx hb dX12_places_35 rfl (lv_at hl 1 rfl) ?_
    refine lv_icmp_ge (tgt := 155) hx hb dX12_places_36 (by decide) (fun hc => ?_) (fun hc => ?_)
    · replace hB := hB.1 hc
      refine lv_iload hx hb dX12_places_155 (lv_at hl 6 rfl) ?_
      refine lv_if_ne (tgt := 203) hx hb dX12_places_157 (by decide) (fun hc => ?_) (fun hc => ?_)
      · replace hB := hB.1 hc
        refine lv_iinc (v := (v3 + (1 : Int32))) (lv' := [(3, .int (v3 + (1 : Int32))), (0, .ref (q 0)), (1, .int a1), (2, .int v2), (4, .int v4), (5, .int v5), (6, .int v6), (7, .int v7)]) hx hb dX12_places_203 hl (k := 3) rfl rfl (by decide) rfl (fun ls hl => ?_)
        refine lv_goto (tgt := 9) hx hb dX12_places_206 (by decide) ?_
        exact hB _ _ _ hw (lv_sub hl [1, 2, 3, 0] rfl)
      · replace hB := hB.2 hc
        refine lv_iload hx hb dX12_places_160 (lv_at hl 5 rfl) ?_
        refine lv_if_eq (tgt := 203) hx hb dX12_places_162 (by decide) (fun hc => ?_) (fun hc => ?_)
        · replace hB := hB.1 hc
          refine lv_iinc (v := (v3 + (1 : Int32))) (lv' := [(3, .int (v3 + (1 : Int32))), (0, .ref (q 0)), (1, .int a1), (2, .int v2), (4, .int v4), (5, .int v5), (6, .int v6), (7, .int v7)]) hx hb dX12_places_203 hl (k := 3) rfl rfl (by decide) rfl (fun ls hl => ?_)
          refine lv_goto (tgt := 9) hx hb dX12_places_206 (by decide) ?_
          exact hB _ _ _ hw (lv_sub hl [1, 2, 3, 0] rfl)
        · replace hB := hB.2 hc
          refine lv_iload hx hb dX12_places_165 (lv_at hl 4 rfl) ?_
          refine lv_if_ne (tgt := 173) hx hb dX12_places_167 (by decide) (fun hc => ?_) (fun hc => ?_)
          · replace hB := hB.1 hc
            refine lv_aload_n hx hb dX12_places_173 rfl (lv_at hl 0 rfl) ?_
            refine xr_getr X hw (xf_X12_179 X) 0 xl_B_ShowRingsModel_at rfl dX12_places_174 ?_
            refine lv_iload_n hx hb dX12_places_177 rfl (lv_at hl 2 rfl) ?_
            refine lv_iload_n hx hb dX12_places_178 rfl (lv_at hl 3 rfl) ?_
            refine xr_iast X hw 54 xl_B_ShowRingsModel_from_at hB.1 dX12_places_179 hB.2 (fun σ2 H locs hB hw => ?_)
            refine lv_aload_n hx hb dX12_places_180 rfl (lv_at hl 0 rfl) ?_
            refine xr_getr X hw (xf_X12_173 X) 0 xl_B_ShowRingsModel_at rfl dX12_places_181 ?_
            refine lv_iload_n hx hb dX12_places_184 rfl (lv_at hl 2 rfl) ?_
            refine lv_iload hx hb dX12_places_185 (lv_at hl 5 rfl) ?_
            refine xr_i hw (xr_runS (As := [.int v5]) (rest := [.int v2, .ref (q 52)]) X hw (xc_X12_least l D cy q σ2 v5 hB _) xm_X12_least xt_6_138 xt_6_139 ⟨Nat.le_of_ble_eq_true rfl, Nat.le_of_ble_eq_true rfl⟩ rfl rfl hl.1 (Nat.le_of_ble_eq_true rfl) dX12_places_187 ⟨Nat.zero_le _, Nat.zero_le _⟩) (fun r4 σ3 H locs hB hw => ?_)
            refine xr_iast X hw 52 xl_B_ShowRingsModel_ring_at hB.1 dX12_places_190 hB.2 (fun σ5 H locs hB hw => ?_)
            refine lv_aload_n hx hb dX12_places_191 rfl (lv_at hl 0 rfl) ?_
            refine xr_getr X hw (xf_X12_176 X) 0 xl_B_ShowRingsModel_at rfl dX12_places_192 ?_
            refine lv_iload_n hx hb dX12_places_195 rfl (lv_at hl 2 rfl) ?_
            refine lv_iload hx hb dX12_places_196 (lv_at hl 4 rfl) ?_
            refine xr_i hw (xr_runS (As := [.int v4]) (rest := [.int v2, .ref (q 53)]) X hw (xc_X12_least l D cy q σ5 v4 hB _) xm_X12_least xt_6_138 xt_6_139 ⟨Nat.le_of_ble_eq_true rfl, Nat.le_of_ble_eq_true rfl⟩ rfl rfl hl.1 (Nat.le_of_ble_eq_true rfl) dX12_places_198 ⟨Nat.zero_le _, Nat.zero_le _⟩) (fun r7 σ6 H locs hB hw => ?_)
            refine xr_iast X hw 53 xl_B_ShowRingsModel_judge_at hB.1 dX12_places_201 hB.2 (fun σ8 H locs hB hw => ?_)
            exact xr_vret X hw hr hk hB dX12_places_202
          · replace hB := hB.2 hc
            refine lv_goto (tgt := 203) hx hb dX12_places_170 (by decide) ?_
            refine lv_iinc (v := (v3 + (1 : Int32))) (lv' := [(3, .int (v3 + (1 : Int32))), (0, .ref (q 0)), (1, .int a1), (2, .int v2), (4, .int v4), (5, .int v5), (6, .int v6), (7, .int v7)]) hx hb dX12_places_203 hl (k := 3) rfl rfl (by decide) rfl (fun ls hl => ?_)
            refine lv_goto (tgt := 9) hx hb dX12_places_206 (by decide) ?_
            exact hB _ _ _ hw (lv_sub hl [1, 2, 3, 0] rfl)
    · replace hB := hB.2 hc
      refine lv_aload_n hx hb dX12_places_39 rfl (lv_at hl 0 rfl) ?_
      refine xr_getr X hw (xf_X12_170 X) 0 xl_B_ShowRingsModel_at rfl dX12_places_40 ?_
      refine lv_iload hx hb dX12_places_43 (lv_at hl 7 rfl) ?_
      refine xr_iald X hw 51 xl_B_ShowRingsModel_order_at hB.1 dX12_places_45 ?_
      replace hB := hB.2
      refine lv_istore (lv' := [(8, .int (σ.1 51 (Int32.toNatClampNeg v7))), (0, .ref (q 0)), (1, .int a1), (2, .int v2), (3, .int v3), (4, .int v4), (5, .int v5), (6, .int v6), (7, .int v7)]) hx hb dX12_places_46 hl (by decide) rfl (fun ls hl => ?_)
      refine lv_aload_n hx hb dX12_places_48 rfl (lv_at hl 1 rfl) ?_
      refine xr_getr X hw (xf_X12_179 X) 0 xl_B_ShowRingsModel_at rfl dX12_places_49 ?_
      refine lv_iload hx hb dX12_places_52 (lv_at hl 0 rfl) ?_
      refine xr_iald X hw 54 xl_B_ShowRingsModel_from_at hB.1 dX12_places_54 ?_
      replace hB := hB.2
      refine lv_iload_n hx hb dX12_places_55 rfl (lv_at hl 4 rfl) ?_
      refine lv_aload_n hx hb dX12_places_56 rfl (lv_at hl 1 rfl) ?_
      refine xr_getr X hw (xf_X12_161 X) 0 xl_B_ShowRingsModel_at rfl dX12_places_57 ?_
      refine lv_iload_n hx hb dX12_places_60 rfl (lv_at hl 3 rfl) ?_
      refine xr_iald X hw 48 xl_B_ShowRingsModel_takes_at hB.1 dX12_places_61 ?_
      replace hB := hB.2
      refine lv_iadd hx hb dX12_places_62 ?_
      refine lv_icmp_ge (tgt := 149) hx hb dX12_places_63 (by decide) (fun hc => ?_) (fun hc => ?_)
      · replace hB := hB.1 hc
        refine lv_iinc (v := (v7 + (1 : Int32))) (lv' := [(7, .int (v7 + (1 : Int32))), (8, .int (σ.1 51 (Int32.toNatClampNeg v7))), (0, .ref (q 0)), (1, .int a1), (2, .int v2), (3, .int v3), (4, .int v4), (5, .int v5), (6, .int v6)]) hx hb dX12_places_149 hl (k := 8) rfl rfl (by decide) rfl (fun ls hl => ?_)
        refine lv_goto (tgt := 33) hx hb dX12_places_152 (by decide) ?_
        exact hB _ _ _ hw (lv_sub hl [2, 3, 4, 5, 6, 7, 8, 0] rfl)
      · replace hB := hB.2 hc
        refine lv_iload_n hx hb dX12_places_66 rfl (lv_at hl 4 rfl) ?_
        refine lv_aload_n hx hb dX12_places_67 rfl (lv_at hl 1 rfl) ?_
        refine xr_getr X hw (xf_X12_179 X) 0 xl_B_ShowRingsModel_at rfl dX12_places_68 ?_
        refine lv_iload hx hb dX12_places_71 (lv_at hl 0 rfl) ?_
        refine xr_iald X hw 54 xl_B_ShowRingsModel_from_at hB.1 dX12_places_73 ?_
        replace hB := hB.2
        refine lv_aload_n hx hb dX12_places_74 rfl (lv_at hl 1 rfl) ?_
        refine xr_getr X hw (xf_X12_161 X) 0 xl_B_ShowRingsModel_at rfl dX12_places_75 ?_
        refine lv_iload hx hb dX12_places_78 (lv_at hl 0 rfl) ?_
        refine xr_iald X hw 48 xl_B_ShowRingsModel_takes_at hB.1 dX12_places_80 ?_
        replace hB := hB.2
        refine lv_iadd hx hb dX12_places_81 ?_
        refine lv_icmp_lt (tgt := 88) hx hb dX12_places_82 (by decide) (fun hc => ?_) (fun hc => ?_)
        · replace hB := hB.1 hc
          refine lv_iload hx hb dX12_places_88 (lv_at hl 6 rfl) ?_
          refine lv_iconst (v := (1 : Int32)) hx hb dX12_places_90 (by decide) ?_
          refine lv_aload_n hx hb dX12_places_91 rfl (lv_at hl 1 rfl) ?_
          refine xr_getr X hw (xf_X12_173 X) 0 xl_B_ShowRingsModel_at rfl dX12_places_92 ?_
          refine lv_iload hx hb dX12_places_95 (lv_at hl 0 rfl) ?_
          refine xr_iald X hw 52 xl_B_ShowRingsModel_ring_at hB.1 dX12_places_97 ?_
          replace hB := hB.2
          refine lv_ishl hx hb dX12_places_98 ?_
          refine lv_iconst (v := (-1 : Int32)) hx hb dX12_places_99 (by decide) ?_
          refine lv_ixor hx hb dX12_places_100 ?_
          refine lv_iand hx hb dX12_places_101 ?_
          refine lv_topi (fun x9 hx9 => ?_)
          replace hB := hB _ hx9
          refine lv_istore (lv' := [(5, .int x9), (8, .int (σ.1 51 (Int32.toNatClampNeg v7))), (0, .ref (q 0)), (1, .int a1), (2, .int v2), (3, .int v3), (4, .int v4), (6, .int v6), (7, .int v7)]) hx hb dX12_places_102 hl (by decide) rfl (fun ls hl => ?_)
          refine lv_iload hx hb dX12_places_104 (lv_at hl 6 rfl) ?_
          refine lv_iconst (v := (1 : Int32)) hx hb dX12_places_106 (by decide) ?_
          refine lv_aload_n hx hb dX12_places_107 rfl (lv_at hl 2 rfl) ?_
          refine xr_getr X hw (xf_X12_176 X) 0 xl_B_ShowRingsModel_at rfl dX12_places_108 ?_
          refine lv_iload hx hb dX12_places_111 (lv_at hl 1 rfl) ?_
          refine xr_iald X hw 53 xl_B_ShowRingsModel_judge_at hB.1 dX12_places_113 ?_
          replace hB := hB.2
          refine lv_ishl hx hb dX12_places_114 ?_
          refine lv_iconst (v := (-1 : Int32)) hx hb dX12_places_115 (by decide) ?_
          refine lv_ixor hx hb dX12_places_116 ?_
          refine lv_iand hx hb dX12_places_117 ?_
          refine lv_topi (fun x10 hx10 => ?_)
          replace hB := hB _ hx10
          refine lv_istore (lv' := [(4, .int x10), (5, .int x9), (8, .int (σ.1 51 (Int32.toNatClampNeg v7))), (0, .ref (q 0)), (1, .int a1), (2, .int v2), (3, .int v3), (6, .int v6), (7, .int v7)]) hx hb dX12_places_118 hl (by decide) rfl (fun ls hl => ?_)
          refine lv_iload hx hb dX12_places_120 (lv_at hl 7 rfl) ?_
          refine lv_if_ne (tgt := 142) hx hb dX12_places_122 (by decide) (fun hc => ?_) (fun hc => ?_)
          · replace hB := hB.1 hc
            refine lv_iconst (v := (1 : Int32)) hx hb dX12_places_142 (by decide) ?_
            refine lv_goto (tgt := 147) hx hb dX12_places_143 (by decide) ?_
            refine lv_istore (lv' := [(6, .int (1 : Int32)), (4, .int x10), (5, .int x9), (8, .int (σ.1 51 (Int32.toNatClampNeg v7))), (0, .ref (q 0)), (1, .int a1), (2, .int v2), (3, .int v3), (7, .int v7)]) hx hb dX12_places_147 hl (by decide) rfl (fun ls hl => ?_)
            refine lv_iinc (v := (v7 + (1 : Int32))) (lv' := [(7, .int (v7 + (1 : Int32))), (6, .int (1 : Int32)), (4, .int x10), (5, .int x9), (8, .int (σ.1 51 (Int32.toNatClampNeg v7))), (0, .ref (q 0)), (1, .int a1), (2, .int v2), (3, .int v3)]) hx hb dX12_places_149 hl (k := 8) rfl rfl (by decide) rfl (fun ls hl => ?_)
            refine lv_goto (tgt := 33) hx hb dX12_places_152 (by decide) ?_
            exact hB _ _ _ hw (lv_sub hl [5, 6, 7, 8, 2, 3, 1, 0] rfl)
          · replace hB := hB.2 hc
            refine lv_aload_n hx hb dX12_places_125 rfl (lv_at hl 3 rfl) ?_
            refine xr_getr X hw (xf_X12_167 X) 0 xl_B_ShowRingsModel_at rfl dX12_places_126 ?_
            refine lv_iload hx hb dX12_places_129 (lv_at hl 2 rfl) ?_
            refine xr_iald X hw 50 xl_B_ShowRingsModel_handles_at hB.1 dX12_places_131 ?_
            replace hB := hB.2
            refine lv_aload_n hx hb dX12_places_132 rfl (lv_at hl 3 rfl) ?_
            refine xr_getr X hw (xf_X12_167 X) 0 xl_B_ShowRingsModel_at rfl dX12_places_133 ?_
            refine lv_iload_n hx hb dX12_places_136 rfl (lv_at hl 5 rfl) ?_
            refine xr_iald X hw 50 xl_B_ShowRingsModel_handles_at hB.1 dX12_places_137 ?_
            replace hB := hB.2
            refine lv_iand hx hb dX12_places_138 ?_
            refine lv_if_eq (tgt := 146) hx hb dX12_places_139 (by decide) (fun hc => ?_) (fun hc => ?_)
            · replace hB := hB.1 hc
              refine lv_iconst (v := (0 : Int32)) hx hb dX12_places_146 (by decide) ?_
              refine lv_istore (lv' := [(6, .int (0 : Int32)), (4, .int x10), (5, .int x9), (8, .int (σ.1 51 (Int32.toNatClampNeg v7))), (0, .ref (q 0)), (1, .int a1), (2, .int v2), (3, .int v3), (7, .int v7)]) hx hb dX12_places_147 hl (by decide) rfl (fun ls hl => ?_)
              refine lv_iinc (v := (v7 + (1 : Int32))) (lv' := [(7, .int (v7 + (1 : Int32))), (6, .int (0 : Int32)), (4, .int x10), (5, .int x9), (8, .int (σ.1 51 (Int32.toNatClampNeg v7))), (0, .ref (q 0)), (1, .int a1), (2, .int v2), (3, .int v3)]) hx hb dX12_places_149 hl (k := 8) rfl rfl (by decide) rfl (fun ls hl => ?_)
              refine lv_goto (tgt := 33) hx hb dX12_places_152 (by decide) ?_
              exact hB _ _ _ hw (lv_sub hl [5, 6, 7, 8, 2, 3, 1, 0] rfl)
            · replace hB := hB.2 hc
              refine lv_iconst (v := (1 : Int32)) hx hb dX12_places_142 (by decide) ?_
              refine lv_goto (tgt := 147) hx hb dX12_places_143 (by decide) ?_
              refine lv_istore (lv' := [(6, .int (1 : Int32)), (4, .int x10), (5, .int x9), (8, .int (σ.1 51 (Int32.toNatClampNeg v7))), (0, .ref (q 0)), (1, .int a1), (2, .int v2), (3, .int v3), (7, .int v7)]) hx hb dX12_places_147 hl (by decide) rfl (fun ls hl => ?_)
              refine lv_iinc (v := (v7 + (1 : Int32))) (lv' := [(7, .int (v7 + (1 : Int32))), (6, .int (1 : Int32)), (4, .int x10), (5, .int x9), (8, .int (σ.1 51 (Int32.toNatClampNeg v7))), (0, .ref (q 0)), (1, .int a1), (2, .int v2), (3, .int v3)]) hx hb dX12_places_149 hl (k := 8) rfl rfl (by decide) rfl (fun ls hl => ?_)
              refine lv_goto (tgt := 33) hx hb dX12_places_152 (by decide) ?_
              exact hB _ _ _ hw (lv_sub hl [5, 6, 7, 8, 2, 3, 1, 0] rfl)
        · replace hB := hB.2 hc
          refine lv_goto (tgt := 149) hx hb dX12_places_85 (by decide) ?_
          refine lv_iinc (v := (v7 + (1 : Int32))) (lv' := [(7, .int (v7 + (1 : Int32))), (8, .int (σ.1 51 (Int32.toNatClampNeg v7))), (0, .ref (q 0)), (1, .int a1), (2, .int v2), (3, .int v3), (4, .int v4), (5, .int v5), (6, .int v6)]) hx hb dX12_places_149 hl (k := 8) rfl rfl (by decide) rfl (fun ls hl => ?_)
          refine lv_goto (tgt := 33) hx hb dX12_places_152 (by decide) ?_
          exact hB _ _ _ hw (lv_sub hl [2, 3, 4, 5, 6, 7, 8, 0] rfl))
  unfold xb_X12_places_e at hB
  refine lv_aload_n hx hb dX12_places_0 rfl (lv_at hl 0 rfl) ?_
  refine xr_getr X hw (xf_X12_170 X) 0 xl_B_ShowRingsModel_at rfl dX12_places_1 ?_
  refine lv_iload_n hx hb dX12_places_4 rfl (lv_at hl 1 rfl) ?_
  refine xr_iald X hw 51 xl_B_ShowRingsModel_order_at hB.1 dX12_places_5 ?_
  replace hB := hB.2
  refine lv_istore_n (lv' := [(2, .int (σ.1 51 (Int32.toNatClampNeg a1))), (0, .ref (q 0)), (1, .int a1)]) hx hb dX12_places_6 rfl hl (by decide) rfl (fun ls hl => ?_)
  refine lv_iconst (v := (0 : Int32)) hx hb dX12_places_7 (by decide) ?_
  refine lv_istore_n (lv' := [(3, .int (0 : Int32)), (2, .int (σ.1 51 (Int32.toNatClampNeg a1))), (0, .ref (q 0)), (1, .int a1)]) hx hb dX12_places_8 rfl hl (by decide) rfl (fun ls hl => ?_)
  exact hB _ _ _ hw (lv_sub hl [2, 3, 1, 0] rfl)
set_option maxRecDepth 100000 in
set_option maxHeartbeats 4000000 in
theorem xc_X12_nextOrder (l : Launch) (D : va_G) (cy : Nat → ClassId) (q : Nat → Nat) (σ : xw_M) (a1 : Int32) {Z : Int32 → xw_M → Prop} (hU : xu_X12_nextOrder σ a1 Z) : xr_CI l yX12_nextOrder cX12_nextOrder 7 .boolean { frames := 0, cells := 0, slots := 0, locals := 0 } D cy xl_B q σ [.ref (q 0), .int a1] Z := by
  refine xr_CI.of RX12 rfl (by decide) (Nat.le_of_ble_eq_true rfl) (fun p e s m below meth c X hw hr hk ls hl => ?_)
  have hx := X.1
  have hb := X.2.1
  have hl : lv_has ls 7 [(0, .ref (q 0)), (1, .int a1)] := hl
  have hB := hU (fun (σ : xw_M) (v2 : Int32) => ∀ (H : Heap) (locs : List Loc) (ls : Array Slot), xr_H D cy xl_B q s σ H locs → lv_has ls 7 [(0, .ref (q 0)), (1, .int a1), (2, .int v2)] → W p l e ({ frames := 0, cells := 0, slots := 0, locals := 0 } : Room) s m ([.ref (q 0), .int a1] : List Value).toArray below meth c H locs 0 0 (MQ below (va_Qi Z (xr_po D cy xl_B q) (xw_A xl_B q s.heap.size)) ([.ref (q 0), .int a1] : List Value).toArray s 0 0 (xw_A xl_B q s.heap.size)) (F0 m 4 ls []))
    (fun (σ : xw_M) (v2 : Int32) (v3 : Int32) => ∀ (H : Heap) (locs : List Loc) (ls : Array Slot), xr_H D cy xl_B q s σ H locs → lv_has ls 7 [(0, .ref (q 0)), (1, .int a1), (2, .int v2), (3, .int v3)] → W p l e ({ frames := 0, cells := 0, slots := 0, locals := 0 } : Room) s m ([.ref (q 0), .int a1] : List Value).toArray below meth c H locs 0 0 (MQ below (va_Qi Z (xr_po D cy xl_B q) (xw_A xl_B q s.heap.size)) ([.ref (q 0), .int a1] : List Value).toArray s 0 0 (xw_A xl_B q s.heap.size)) (F0 m 41 ls []))
    (fun (σ : xw_M) (v5 : Int32) (v6 : Int32) => ∀ (H : Heap) (locs : List Loc) (ls : Array Slot), xr_H D cy xl_B q s σ H locs → lv_has ls 7 [(0, .ref (q 0)), (5, .int v5), (6, .int v6)] → W p l e ({ frames := 0, cells := 0, slots := 0, locals := 0 } : Room) s m ([.ref (q 0), .int a1] : List Value).toArray below meth c H locs 0 0 (MQ below (va_Qi Z (xr_po D cy xl_B q) (xw_A xl_B q s.heap.size)) ([.ref (q 0), .int a1] : List Value).toArray s 0 0 (xw_A xl_B q s.heap.size)) (F0 m 100 ls []))
    (by
    intro σ v2 hB H locs ls hw hl
    unfold xb_X12_nextOrder_4 at hB
    refine lv_iload_n hx hb dX12_nextOrder_4 rfl (lv_at hl 2 rfl) ?_
    refine lv_if_lt (tgt := 31) hx hb dX12_nextOrder_5 (by decide) (fun hc => ?_) (fun hc => ?_)
    · replace hB := hB.1 hc
      refine lv_iload_n hx hb dX12_nextOrder_31 rfl (lv_at hl 2 rfl) ?_
      refine lv_if_ge (tgt := 37) hx hb dX12_nextOrder_32 (by decide) (fun hc => ?_) (fun hc => ?_)
      · replace hB := hB.1 hc
        refine lv_iload_n hx hb dX12_nextOrder_37 rfl (lv_at hl 1 rfl) ?_
        refine lv_iconst (v := (1 : Int32)) hx hb dX12_nextOrder_38 (by decide) ?_
        refine lv_isub hx hb dX12_nextOrder_39 ?_
        refine lv_istore_n (lv' := [(3, .int (a1 - (1 : Int32))), (0, .ref (q 0)), (1, .int a1), (2, .int v2)]) hx hb dX12_nextOrder_40 rfl hl (by decide) rfl (fun ls hl => ?_)
        exact hB _ _ _ hw (lv_sub hl [1, 2, 3, 0] rfl)
      · replace hB := hB.2 hc
        refine lv_iconst (v := (0 : Int32)) hx hb dX12_nextOrder_35 (by decide) ?_
        exact xr_zret X hw hr hk hB dX12_nextOrder_36
    · replace hB := hB.2 hc
      refine lv_aload_n hx hb dX12_nextOrder_8 rfl (lv_at hl 0 rfl) ?_
      refine xr_getr X hw (xf_X12_170 X) 0 xl_B_ShowRingsModel_at rfl dX12_nextOrder_9 ?_
      refine lv_iload_n hx hb dX12_nextOrder_12 rfl (lv_at hl 2 rfl) ?_
      refine xr_iald X hw 51 xl_B_ShowRingsModel_order_at hB.1 dX12_nextOrder_13 ?_
      replace hB := hB.2
      refine lv_aload_n hx hb dX12_nextOrder_14 rfl (lv_at hl 0 rfl) ?_
      refine xr_getr X hw (xf_X12_170 X) 0 xl_B_ShowRingsModel_at rfl dX12_nextOrder_15 ?_
      refine lv_iload_n hx hb dX12_nextOrder_18 rfl (lv_at hl 2 rfl) ?_
      refine lv_iconst (v := (1 : Int32)) hx hb dX12_nextOrder_19 (by decide) ?_
      refine lv_iadd hx hb dX12_nextOrder_20 ?_
      refine xr_iald X hw 51 xl_B_ShowRingsModel_order_at hB.1 dX12_nextOrder_21 ?_
      replace hB := hB.2
      refine lv_icmp_le (tgt := 31) hx hb dX12_nextOrder_22 (by decide) (fun hc => ?_) (fun hc => ?_)
      · replace hB := hB.1 hc
        refine lv_iload_n hx hb dX12_nextOrder_31 rfl (lv_at hl 2 rfl) ?_
        refine lv_if_ge (tgt := 37) hx hb dX12_nextOrder_32 (by decide) (fun hc => ?_) (fun hc => ?_)
        · replace hB := hB.1 hc
          refine lv_iload_n hx hb dX12_nextOrder_37 rfl (lv_at hl 1 rfl) ?_
          refine lv_iconst (v := (1 : Int32)) hx hb dX12_nextOrder_38 (by decide) ?_
          refine lv_isub hx hb dX12_nextOrder_39 ?_
          refine lv_istore_n (lv' := [(3, .int (a1 - (1 : Int32))), (0, .ref (q 0)), (1, .int a1), (2, .int v2)]) hx hb dX12_nextOrder_40 rfl hl (by decide) rfl (fun ls hl => ?_)
          exact hB _ _ _ hw (lv_sub hl [1, 2, 3, 0] rfl)
        · replace hB := hB.2 hc
          refine lv_iconst (v := (0 : Int32)) hx hb dX12_nextOrder_35 (by decide) ?_
          exact xr_zret X hw hr hk hB dX12_nextOrder_36
      · replace hB := hB.2 hc
        refine lv_iinc (v := (v2 + (-1 : Int32))) (lv' := [(2, .int (v2 + (-1 : Int32))), (0, .ref (q 0)), (1, .int a1)]) hx hb dX12_nextOrder_25 hl (k := 2) rfl rfl (by decide) rfl (fun ls hl => ?_)
        refine lv_goto (tgt := 4) hx hb dX12_nextOrder_28 (by decide) ?_
        exact hB _ _ _ hw (lv_sub hl [1, 2, 0] rfl))
    (by
    intro σ v2 v3 hB H locs ls hw hl
    unfold xb_X12_nextOrder_41 at hB
    refine lv_aload_n hx hb dX12_nextOrder_41 rfl (lv_at hl 0 rfl) ?_
    refine xr_getr X hw (xf_X12_170 X) 0 xl_B_ShowRingsModel_at rfl dX12_nextOrder_42 ?_
    refine lv_iload_n hx hb dX12_nextOrder_45 rfl (lv_at hl 3 rfl) ?_
    refine xr_iald X hw 51 xl_B_ShowRingsModel_order_at hB.1 dX12_nextOrder_46 ?_
    replace hB := hB.2
    refine lv_aload_n hx hb dX12_nextOrder_47 rfl (lv_at hl 0 rfl) ?_
    refine xr_getr X hw (xf_X12_170 X) 0 xl_B_ShowRingsModel_at rfl dX12_nextOrder_48 ?_
    refine lv_iload_n hx hb dX12_nextOrder_51 rfl (lv_at hl 2 rfl) ?_
    refine xr_iald X hw 51 xl_B_ShowRingsModel_order_at hB.1 dX12_nextOrder_52 ?_
    replace hB := hB.2
    refine lv_icmp_ge (tgt := 62) hx hb dX12_nextOrder_53 (by decide) (fun hc => ?_) (fun hc => ?_)
    · replace hB := hB.1 hc
      refine lv_aload_n hx hb dX12_nextOrder_62 rfl (lv_at hl 0 rfl) ?_
      refine xr_getr X hw (xf_X12_170 X) 0 xl_B_ShowRingsModel_at rfl dX12_nextOrder_63 ?_
      refine lv_iload_n hx hb dX12_nextOrder_66 rfl (lv_at hl 2 rfl) ?_
      refine xr_iald X hw 51 xl_B_ShowRingsModel_order_at hB.1 dX12_nextOrder_67 ?_
      replace hB := hB.2
      refine lv_istore (lv' := [(4, .int (σ.1 51 (Int32.toNatClampNeg v2))), (0, .ref (q 0)), (1, .int a1), (2, .int v2), (3, .int v3)]) hx hb dX12_nextOrder_68 hl (by decide) rfl (fun ls hl => ?_)
      refine lv_aload_n hx hb dX12_nextOrder_70 rfl (lv_at hl 1 rfl) ?_
      refine xr_getr X hw (xf_X12_170 X) 0 xl_B_ShowRingsModel_at rfl dX12_nextOrder_71 ?_
      refine lv_iload_n hx hb dX12_nextOrder_74 rfl (lv_at hl 3 rfl) ?_
      refine lv_aload_n hx hb dX12_nextOrder_75 rfl (lv_at hl 1 rfl) ?_
      refine xr_getr X hw (xf_X12_170 X) 0 xl_B_ShowRingsModel_at rfl dX12_nextOrder_76 ?_
      refine lv_iload_n hx hb dX12_nextOrder_79 rfl (lv_at hl 4 rfl) ?_
      refine xr_iald X hw 51 xl_B_ShowRingsModel_order_at hB.1 dX12_nextOrder_80 ?_
      replace hB := hB.2
      refine xr_iast X hw 51 xl_B_ShowRingsModel_order_at hB.1 dX12_nextOrder_81 hB.2 (fun σ1 H locs hB hw => ?_)
      refine lv_aload_n hx hb dX12_nextOrder_82 rfl (lv_at hl 1 rfl) ?_
      refine xr_getr X hw (xf_X12_170 X) 0 xl_B_ShowRingsModel_at rfl dX12_nextOrder_83 ?_
      refine lv_iload_n hx hb dX12_nextOrder_86 rfl (lv_at hl 4 rfl) ?_
      refine lv_iload hx hb dX12_nextOrder_87 (lv_at hl 0 rfl) ?_
      refine xr_iast X hw 51 xl_B_ShowRingsModel_order_at hB.1 dX12_nextOrder_89 hB.2 (fun σ2 H locs hB hw => ?_)
      refine lv_iload_n hx hb dX12_nextOrder_90 rfl (lv_at hl 3 rfl) ?_
      refine lv_iconst (v := (1 : Int32)) hx hb dX12_nextOrder_91 (by decide) ?_
      refine lv_iadd hx hb dX12_nextOrder_92 ?_
      refine lv_istore (lv' := [(5, .int (v2 + (1 : Int32))), (4, .int (σ.1 51 (Int32.toNatClampNeg v2))), (0, .ref (q 0)), (1, .int a1), (2, .int v2), (3, .int v3)]) hx hb dX12_nextOrder_93 hl (by decide) rfl (fun ls hl => ?_)
      refine lv_iload_n hx hb dX12_nextOrder_95 rfl (lv_at hl 3 rfl) ?_
      refine lv_iconst (v := (1 : Int32)) hx hb dX12_nextOrder_96 (by decide) ?_
      refine lv_isub hx hb dX12_nextOrder_97 ?_
      refine lv_istore (lv' := [(6, .int (a1 - (1 : Int32))), (5, .int (v2 + (1 : Int32))), (4, .int (σ.1 51 (Int32.toNatClampNeg v2))), (0, .ref (q 0)), (1, .int a1), (2, .int v2), (3, .int v3)]) hx hb dX12_nextOrder_98 hl (by decide) rfl (fun ls hl => ?_)
      exact hB _ _ _ hw (lv_sub hl [3, 1, 0] rfl)
    · replace hB := hB.2 hc
      refine lv_iinc (v := (v3 + (-1 : Int32))) (lv' := [(3, .int (v3 + (-1 : Int32))), (0, .ref (q 0)), (1, .int a1), (2, .int v2)]) hx hb dX12_nextOrder_56 hl (k := 3) rfl rfl (by decide) rfl (fun ls hl => ?_)
      refine lv_goto (tgt := 41) hx hb dX12_nextOrder_59 (by decide) ?_
      exact hB _ _ _ hw (lv_sub hl [1, 2, 3, 0] rfl))
    (by
    intro σ v5 v6 hB H locs ls hw hl
    unfold xb_X12_nextOrder_100 at hB
    refine lv_iload hx hb dX12_nextOrder_100 (lv_at hl 1 rfl) ?_
    refine lv_iload hx hb dX12_nextOrder_102 (lv_at hl 2 rfl) ?_
    refine lv_icmp_ge (tgt := 148) hx hb dX12_nextOrder_104 (by decide) (fun hc => ?_) (fun hc => ?_)
    · replace hB := hB.1 hc
      refine lv_iconst (v := (1 : Int32)) hx hb dX12_nextOrder_148 (by decide) ?_
      exact xr_zret X hw hr hk hB dX12_nextOrder_149
    · replace hB := hB.2 hc
      refine lv_aload_n hx hb dX12_nextOrder_107 rfl (lv_at hl 0 rfl) ?_
      refine xr_getr X hw (xf_X12_170 X) 0 xl_B_ShowRingsModel_at rfl dX12_nextOrder_108 ?_
      refine lv_iload hx hb dX12_nextOrder_111 (lv_at hl 1 rfl) ?_
      refine xr_iald X hw 51 xl_B_ShowRingsModel_order_at hB.1 dX12_nextOrder_113 ?_
      replace hB := hB.2
      refine lv_istore (lv' := [(4, .int (σ.1 51 (Int32.toNatClampNeg v5))), (0, .ref (q 0)), (5, .int v5), (6, .int v6)]) hx hb dX12_nextOrder_114 hl (by decide) rfl (fun ls hl => ?_)
      refine lv_aload_n hx hb dX12_nextOrder_116 rfl (lv_at hl 1 rfl) ?_
      refine xr_getr X hw (xf_X12_170 X) 0 xl_B_ShowRingsModel_at rfl dX12_nextOrder_117 ?_
      refine lv_iload hx hb dX12_nextOrder_120 (lv_at hl 2 rfl) ?_
      refine lv_aload_n hx hb dX12_nextOrder_122 rfl (lv_at hl 1 rfl) ?_
      refine xr_getr X hw (xf_X12_170 X) 0 xl_B_ShowRingsModel_at rfl dX12_nextOrder_123 ?_
      refine lv_iload hx hb dX12_nextOrder_126 (lv_at hl 3 rfl) ?_
      refine xr_iald X hw 51 xl_B_ShowRingsModel_order_at hB.1 dX12_nextOrder_128 ?_
      replace hB := hB.2
      refine xr_iast X hw 51 xl_B_ShowRingsModel_order_at hB.1 dX12_nextOrder_129 hB.2 (fun σ3 H locs hB hw => ?_)
      refine lv_aload_n hx hb dX12_nextOrder_130 rfl (lv_at hl 1 rfl) ?_
      refine xr_getr X hw (xf_X12_170 X) 0 xl_B_ShowRingsModel_at rfl dX12_nextOrder_131 ?_
      refine lv_iload hx hb dX12_nextOrder_134 (lv_at hl 3 rfl) ?_
      refine lv_iload hx hb dX12_nextOrder_136 (lv_at hl 0 rfl) ?_
      refine xr_iast X hw 51 xl_B_ShowRingsModel_order_at hB.1 dX12_nextOrder_138 hB.2 (fun σ4 H locs hB hw => ?_)
      refine lv_iinc (v := (v5 + (1 : Int32))) (lv' := [(5, .int (v5 + (1 : Int32))), (4, .int (σ.1 51 (Int32.toNatClampNeg v5))), (0, .ref (q 0)), (6, .int v6)]) hx hb dX12_nextOrder_139 hl (k := 2) rfl rfl (by decide) rfl (fun ls hl => ?_)
      refine lv_iinc (v := (v6 + (-1 : Int32))) (lv' := [(6, .int (v6 + (-1 : Int32))), (5, .int (v5 + (1 : Int32))), (4, .int (σ.1 51 (Int32.toNatClampNeg v5))), (0, .ref (q 0))]) hx hb dX12_nextOrder_142 hl (k := 3) rfl rfl (by decide) rfl (fun ls hl => ?_)
      refine lv_goto (tgt := 100) hx hb dX12_nextOrder_145 (by decide) ?_
      exact hB _ _ _ hw (lv_sub hl [3, 1, 0] rfl))
  unfold xb_X12_nextOrder_e at hB
  refine lv_iload_n hx hb dX12_nextOrder_0 rfl (lv_at hl 1 rfl) ?_
  refine lv_iconst (v := (2 : Int32)) hx hb dX12_nextOrder_1 (by decide) ?_
  refine lv_isub hx hb dX12_nextOrder_2 ?_
  refine lv_istore_n (lv' := [(2, .int (a1 - (2 : Int32))), (0, .ref (q 0)), (1, .int a1)]) hx hb dX12_nextOrder_3 rfl hl (by decide) rfl (fun ls hl => ?_)
  exact hB _ _ _ hw (lv_sub hl [1, 2, 0] rfl)
