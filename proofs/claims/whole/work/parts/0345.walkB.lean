theorem xm_X12_expression : xr_MW yX12_expression cX12_expression 5 none 0 := ⟨xt_5_231, xt_1_13, by decide, by decide, by decide +kernel⟩
theorem xf_X12_269 {p : Program} {s : State} {m : MethodId} {args : Array Value} {c : Code} {cc : ByteArray} {nL : Nat} {D : va_G} {cy : Nat → ClassId} {lay : List xw_E} {q : Nat → Nat} (X : xr_X p s m args c cc nL RX12 D cy lay q) : xr_F args s RX12 269 12 19 := ⟨RX12, TX12, 77, tyX12, rfl, by decide, fun w h => X.2.2.2.2.1 w (xt_inX12 w h), tyX12_ok, nmX12, Or.inl (X.2.2.2.2.1 _ xt_4_191)⟩
theorem xf_X12_64 {p : Program} {s : State} {m : MethodId} {args : Array Value} {c : Code} {cc : ByteArray} {nL : Nat} {D : va_G} {cy : Nat → ClassId} {lay : List xw_E} {q : Nat → Nat} (X : xr_X p s m args c cc nL RX12 D cy lay q) : xr_F args s RX12 64 12 28 := ⟨RX12, TX12, 77, tyX12, rfl, by decide, fun w h => X.2.2.2.2.1 w (xt_inX12 w h), tyX12_ok, nmX12, Or.inl (X.2.2.2.2.1 _ xt_4_200)⟩
theorem xf_X12_67 {p : Program} {s : State} {m : MethodId} {args : Array Value} {c : Code} {cc : ByteArray} {nL : Nat} {D : va_G} {cy : Nat → ClassId} {lay : List xw_E} {q : Nat → Nat} (X : xr_X p s m args c cc nL RX12 D cy lay q) : xr_F args s RX12 67 12 29 := ⟨RX12, TX12, 77, tyX12, rfl, by decide, fun w h => X.2.2.2.2.1 w (xt_inX12 w h), tyX12_ok, nmX12, Or.inl (X.2.2.2.2.1 _ xt_4_201)⟩
theorem xf_X12_70 {p : Program} {s : State} {m : MethodId} {args : Array Value} {c : Code} {cc : ByteArray} {nL : Nat} {D : va_G} {cy : Nat → ClassId} {lay : List xw_E} {q : Nat → Nat} (X : xr_X p s m args c cc nL RX12 D cy lay q) : xr_F args s RX12 70 12 30 := ⟨RX12, TX12, 77, tyX12, rfl, by decide, fun w h => X.2.2.2.2.1 w (xt_inX12 w h), tyX12_ok, nmX12, Or.inl (X.2.2.2.2.1 _ xt_4_202)⟩
theorem xf_X12_73 {p : Program} {s : State} {m : MethodId} {args : Array Value} {c : Code} {cc : ByteArray} {nL : Nat} {D : va_G} {cy : Nat → ClassId} {lay : List xw_E} {q : Nat → Nat} (X : xr_X p s m args c cc nL RX12 D cy lay q) : xr_F args s RX12 73 12 31 := ⟨RX12, TX12, 77, tyX12, rfl, by decide, fun w h => X.2.2.2.2.1 w (xt_inX12 w h), tyX12_ok, nmX12, Or.inl (X.2.2.2.2.1 _ xt_4_203)⟩
theorem xf_X12_76 {p : Program} {s : State} {m : MethodId} {args : Array Value} {c : Code} {cc : ByteArray} {nL : Nat} {D : va_G} {cy : Nat → ClassId} {lay : List xw_E} {q : Nat → Nat} (X : xr_X p s m args c cc nL RX12 D cy lay q) : xr_F args s RX12 76 12 32 := ⟨RX12, TX12, 77, tyX12, rfl, by decide, fun w h => X.2.2.2.2.1 w (xt_inX12 w h), tyX12_ok, nmX12, Or.inl (X.2.2.2.2.1 _ xt_4_204)⟩
theorem xf_X12_79 {p : Program} {s : State} {m : MethodId} {args : Array Value} {c : Code} {cc : ByteArray} {nL : Nat} {D : va_G} {cy : Nat → ClassId} {lay : List xw_E} {q : Nat → Nat} (X : xr_X p s m args c cc nL RX12 D cy lay q) : xr_F args s RX12 79 12 33 := ⟨RX12, TX12, 77, tyX12, rfl, by decide, fun w h => X.2.2.2.2.1 w (xt_inX12 w h), tyX12_ok, nmX12, Or.inl (X.2.2.2.2.1 _ xt_4_205)⟩
set_option maxRecDepth 100000 in
set_option maxHeartbeats 4000000 in
theorem xc_X12_relation (l : Launch) (D : va_G) (cy : Nat → ClassId) (q : Nat → Nat) (σ : xw_M) (a1 : Int32) {Z : xw_M → Prop} (hU : xu_X12_relation σ a1 Z) : xr_CV l yX12_relation cX12_relation 6 { frames := 3, cells := 0, slots := 0, locals := 68 } D cy xl_B q σ [.ref (q 0), .int a1] Z := by
  refine xr_CV.of RX12 rfl (by decide) (Nat.le_of_ble_eq_true rfl) (fun p e s m below meth c X hw hr hk ls hl => ?_)
  have hx := X.1
  have hb := X.2.1
  have hl : lv_has ls 6 [(0, .ref (q 0)), (1, .int a1)] := hl
  have hB := hU (fun (σ : xw_M) (s0 : Int32) (v2 : Int32) => ∀ (H : Heap) (locs : List Loc) (ls : Array Slot), xr_H D cy xl_B q s σ H locs → lv_has ls 6 [(0, .ref (q 0)), (1, .int a1), (2, .int v2)] → W p l e ({ frames := 3, cells := 0, slots := 0, locals := 68 } : Room) s m ([.ref (q 0), .int a1] : List Value).toArray below meth c H locs 0 0 (MQ below (va_Qv Z (xr_po D cy xl_B q) (xw_A xl_B q s.heap.size)) ([.ref (q 0), .int a1] : List Value).toArray s 0 0 (xw_A xl_B q s.heap.size)) (F0 m 32 ls [.int s0]))
    (fun (σ : xw_M) (v2 : Int32) (v3 : Int32) => ∀ (H : Heap) (locs : List Loc) (ls : Array Slot), xr_H D cy xl_B q s σ H locs → lv_has ls 6 [(0, .ref (q 0)), (1, .int a1), (2, .int v2), (3, .int v3)] → W p l e ({ frames := 3, cells := 0, slots := 0, locals := 68 } : Room) s m ([.ref (q 0), .int a1] : List Value).toArray below meth c H locs 0 0 (MQ below (va_Qv Z (xr_po D cy xl_B q) (xw_A xl_B q s.heap.size)) ([.ref (q 0), .int a1] : List Value).toArray s 0 0 (xw_A xl_B q s.heap.size)) (F0 m 54 ls []))
    (by
    intro σ s0 v2 hB H locs ls hw hl
    unfold xb_X12_relation_32 at hB
    refine lv_istore_n (lv' := [(3, .int s0), (0, .ref (q 0)), (1, .int a1), (2, .int v2)]) hx hb dX12_relation_32 rfl hl (by decide) rfl (fun ls hl => ?_)
    refine lv_aload_n hx hb dX12_relation_33 rfl (lv_at hl 1 rfl) ?_
    refine xr_geti X hw (xf_X12_236 X) 0 xl_B_ShowRingsModel_at rfl dX12_relation_34 ?_
    refine lv_if_ne (tgt := 54) hx hb dX12_relation_37 (by decide) (fun hc => ?_) (fun hc => ?_)
    · replace hB := hB.1 hc
      exact hB _ _ _ hw (lv_sub hl [1, 2, 3, 0] rfl)
    · replace hB := hB.2 hc
      refine lv_iload_n hx hb dX12_relation_40 rfl (lv_at hl 0 rfl) ?_
      refine lv_if_lt (tgt := 49) hx hb dX12_relation_41 (by decide) (fun hc => ?_) (fun hc => ?_)
      · replace hB := hB.1 hc
        refine lv_aload_n hx hb dX12_relation_49 rfl (lv_at hl 1 rfl) ?_
        refine lv_iconst (v := (1 : Int32)) hx hb dX12_relation_50 (by decide) ?_
        refine xr_v hw (xr_runV (As := [.int (1 : Int32)]) (rest := []) X hw 0 (xc_X12_fail l D cy q σ (1 : Int32) hB _) xm_X12_fail xt_5_212 xt_5_214 xt_p_35 ⟨Nat.le_of_ble_eq_true rfl, Nat.le_of_ble_eq_true rfl⟩ xl_B_ShowRingsModel_at rfl rfl rfl rfl hl.1 (Nat.le_of_ble_eq_true rfl) dX12_relation_51 ⟨Nat.zero_le _, Nat.zero_le _⟩) (fun σ2 H locs hB hw => ?_)
        exact hB _ _ _ hw (lv_sub hl [1, 2, 3, 0] rfl)
      · replace hB := hB.2 hc
        refine lv_iload_n hx hb dX12_relation_44 rfl (lv_at hl 0 rfl) ?_
        refine lv_iconst (v := (3 : Int32)) hx hb dX12_relation_45 (by decide) ?_
        refine lv_icmp_le (tgt := 54) hx hb dX12_relation_46 (by decide) (fun hc => ?_) (fun hc => ?_)
        · replace hB := hB.1 hc
          exact hB _ _ _ hw (lv_sub hl [1, 2, 3, 0] rfl)
        · replace hB := hB.2 hc
          refine lv_aload_n hx hb dX12_relation_49 rfl (lv_at hl 1 rfl) ?_
          refine lv_iconst (v := (1 : Int32)) hx hb dX12_relation_50 (by decide) ?_
          refine xr_v hw (xr_runV (As := [.int (1 : Int32)]) (rest := []) X hw 0 (xc_X12_fail l D cy q σ (1 : Int32) hB _) xm_X12_fail xt_5_212 xt_5_214 xt_p_35 ⟨Nat.le_of_ble_eq_true rfl, Nat.le_of_ble_eq_true rfl⟩ xl_B_ShowRingsModel_at rfl rfl rfl rfl hl.1 (Nat.le_of_ble_eq_true rfl) dX12_relation_51 ⟨Nat.zero_le _, Nat.zero_le _⟩) (fun σ3 H locs hB hw => ?_)
          exact hB _ _ _ hw (lv_sub hl [1, 2, 3, 0] rfl))
    (by
    intro σ v2 v3 hB H locs ls hw hl
    unfold xb_X12_relation_54 at hB
    refine lv_aload_n hx hb dX12_relation_54 rfl (lv_at hl 0 rfl) ?_
    refine xr_v hw (xr_runV (As := []) (rest := []) X hw 0 (xc_X12_next l D cy q σ hB _) xm_X12_next xt_5_216 xt_5_218 xt_p_36 ⟨Nat.le_of_ble_eq_true rfl, Nat.le_of_ble_eq_true rfl⟩ xl_B_ShowRingsModel_at rfl rfl rfl rfl hl.1 (Nat.le_of_ble_eq_true rfl) dX12_relation_55 ⟨Nat.zero_le _, Nat.zero_le _⟩) (fun σ4 H locs hB hw => ?_)
    refine lv_aload_n hx hb dX12_relation_58 rfl (lv_at hl 0 rfl) ?_
    refine xr_geti X hw (xf_X12_272 X) 0 xl_B_ShowRingsModel_at rfl dX12_relation_59 ?_
    refine lv_istore (lv' := [(4, .int (σ4.1 0 34)), (0, .ref (q 0)), (1, .int a1), (2, .int v2), (3, .int v3)]) hx hb dX12_relation_62 hl (by decide) rfl (fun ls hl => ?_)
    refine lv_aload_n hx hb dX12_relation_64 rfl (lv_at hl 1 rfl) ?_
    refine xr_v hw (xr_runV (As := []) (rest := []) X hw 0 (xc_X12_expression l D cy q σ4 hB _) xm_X12_expression xt_5_228 xt_5_230 xt_p_39 ⟨Nat.le_of_ble_eq_true rfl, Nat.le_of_ble_eq_true rfl⟩ xl_B_ShowRingsModel_at rfl rfl rfl rfl hl.1 (Nat.le_of_ble_eq_true rfl) dX12_relation_65 ⟨Nat.zero_le _, Nat.zero_le _⟩) (fun σ5 H locs hB hw => ?_)
    refine lv_aload_n hx hb dX12_relation_68 rfl (lv_at hl 1 rfl) ?_
    refine xr_geti X hw (xf_X12_236 X) 0 xl_B_ShowRingsModel_at rfl dX12_relation_69 ?_
    refine lv_if_le (tgt := 76) hx hb dX12_relation_72 (by decide) (fun hc => ?_) (fun hc => ?_)
    · replace hB := hB.1 hc
      refine lv_sipush (v := (200 : Int32)) hx hb dX12_relation_76 (by decide) ?_
      refine lv_aload_n hx hb dX12_relation_79 rfl (lv_at hl 1 rfl) ?_
      refine xr_geti X hw (xf_X12_269 X) 0 xl_B_ShowRingsModel_at rfl dX12_relation_80 ?_
      refine lv_imul hx hb dX12_relation_83 ?_
      refine lv_aload_n hx hb dX12_relation_84 rfl (lv_at hl 1 rfl) ?_
      refine xr_getr X hw (xf_X12_64 X) 0 xl_B_ShowRingsModel_at rfl dX12_relation_85 ?_
      refine lv_aload_n hx hb dX12_relation_88 rfl (lv_at hl 1 rfl) ?_
      refine xr_geti X hw (xf_X12_269 X) 0 xl_B_ShowRingsModel_at rfl dX12_relation_89 ?_
      refine xr_iald X hw 16 xl_B_ShowRingsModel_relations_at hB.1 dX12_relation_92 ?_
      replace hB := hB.2
      refine lv_iadd hx hb dX12_relation_93 ?_
      refine lv_topi (fun x6 hx6 => ?_)
      replace hB := hB _ hx6
      refine lv_istore (lv' := [(5, .int x6), (4, .int (σ4.1 0 34)), (0, .ref (q 0)), (1, .int a1), (2, .int v2), (3, .int v3)]) hx hb dX12_relation_94 hl (by decide) rfl (fun ls hl => ?_)
      refine lv_aload_n hx hb dX12_relation_96 rfl (lv_at hl 2 rfl) ?_
      refine xr_getr X hw (xf_X12_67 X) 0 xl_B_ShowRingsModel_at rfl dX12_relation_97 ?_
      refine lv_iload hx hb dX12_relation_100 (lv_at hl 0 rfl) ?_
      refine lv_iload_n hx hb dX12_relation_102 rfl (lv_at hl 5 rfl) ?_
      refine xr_iast X hw 17 xl_B_ShowRingsModel_relSort_at hB.1 dX12_relation_103 hB.2 (fun σ7 H locs hB hw => ?_)
      refine lv_aload_n hx hb dX12_relation_104 rfl (lv_at hl 2 rfl) ?_
      refine xr_getr X hw (xf_X12_70 X) 0 xl_B_ShowRingsModel_at rfl dX12_relation_105 ?_
      refine lv_iload hx hb dX12_relation_108 (lv_at hl 0 rfl) ?_
      refine lv_iload_n hx hb dX12_relation_110 rfl (lv_at hl 4 rfl) ?_
      refine xr_iast X hw 18 xl_B_ShowRingsModel_relLeft_at hB.1 dX12_relation_111 hB.2 (fun σ8 H locs hB hw => ?_)
      refine lv_aload_n hx hb dX12_relation_112 rfl (lv_at hl 2 rfl) ?_
      refine xr_getr X hw (xf_X12_73 X) 0 xl_B_ShowRingsModel_at rfl dX12_relation_113 ?_
      refine lv_iload hx hb dX12_relation_116 (lv_at hl 0 rfl) ?_
      refine lv_iload hx hb dX12_relation_118 (lv_at hl 1 rfl) ?_
      refine xr_iast X hw 19 xl_B_ShowRingsModel_relRight_at hB.1 dX12_relation_120 hB.2 (fun σ9 H locs hB hw => ?_)
      refine lv_aload_n hx hb dX12_relation_121 rfl (lv_at hl 2 rfl) ?_
      refine xr_getr X hw (xf_X12_76 X) 0 xl_B_ShowRingsModel_at rfl dX12_relation_122 ?_
      refine lv_iload hx hb dX12_relation_125 (lv_at hl 0 rfl) ?_
      refine lv_aload_n hx hb dX12_relation_127 rfl (lv_at hl 2 rfl) ?_
      refine xr_geti X hw (xf_X12_272 X) 0 xl_B_ShowRingsModel_at rfl dX12_relation_128 ?_
      refine xr_iast X hw 20 xl_B_ShowRingsModel_relEnd_at hB.1 dX12_relation_131 hB.2 (fun σ10 H locs hB hw => ?_)
      refine lv_aload_n hx hb dX12_relation_132 rfl (lv_at hl 2 rfl) ?_
      refine xr_getr X hw (xf_X12_79 X) 0 xl_B_ShowRingsModel_at rfl dX12_relation_133 ?_
      refine lv_iload hx hb dX12_relation_136 (lv_at hl 0 rfl) ?_
      refine lv_iload_n hx hb dX12_relation_138 rfl (lv_at hl 3 rfl) ?_
      refine xr_zast X hw 21 xl_B_ShowRingsModel_relOr_at hB.1 dX12_relation_139 hB.2 (fun σ11 H locs hB hw => ?_)
      refine lv_aload_n hx hb dX12_relation_140 rfl (lv_at hl 2 rfl) ?_
      refine xr_getr X hw (xf_X12_64 X) 0 xl_B_ShowRingsModel_at rfl dX12_relation_141 ?_
      refine lv_aload_n hx hb dX12_relation_144 rfl (lv_at hl 2 rfl) ?_
      refine xr_geti X hw (xf_X12_269 X) 0 xl_B_ShowRingsModel_at rfl dX12_relation_145 ?_
      refine lv_dup2_11 hx hb dX12_relation_148 rfl rfl ?_
      refine xr_iald X hw 16 xl_B_ShowRingsModel_relations_at hB.1 dX12_relation_149 ?_
      replace hB := hB.2
      refine lv_iconst (v := (1 : Int32)) hx hb dX12_relation_150 (by decide) ?_
      refine lv_iadd hx hb dX12_relation_151 ?_
      refine xr_iast X hw 16 xl_B_ShowRingsModel_relations_at hB.1 dX12_relation_152 hB.2 (fun σ12 H locs hB hw => ?_)
      exact xr_vret X hw hr hk hB dX12_relation_153
    · replace hB := hB.2 hc
      exact xr_vret X hw hr hk hB dX12_relation_75)
  unfold xb_X12_relation_e at hB
  refine lv_aload_n hx hb dX12_relation_0 rfl (lv_at hl 0 rfl) ?_
  refine xr_geti X hw (xf_X12_272 X) 0 xl_B_ShowRingsModel_at rfl dX12_relation_1 ?_
  refine lv_istore_n (lv' := [(2, .int (σ.1 0 34)), (0, .ref (q 0)), (1, .int a1)]) hx hb dX12_relation_4 rfl hl (by decide) rfl (fun ls hl => ?_)
  refine lv_aload_n hx hb dX12_relation_5 rfl (lv_at hl 1 rfl) ?_
  refine xr_v hw (xr_runV (As := []) (rest := []) X hw 0 (xc_X12_expression l D cy q σ hB _) xm_X12_expression xt_5_228 xt_5_230 xt_p_39 ⟨Nat.le_of_ble_eq_true rfl, Nat.le_of_ble_eq_true rfl⟩ xl_B_ShowRingsModel_at rfl rfl rfl rfl hl.1 (Nat.le_of_ble_eq_true rfl) dX12_relation_6 ⟨Nat.zero_le _, Nat.zero_le _⟩) (fun σ1 H locs hB hw => ?_)
  refine lv_aload_n hx hb dX12_relation_9 rfl (lv_at hl 1 rfl) ?_
  refine xr_geti X hw (xf_X12_236 X) 0 xl_B_ShowRingsModel_at rfl dX12_relation_10 ?_
  refine lv_if_le (tgt := 20) hx hb dX12_relation_13 (by decide) (fun hc => ?_) (fun hc => ?_)
  · replace hB := hB.1 hc
    refine lv_aload_n hx hb dX12_relation_20 rfl (lv_at hl 1 rfl) ?_
    refine xr_getr X hw (xf_X12_20 X) 0 xl_B_ShowRingsModel_at rfl dX12_relation_21 ?_
    refine lv_aload_n hx hb dX12_relation_24 rfl (lv_at hl 1 rfl) ?_
    refine xr_geti X hw (xf_X12_239 X) 0 xl_B_ShowRingsModel_at rfl dX12_relation_25 ?_
    refine xr_iald X hw 3 xl_B_ShowRingsModel_tKind_at hB.1 dX12_relation_28 ?_
    replace hB := hB.2
    refine lv_bipush (v := (11 : Int32)) hx hb dX12_relation_29 (by decide) ?_
    refine lv_isub hx hb dX12_relation_31 ?_
    exact hB _ _ _ hw (lv_sub hl [1, 2, 0] rfl)
  · replace hB := hB.2 hc
    refine lv_iconst (v := (0 : Int32)) hx hb dX12_relation_16 (by decide) ?_
    refine lv_goto (tgt := 32) hx hb dX12_relation_17 (by decide) ?_
    exact hB _ _ _ hw (lv_sub hl [1, 2, 0] rfl)
