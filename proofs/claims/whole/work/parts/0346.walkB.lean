theorem xf_X12_40 {p : Program} {s : State} {m : MethodId} {args : Array Value} {c : Code} {cc : ByteArray} {nL : Nat} {D : va_G} {cy : Nat → ClassId} {lay : List xw_E} {q : Nat → Nat} (X : xr_X p s m args c cc nL RX12 D cy lay q) : xr_F args s RX12 40 12 20 := ⟨RX12, TX12, 77, tyX12, rfl, by decide, fun w h => X.2.2.2.2.1 w (xt_inX12 w h), tyX12_ok, nmX12, Or.inl (X.2.2.2.2.1 _ xt_4_192)⟩
theorem xf_X12_43 {p : Program} {s : State} {m : MethodId} {args : Array Value} {c : Code} {cc : ByteArray} {nL : Nat} {D : va_G} {cy : Nat → ClassId} {lay : List xw_E} {q : Nat → Nat} (X : xr_X p s m args c cc nL RX12 D cy lay q) : xr_F args s RX12 43 12 21 := ⟨RX12, TX12, 77, tyX12, rfl, by decide, fun w h => X.2.2.2.2.1 w (xt_inX12 w h), tyX12_ok, nmX12, Or.inl (X.2.2.2.2.1 _ xt_4_193)⟩
theorem xf_X12_46 {p : Program} {s : State} {m : MethodId} {args : Array Value} {c : Code} {cc : ByteArray} {nL : Nat} {D : va_G} {cy : Nat → ClassId} {lay : List xw_E} {q : Nat → Nat} (X : xr_X p s m args c cc nL RX12 D cy lay q) : xr_F args s RX12 46 12 22 := ⟨RX12, TX12, 77, tyX12, rfl, by decide, fun w h => X.2.2.2.2.1 w (xt_inX12 w h), tyX12_ok, nmX12, Or.inl (X.2.2.2.2.1 _ xt_4_194)⟩
theorem xf_X12_49 {p : Program} {s : State} {m : MethodId} {args : Array Value} {c : Code} {cc : ByteArray} {nL : Nat} {D : va_G} {cy : Nat → ClassId} {lay : List xw_E} {q : Nat → Nat} (X : xr_X p s m args c cc nL RX12 D cy lay q) : xr_F args s RX12 49 12 23 := ⟨RX12, TX12, 77, tyX12, rfl, by decide, fun w h => X.2.2.2.2.1 w (xt_inX12 w h), tyX12_ok, nmX12, Or.inl (X.2.2.2.2.1 _ xt_4_195)⟩
theorem xf_X12_52 {p : Program} {s : State} {m : MethodId} {args : Array Value} {c : Code} {cc : ByteArray} {nL : Nat} {D : va_G} {cy : Nat → ClassId} {lay : List xw_E} {q : Nat → Nat} (X : xr_X p s m args c cc nL RX12 D cy lay q) : xr_F args s RX12 52 12 24 := ⟨RX12, TX12, 77, tyX12, rfl, by decide, fun w h => X.2.2.2.2.1 w (xt_inX12 w h), tyX12_ok, nmX12, Or.inl (X.2.2.2.2.1 _ xt_4_196)⟩
theorem xm_X12_number : xr_MW yX12_number cX12_number 2 (some .int) 0 := ⟨xt_5_223, xt_1_13, by decide, by decide, by decide +kernel⟩
theorem xf_X12_55 {p : Program} {s : State} {m : MethodId} {args : Array Value} {c : Code} {cc : ByteArray} {nL : Nat} {D : va_G} {cy : Nat → ClassId} {lay : List xw_E} {q : Nat → Nat} (X : xr_X p s m args c cc nL RX12 D cy lay q) : xr_F args s RX12 55 12 25 := ⟨RX12, TX12, 77, tyX12, rfl, by decide, fun w h => X.2.2.2.2.1 w (xt_inX12 w h), tyX12_ok, nmX12, Or.inl (X.2.2.2.2.1 _ xt_4_197)⟩
theorem xf_X12_58 {p : Program} {s : State} {m : MethodId} {args : Array Value} {c : Code} {cc : ByteArray} {nL : Nat} {D : va_G} {cy : Nat → ClassId} {lay : List xw_E} {q : Nat → Nat} (X : xr_X p s m args c cc nL RX12 D cy lay q) : xr_F args s RX12 58 12 26 := ⟨RX12, TX12, 77, tyX12, rfl, by decide, fun w h => X.2.2.2.2.1 w (xt_inX12 w h), tyX12_ok, nmX12, Or.inl (X.2.2.2.2.1 _ xt_4_198)⟩
theorem xm_X12_relation : xr_MW yX12_relation cX12_relation 6 none 1 := ⟨xt_6_3, xt_1_13, by decide, by decide, by decide +kernel⟩
theorem xf_X12_61 {p : Program} {s : State} {m : MethodId} {args : Array Value} {c : Code} {cc : ByteArray} {nL : Nat} {D : va_G} {cy : Nat → ClassId} {lay : List xw_E} {q : Nat → Nat} (X : xr_X p s m args c cc nL RX12 D cy lay q) : xr_F args s RX12 61 12 27 := ⟨RX12, TX12, 77, tyX12, rfl, by decide, fun w h => X.2.2.2.2.1 w (xt_inX12 w h), tyX12_ok, nmX12, Or.inl (X.2.2.2.2.1 _ xt_4_199)⟩
set_option maxRecDepth 100000 in
set_option maxHeartbeats 4000000 in
theorem xc_X12_tellRule (l : Launch) (D : va_G) (cy : Nat → ClassId) (q : Nat → Nat) (σ : xw_M)  {Z : xw_M → Prop} (hU : xu_X12_tellRule σ Z) : xr_CV l yX12_tellRule cX12_tellRule 5 { frames := 4, cells := 0, slots := 0, locals := 93 } D cy xl_B q σ [.ref (q 0)] Z := by
  refine xr_CV.of RX12 rfl (by decide) (Nat.le_of_ble_eq_true rfl) (fun p e s m below meth c X hw hr hk ls hl => ?_)
  have hx := X.1
  have hb := X.2.1
  have hl : lv_has ls 5 [(0, .ref (q 0))] := hl
  have hB := hU (fun (σ : xw_M) (s0 : Int32) => ∀ (H : Heap) (locs : List Loc) (ls : Array Slot), xr_H D cy xl_B q s σ H locs → lv_has ls 5 [(0, .ref (q 0))] → W p l e ({ frames := 4, cells := 0, slots := 0, locals := 93 } : Room) s m ([.ref (q 0)] : List Value).toArray below meth c H locs 0 0 (MQ below (va_Qv Z (xr_po D cy xl_B q) (xw_A xl_B q s.heap.size)) ([.ref (q 0)] : List Value).toArray s 0 0 (xw_A xl_B q s.heap.size)) (F0 m 41 ls [.int s0]))
    (fun (σ : xw_M) => ∀ (H : Heap) (locs : List Loc) (ls : Array Slot), xr_H D cy xl_B q s σ H locs → lv_has ls 5 [(0, .ref (q 0))] → W p l e ({ frames := 4, cells := 0, slots := 0, locals := 93 } : Room) s m ([.ref (q 0)] : List Value).toArray below meth c H locs 0 0 (MQ below (va_Qv Z (xr_po D cy xl_B q) (xw_A xl_B q s.heap.size)) ([.ref (q 0)] : List Value).toArray s 0 0 (xw_A xl_B q s.heap.size)) (F0 m 73 ls []))
    (fun (σ : xw_M) (s0 : Int32) (s1 : Int32) (v2 : Int32) => ∀ (H : Heap) (locs : List Loc) (ls : Array Slot), xr_H D cy xl_B q s σ H locs → lv_has ls 5 [(0, .ref (q 0)), (2, .int v2)] → W p l e ({ frames := 4, cells := 0, slots := 0, locals := 93 } : Room) s m ([.ref (q 0)] : List Value).toArray below meth c H locs 0 0 (MQ below (va_Qv Z (xr_po D cy xl_B q) (xw_A xl_B q s.heap.size)) ([.ref (q 0)] : List Value).toArray s 0 0 (xw_A xl_B q s.heap.size)) (F0 m 144 ls [.int s1, .int s0, .ref (q 9)]))
    (fun (σ : xw_M) (v2 : Int32) => ∀ (H : Heap) (locs : List Loc) (ls : Array Slot), xr_H D cy xl_B q s σ H locs → lv_has ls 5 [(0, .ref (q 0)), (2, .int v2)] → W p l e ({ frames := 4, cells := 0, slots := 0, locals := 93 } : Room) s m ([.ref (q 0)] : List Value).toArray below meth c H locs 0 0 (MQ below (va_Qv Z (xr_po D cy xl_B q) (xw_A xl_B q s.heap.size)) ([.ref (q 0)] : List Value).toArray s 0 0 (xw_A xl_B q s.heap.size)) (F0 m 203 ls []))
    (fun (σ : xw_M) (v2 : Int32) => ∀ (H : Heap) (locs : List Loc) (ls : Array Slot), xr_H D cy xl_B q s σ H locs → lv_has ls 5 [(0, .ref (q 0)), (2, .int v2)] → W p l e ({ frames := 4, cells := 0, slots := 0, locals := 93 } : Room) s m ([.ref (q 0)] : List Value).toArray below meth c H locs 0 0 (MQ below (va_Qv Z (xr_po D cy xl_B q) (xw_A xl_B q s.heap.size)) ([.ref (q 0)] : List Value).toArray s 0 0 (xw_A xl_B q s.heap.size)) (F0 m 243 ls []))
    (fun (σ : xw_M) (v2 : Int32) => ∀ (H : Heap) (locs : List Loc) (ls : Array Slot), xr_H D cy xl_B q s σ H locs → lv_has ls 5 [(0, .ref (q 0)), (2, .int v2)] → W p l e ({ frames := 4, cells := 0, slots := 0, locals := 93 } : Room) s m ([.ref (q 0)] : List Value).toArray below meth c H locs 0 0 (MQ below (va_Qv Z (xr_po D cy xl_B q) (xw_A xl_B q s.heap.size)) ([.ref (q 0)] : List Value).toArray s 0 0 (xw_A xl_B q s.heap.size)) (F0 m 297 ls []))
    (fun (σ : xw_M) (v2 : Int32) => ∀ (H : Heap) (locs : List Loc) (ls : Array Slot), xr_H D cy xl_B q s σ H locs → lv_has ls 5 [(0, .ref (q 0)), (2, .int v2)] → W p l e ({ frames := 4, cells := 0, slots := 0, locals := 93 } : Room) s m ([.ref (q 0)] : List Value).toArray below meth c H locs 0 0 (MQ below (va_Qv Z (xr_po D cy xl_B q) (xw_A xl_B q s.heap.size)) ([.ref (q 0)] : List Value).toArray s 0 0 (xw_A xl_B q s.heap.size)) (F0 m 301 ls []))
    (fun (σ : xw_M) (v2 : Int32) (v3 : Int32) (v4 : Int32) => ∀ (H : Heap) (locs : List Loc) (ls : Array Slot), xr_H D cy xl_B q s σ H locs → lv_has ls 5 [(0, .ref (q 0)), (2, .int v2), (3, .int v3), (4, .int v4)] → W p l e ({ frames := 4, cells := 0, slots := 0, locals := 93 } : Room) s m ([.ref (q 0)] : List Value).toArray below meth c H locs 0 0 (MQ below (va_Qv Z (xr_po D cy xl_B q) (xw_A xl_B q s.heap.size)) ([.ref (q 0)] : List Value).toArray s 0 0 (xw_A xl_B q s.heap.size)) (F0 m 316 ls []))
    (fun (σ : xw_M) (v2 : Int32) => ∀ (H : Heap) (locs : List Loc) (ls : Array Slot), xr_H D cy xl_B q s σ H locs → lv_has ls 5 [(0, .ref (q 0)), (2, .int v2)] → W p l e ({ frames := 4, cells := 0, slots := 0, locals := 93 } : Room) s m ([.ref (q 0)] : List Value).toArray below meth c H locs 0 0 (MQ below (va_Qv Z (xr_po D cy xl_B q) (xw_A xl_B q s.heap.size)) ([.ref (q 0)] : List Value).toArray s 0 0 (xw_A xl_B q s.heap.size)) (F0 m 372 ls []))
    (by
    intro σ s0 hB H locs ls hw hl
    unfold xb_X12_tellRule_41 at hB
    refine lv_istore_n (lv' := [(1, .int s0), (0, .ref (q 0))]) hx hb dX12_tellRule_41 rfl hl (by decide) rfl (fun ls hl => ?_)
    refine lv_iload_n hx hb dX12_tellRule_42 rfl (lv_at hl 0 rfl) ?_
    refine lv_if_ne (tgt := 54) hx hb dX12_tellRule_43 (by decide) (fun hc => ?_) (fun hc => ?_)
    · replace hB := hB.1 hc
      refine lv_aload_n hx hb dX12_tellRule_54 rfl (lv_at hl 1 rfl) ?_
      refine xr_getr X hw (xf_X12_40 X) 0 xl_B_ShowRingsModel_at rfl dX12_tellRule_55 ?_
      refine lv_aload_n hx hb dX12_tellRule_58 rfl (lv_at hl 1 rfl) ?_
      refine xr_geti X hw (xf_X12_269 X) 0 xl_B_ShowRingsModel_at rfl dX12_tellRule_59 ?_
      refine xr_iald X hw 8 xl_B_ShowRingsModel_rules_at hB.1 dX12_tellRule_62 ?_
      replace hB := hB.2
      refine lv_bipush (v := (16 : Int32)) hx hb dX12_tellRule_63 (by decide) ?_
      refine lv_icmp_ne (tgt := 73) hx hb dX12_tellRule_65 (by decide) (fun hc => ?_) (fun hc => ?_)
      · replace hB := hB.1 hc
        exact hB _ _ _ hw (lv_sub hl [1] rfl)
      · replace hB := hB.2 hc
        refine lv_aload_n hx hb dX12_tellRule_68 rfl (lv_at hl 1 rfl) ?_
        refine lv_iconst (v := (2 : Int32)) hx hb dX12_tellRule_69 (by decide) ?_
        refine xr_v hw (xr_runV (As := [.int (2 : Int32)]) (rest := []) X hw 0 (xc_X12_fail l D cy q σ (2 : Int32) hB _) xm_X12_fail xt_5_212 xt_5_214 xt_p_35 ⟨Nat.le_of_ble_eq_true rfl, Nat.le_of_ble_eq_true rfl⟩ xl_B_ShowRingsModel_at rfl rfl rfl rfl hl.1 (Nat.le_of_ble_eq_true rfl) dX12_tellRule_70 ⟨Nat.zero_le _, Nat.zero_le _⟩) (fun σ9 H locs hB hw => ?_)
        exact hB _ _ _ hw (lv_sub hl [1] rfl)
    · replace hB := hB.2 hc
      refine lv_aload_n hx hb dX12_tellRule_46 rfl (lv_at hl 1 rfl) ?_
      refine lv_iconst (v := (1 : Int32)) hx hb dX12_tellRule_47 (by decide) ?_
      refine xr_v hw (xr_runV (As := [.int (1 : Int32)]) (rest := []) X hw 0 (xc_X12_fail l D cy q σ (1 : Int32) hB _) xm_X12_fail xt_5_212 xt_5_214 xt_p_35 ⟨Nat.le_of_ble_eq_true rfl, Nat.le_of_ble_eq_true rfl⟩ xl_B_ShowRingsModel_at rfl rfl rfl rfl hl.1 (Nat.le_of_ble_eq_true rfl) dX12_tellRule_48 ⟨Nat.zero_le _, Nat.zero_le _⟩) (fun σ10 H locs hB hw => ?_)
      refine lv_goto (tgt := 73) hx hb dX12_tellRule_51 (by decide) ?_
      exact hB _ _ _ hw (lv_sub hl [1] rfl))
    (by
    intro σ hB H locs ls hw hl
    unfold xb_X12_tellRule_73 at hB
    refine lv_aload_n hx hb dX12_tellRule_73 rfl (lv_at hl 0 rfl) ?_
    refine xr_geti X hw (xf_X12_236 X) 0 xl_B_ShowRingsModel_at rfl dX12_tellRule_74 ?_
    refine lv_if_le (tgt := 81) hx hb dX12_tellRule_77 (by decide) (fun hc => ?_) (fun hc => ?_)
    · replace hB := hB.1 hc
      refine lv_bipush (v := (16 : Int32)) hx hb dX12_tellRule_81 (by decide) ?_
      refine lv_aload_n hx hb dX12_tellRule_83 rfl (lv_at hl 0 rfl) ?_
      refine xr_geti X hw (xf_X12_269 X) 0 xl_B_ShowRingsModel_at rfl dX12_tellRule_84 ?_
      refine lv_imul hx hb dX12_tellRule_87 ?_
      refine lv_aload_n hx hb dX12_tellRule_88 rfl (lv_at hl 0 rfl) ?_
      refine xr_getr X hw (xf_X12_40 X) 0 xl_B_ShowRingsModel_at rfl dX12_tellRule_89 ?_
      refine lv_aload_n hx hb dX12_tellRule_92 rfl (lv_at hl 0 rfl) ?_
      refine xr_geti X hw (xf_X12_269 X) 0 xl_B_ShowRingsModel_at rfl dX12_tellRule_93 ?_
      refine xr_iald X hw 8 xl_B_ShowRingsModel_rules_at hB.1 dX12_tellRule_96 ?_
      replace hB := hB.2
      refine lv_iadd hx hb dX12_tellRule_97 ?_
      refine lv_topi (fun x11 hx11 => ?_)
      replace hB := hB _ hx11
      refine lv_istore_n (lv' := [(2, .int x11), (0, .ref (q 0))]) hx hb dX12_tellRule_98 rfl hl (by decide) rfl (fun ls hl => ?_)
      refine lv_aload_n hx hb dX12_tellRule_99 rfl (lv_at hl 1 rfl) ?_
      refine xr_getr X hw (xf_X12_43 X) 0 xl_B_ShowRingsModel_at rfl dX12_tellRule_100 ?_
      refine lv_iload_n hx hb dX12_tellRule_103 rfl (lv_at hl 0 rfl) ?_
      refine lv_aload_n hx hb dX12_tellRule_104 rfl (lv_at hl 1 rfl) ?_
      refine lv_bipush (v := (20 : Int32)) hx hb dX12_tellRule_105 (by decide) ?_
      refine xr_i hw (xr_runV (As := [.int (20 : Int32)]) (rest := [.int x11, .ref (q 9)]) X hw 0 (xc_X12_is l D cy q σ (20 : Int32) hB _) xm_X12_is xt_5_204 xt_5_206 xt_p_33 ⟨Nat.le_of_ble_eq_true rfl, Nat.le_of_ble_eq_true rfl⟩ xl_B_ShowRingsModel_at rfl rfl rfl rfl hl.1 (Nat.le_of_ble_eq_true rfl) dX12_tellRule_107 ⟨Nat.zero_le _, Nat.zero_le _⟩) (fun r13 σ12 H locs hB hw => ?_)
      refine lv_if_eq (tgt := 117) hx hb dX12_tellRule_110 (by decide) (fun hc => ?_) (fun hc => ?_)
      · replace hB := hB.1 hc
        refine lv_aload_n hx hb dX12_tellRule_117 rfl (lv_at hl 1 rfl) ?_
        refine lv_bipush (v := (31 : Int32)) hx hb dX12_tellRule_118 (by decide) ?_
        refine xr_i hw (xr_runV (As := [.int (31 : Int32)]) (rest := [.int x11, .ref (q 9)]) X hw 0 (xc_X12_is l D cy q σ12 (31 : Int32) hB _) xm_X12_is xt_5_204 xt_5_206 xt_p_33 ⟨Nat.le_of_ble_eq_true rfl, Nat.le_of_ble_eq_true rfl⟩ xl_B_ShowRingsModel_at rfl rfl rfl rfl hl.1 (Nat.le_of_ble_eq_true rfl) dX12_tellRule_120 ⟨Nat.zero_le _, Nat.zero_le _⟩) (fun r15 σ14 H locs hB hw => ?_)
        refine lv_if_eq (tgt := 130) hx hb dX12_tellRule_123 (by decide) (fun hc => ?_) (fun hc => ?_)
        · replace hB := hB.1 hc
          refine lv_aload_n hx hb dX12_tellRule_130 rfl (lv_at hl 1 rfl) ?_
          refine lv_bipush (v := (22 : Int32)) hx hb dX12_tellRule_131 (by decide) ?_
          refine xr_i hw (xr_runV (As := [.int (22 : Int32)]) (rest := [.int x11, .ref (q 9)]) X hw 0 (xc_X12_is l D cy q σ14 (22 : Int32) hB _) xm_X12_is xt_5_204 xt_5_206 xt_p_33 ⟨Nat.le_of_ble_eq_true rfl, Nat.le_of_ble_eq_true rfl⟩ xl_B_ShowRingsModel_at rfl rfl rfl rfl hl.1 (Nat.le_of_ble_eq_true rfl) dX12_tellRule_133 ⟨Nat.zero_le _, Nat.zero_le _⟩) (fun r17 σ16 H locs hB hw => ?_)
          refine lv_if_eq (tgt := 143) hx hb dX12_tellRule_136 (by decide) (fun hc => ?_) (fun hc => ?_)
          · replace hB := hB.1 hc
            refine lv_iconst (v := (3 : Int32)) hx hb dX12_tellRule_143 (by decide) ?_
            exact hB _ _ _ hw (lv_sub hl [1, 0] rfl)
          · replace hB := hB.2 hc
            refine lv_iconst (v := (2 : Int32)) hx hb dX12_tellRule_139 (by decide) ?_
            refine lv_goto (tgt := 144) hx hb dX12_tellRule_140 (by decide) ?_
            exact hB _ _ _ hw (lv_sub hl [1, 0] rfl)
        · replace hB := hB.2 hc
          refine lv_iconst (v := (1 : Int32)) hx hb dX12_tellRule_126 (by decide) ?_
          refine lv_goto (tgt := 144) hx hb dX12_tellRule_127 (by decide) ?_
          exact hB _ _ _ hw (lv_sub hl [1, 0] rfl)
      · replace hB := hB.2 hc
        refine lv_iconst (v := (0 : Int32)) hx hb dX12_tellRule_113 (by decide) ?_
        refine lv_goto (tgt := 144) hx hb dX12_tellRule_114 (by decide) ?_
        exact hB _ _ _ hw (lv_sub hl [1, 0] rfl)
    · replace hB := hB.2 hc
      exact xr_vret X hw hr hk hB dX12_tellRule_80)
    (by
    intro σ s0 s1 v2 hB H locs ls hw hl
    unfold xb_X12_tellRule_144 at hB
    refine xr_iast X hw 9 xl_B_ShowRingsModel_ruleSort_at hB.1 dX12_tellRule_144 hB.2 (fun σ18 H locs hB hw => ?_)
    refine lv_aload_n hx hb dX12_tellRule_145 rfl (lv_at hl 0 rfl) ?_
    refine xr_getr X hw (xf_X12_46 X) 0 xl_B_ShowRingsModel_at rfl dX12_tellRule_146 ?_
    refine lv_iload_n hx hb dX12_tellRule_149 rfl (lv_at hl 1 rfl) ?_
    refine lv_iconst (v := (0 : Int32)) hx hb dX12_tellRule_150 (by decide) ?_
    refine xr_iast X hw 10 xl_B_ShowRingsModel_ruleInt_at hB.1 dX12_tellRule_151 hB.2 (fun σ19 H locs hB hw => ?_)
    refine lv_aload_n hx hb dX12_tellRule_152 rfl (lv_at hl 0 rfl) ?_
    refine xr_getr X hw (xf_X12_49 X) 0 xl_B_ShowRingsModel_at rfl dX12_tellRule_153 ?_
    refine lv_iload_n hx hb dX12_tellRule_156 rfl (lv_at hl 1 rfl) ?_
    refine lv_iconst (v := (0 : Int32)) hx hb dX12_tellRule_157 (by decide) ?_
    refine xr_iast X hw 11 xl_B_ShowRingsModel_ruleUnder_at hB.1 dX12_tellRule_158 hB.2 (fun σ20 H locs hB hw => ?_)
    refine lv_aload_n hx hb dX12_tellRule_159 rfl (lv_at hl 0 rfl) ?_
    refine xr_v hw (xr_runV (As := []) (rest := []) X hw 0 (xc_X12_next l D cy q σ20 hB _) xm_X12_next xt_5_216 xt_5_218 xt_p_36 ⟨Nat.le_of_ble_eq_true rfl, Nat.le_of_ble_eq_true rfl⟩ xl_B_ShowRingsModel_at rfl rfl rfl rfl hl.1 (Nat.le_of_ble_eq_true rfl) dX12_tellRule_160 ⟨Nat.zero_le _, Nat.zero_le _⟩) (fun σ21 H locs hB hw => ?_)
    refine lv_aload_n hx hb dX12_tellRule_163 rfl (lv_at hl 0 rfl) ?_
    refine xr_getr X hw (xf_X12_52 X) 0 xl_B_ShowRingsModel_at rfl dX12_tellRule_164 ?_
    refine lv_iload_n hx hb dX12_tellRule_167 rfl (lv_at hl 1 rfl) ?_
    refine lv_aload_n hx hb dX12_tellRule_168 rfl (lv_at hl 0 rfl) ?_
    refine xr_geti X hw (xf_X12_272 X) 0 xl_B_ShowRingsModel_at rfl dX12_tellRule_169 ?_
    refine xr_iast X hw 12 xl_B_ShowRingsModel_ruleFrom_at hB.1 dX12_tellRule_172 hB.2 (fun σ22 H locs hB hw => ?_)
    refine lv_aload_n hx hb dX12_tellRule_173 rfl (lv_at hl 0 rfl) ?_
    refine xr_getr X hw (xf_X12_43 X) 0 xl_B_ShowRingsModel_at rfl dX12_tellRule_174 ?_
    refine lv_iload_n hx hb dX12_tellRule_177 rfl (lv_at hl 1 rfl) ?_
    refine xr_iald X hw 9 xl_B_ShowRingsModel_ruleSort_at hB.1 dX12_tellRule_178 ?_
    replace hB := hB.2
    refine lv_iconst (v := (1 : Int32)) hx hb dX12_tellRule_179 (by decide) ?_
    refine lv_icmp_eq (tgt := 193) hx hb dX12_tellRule_180 (by decide) (fun hc => ?_) (fun hc => ?_)
    · replace hB := hB.1 hc
      refine lv_aload_n hx hb dX12_tellRule_193 rfl (lv_at hl 0 rfl) ?_
      refine xr_getr X hw (xf_X12_46 X) 0 xl_B_ShowRingsModel_at rfl dX12_tellRule_194 ?_
      refine lv_iload_n hx hb dX12_tellRule_197 rfl (lv_at hl 1 rfl) ?_
      refine lv_aload_n hx hb dX12_tellRule_198 rfl (lv_at hl 0 rfl) ?_
      refine xr_i hw (xr_runV (As := []) (rest := [.int v2, .ref (q 10)]) X hw 0 (xc_X12_number l D cy q σ22 hB _) xm_X12_number xt_5_220 xt_5_222 xt_p_37 ⟨Nat.le_of_ble_eq_true rfl, Nat.le_of_ble_eq_true rfl⟩ xl_B_ShowRingsModel_at rfl rfl rfl rfl hl.1 (Nat.le_of_ble_eq_true rfl) dX12_tellRule_199 ⟨Nat.zero_le _, Nat.zero_le _⟩) (fun r24 σ23 H locs hB hw => ?_)
      refine xr_iast X hw 10 xl_B_ShowRingsModel_ruleInt_at hB.1 dX12_tellRule_202 hB.2 (fun σ25 H locs hB hw => ?_)
      exact hB _ _ _ hw (lv_sub hl [0, 1] rfl)
    · replace hB := hB.2 hc
      refine lv_aload_n hx hb dX12_tellRule_183 rfl (lv_at hl 0 rfl) ?_
      refine xr_getr X hw (xf_X12_43 X) 0 xl_B_ShowRingsModel_at rfl dX12_tellRule_184 ?_
      refine lv_iload_n hx hb dX12_tellRule_187 rfl (lv_at hl 1 rfl) ?_
      refine xr_iald X hw 9 xl_B_ShowRingsModel_ruleSort_at hB.1 dX12_tellRule_188 ?_
      replace hB := hB.2
      refine lv_iconst (v := (3 : Int32)) hx hb dX12_tellRule_189 (by decide) ?_
      refine lv_icmp_ne (tgt := 203) hx hb dX12_tellRule_190 (by decide) (fun hc => ?_) (fun hc => ?_)
      · replace hB := hB.1 hc
        exact hB _ _ _ hw (lv_sub hl [0, 1] rfl)
      · replace hB := hB.2 hc
        refine lv_aload_n hx hb dX12_tellRule_193 rfl (lv_at hl 0 rfl) ?_
        refine xr_getr X hw (xf_X12_46 X) 0 xl_B_ShowRingsModel_at rfl dX12_tellRule_194 ?_
        refine lv_iload_n hx hb dX12_tellRule_197 rfl (lv_at hl 1 rfl) ?_
        refine lv_aload_n hx hb dX12_tellRule_198 rfl (lv_at hl 0 rfl) ?_
        refine xr_i hw (xr_runV (As := []) (rest := [.int v2, .ref (q 10)]) X hw 0 (xc_X12_number l D cy q σ22 hB _) xm_X12_number xt_5_220 xt_5_222 xt_p_37 ⟨Nat.le_of_ble_eq_true rfl, Nat.le_of_ble_eq_true rfl⟩ xl_B_ShowRingsModel_at rfl rfl rfl rfl hl.1 (Nat.le_of_ble_eq_true rfl) dX12_tellRule_199 ⟨Nat.zero_le _, Nat.zero_le _⟩) (fun r27 σ26 H locs hB hw => ?_)
        refine xr_iast X hw 10 xl_B_ShowRingsModel_ruleInt_at hB.1 dX12_tellRule_202 hB.2 (fun σ28 H locs hB hw => ?_)
        exact hB _ _ _ hw (lv_sub hl [0, 1] rfl))
    (by
    intro σ v2 hB H locs ls hw hl
    unfold xb_X12_tellRule_203 at hB
    refine lv_aload_n hx hb dX12_tellRule_203 rfl (lv_at hl 0 rfl) ?_
    refine xr_getr X hw (xf_X12_43 X) 0 xl_B_ShowRingsModel_at rfl dX12_tellRule_204 ?_
    refine lv_iload_n hx hb dX12_tellRule_207 rfl (lv_at hl 1 rfl) ?_
    refine xr_iald X hw 9 xl_B_ShowRingsModel_ruleSort_at hB.1 dX12_tellRule_208 ?_
    replace hB := hB.2
    refine lv_iconst (v := (3 : Int32)) hx hb dX12_tellRule_209 (by decide) ?_
    refine lv_icmp_ne (tgt := 229) hx hb dX12_tellRule_210 (by decide) (fun hc => ?_) (fun hc => ?_)
    · replace hB := hB.1 hc
      refine lv_aload_n hx hb dX12_tellRule_229 rfl (lv_at hl 0 rfl) ?_
      refine xr_getr X hw (xf_X12_43 X) 0 xl_B_ShowRingsModel_at rfl dX12_tellRule_230 ?_
      refine lv_iload_n hx hb dX12_tellRule_233 rfl (lv_at hl 1 rfl) ?_
      refine xr_iald X hw 9 xl_B_ShowRingsModel_ruleSort_at hB.1 dX12_tellRule_234 ?_
      replace hB := hB.2
      refine lv_iconst (v := (2 : Int32)) hx hb dX12_tellRule_235 (by decide) ?_
      refine lv_icmp_ne (tgt := 243) hx hb dX12_tellRule_236 (by decide) (fun hc => ?_) (fun hc => ?_)
      · replace hB := hB.1 hc
        exact hB _ _ _ hw (lv_sub hl [0, 1] rfl)
      · replace hB := hB.2 hc
        refine lv_aload_n hx hb dX12_tellRule_239 rfl (lv_at hl 0 rfl) ?_
        refine xr_v hw (xr_runV (As := []) (rest := []) X hw 0 (xc_X12_expression l D cy q σ hB _) xm_X12_expression xt_5_228 xt_5_230 xt_p_39 ⟨Nat.le_of_ble_eq_true rfl, Nat.le_of_ble_eq_true rfl⟩ xl_B_ShowRingsModel_at rfl rfl rfl rfl hl.1 (Nat.le_of_ble_eq_true rfl) dX12_tellRule_240 ⟨Nat.zero_le _, Nat.zero_le _⟩) (fun σ29 H locs hB hw => ?_)
        exact hB _ _ _ hw (lv_sub hl [0, 1] rfl)
    · replace hB := hB.2 hc
      refine lv_aload_n hx hb dX12_tellRule_213 rfl (lv_at hl 0 rfl) ?_
      refine lv_bipush (v := (24 : Int32)) hx hb dX12_tellRule_214 (by decide) ?_
      refine xr_v hw (xr_runV (As := [.int (24 : Int32)]) (rest := []) X hw 0 (xc_X12_must l D cy q σ (24 : Int32) hB _) xm_X12_must xt_5_224 xt_5_226 xt_p_38 ⟨Nat.le_of_ble_eq_true rfl, Nat.le_of_ble_eq_true rfl⟩ xl_B_ShowRingsModel_at rfl rfl rfl rfl hl.1 (Nat.le_of_ble_eq_true rfl) dX12_tellRule_216 ⟨Nat.zero_le _, Nat.zero_le _⟩) (fun σ30 H locs hB hw => ?_)
      refine lv_aload_n hx hb dX12_tellRule_219 rfl (lv_at hl 0 rfl) ?_
      refine xr_getr X hw (xf_X12_49 X) 0 xl_B_ShowRingsModel_at rfl dX12_tellRule_220 ?_
      refine lv_iload_n hx hb dX12_tellRule_223 rfl (lv_at hl 1 rfl) ?_
      refine lv_aload_n hx hb dX12_tellRule_224 rfl (lv_at hl 0 rfl) ?_
      refine xr_i hw (xr_runV (As := []) (rest := [.int v2, .ref (q 11)]) X hw 0 (xc_X12_number l D cy q σ30 hB _) xm_X12_number xt_5_220 xt_5_222 xt_p_37 ⟨Nat.le_of_ble_eq_true rfl, Nat.le_of_ble_eq_true rfl⟩ xl_B_ShowRingsModel_at rfl rfl rfl rfl hl.1 (Nat.le_of_ble_eq_true rfl) dX12_tellRule_225 ⟨Nat.zero_le _, Nat.zero_le _⟩) (fun r32 σ31 H locs hB hw => ?_)
      refine xr_iast X hw 11 xl_B_ShowRingsModel_ruleUnder_at hB.1 dX12_tellRule_228 hB.2 (fun σ33 H locs hB hw => ?_)
      refine lv_aload_n hx hb dX12_tellRule_229 rfl (lv_at hl 0 rfl) ?_
      refine xr_getr X hw (xf_X12_43 X) 0 xl_B_ShowRingsModel_at rfl dX12_tellRule_230 ?_
      refine lv_iload_n hx hb dX12_tellRule_233 rfl (lv_at hl 1 rfl) ?_
      refine xr_iald X hw 9 xl_B_ShowRingsModel_ruleSort_at hB.1 dX12_tellRule_234 ?_
      replace hB := hB.2
      refine lv_iconst (v := (2 : Int32)) hx hb dX12_tellRule_235 (by decide) ?_
      refine lv_icmp_ne (tgt := 243) hx hb dX12_tellRule_236 (by decide) (fun hc => ?_) (fun hc => ?_)
      · replace hB := hB.1 hc
        exact hB _ _ _ hw (lv_sub hl [0, 1] rfl)
      · replace hB := hB.2 hc
        refine lv_aload_n hx hb dX12_tellRule_239 rfl (lv_at hl 0 rfl) ?_
        refine xr_v hw (xr_runV (As := []) (rest := []) X hw 0 (xc_X12_expression l D cy q σ33 hB _) xm_X12_expression xt_5_228 xt_5_230 xt_p_39 ⟨Nat.le_of_ble_eq_true rfl, Nat.le_of_ble_eq_true rfl⟩ xl_B_ShowRingsModel_at rfl rfl rfl rfl hl.1 (Nat.le_of_ble_eq_true rfl) dX12_tellRule_240 ⟨Nat.zero_le _, Nat.zero_le _⟩) (fun σ34 H locs hB hw => ?_)
        exact hB _ _ _ hw (lv_sub hl [0, 1] rfl))
    (by
    intro σ v2 hB H locs ls hw hl
    unfold xb_X12_tellRule_243 at hB
    refine lv_aload_n hx hb dX12_tellRule_243 rfl (lv_at hl 0 rfl) ?_
    refine xr_getr X hw (xf_X12_55 X) 0 xl_B_ShowRingsModel_at rfl dX12_tellRule_244 ?_
    refine lv_iload_n hx hb dX12_tellRule_247 rfl (lv_at hl 1 rfl) ?_
    refine lv_aload_n hx hb dX12_tellRule_248 rfl (lv_at hl 0 rfl) ?_
    refine xr_geti X hw (xf_X12_272 X) 0 xl_B_ShowRingsModel_at rfl dX12_tellRule_249 ?_
    refine xr_iast X hw 13 xl_B_ShowRingsModel_ruleTo_at hB.1 dX12_tellRule_252 hB.2 (fun σ35 H locs hB hw => ?_)
    refine lv_aload_n hx hb dX12_tellRule_253 rfl (lv_at hl 0 rfl) ?_
    refine xr_getr X hw (xf_X12_58 X) 0 xl_B_ShowRingsModel_at rfl dX12_tellRule_254 ?_
    refine lv_iload_n hx hb dX12_tellRule_257 rfl (lv_at hl 1 rfl) ?_
    refine lv_aload_n hx hb dX12_tellRule_258 rfl (lv_at hl 0 rfl) ?_
    refine xr_getr X hw (xf_X12_64 X) 0 xl_B_ShowRingsModel_at rfl dX12_tellRule_259 ?_
    refine lv_aload_n hx hb dX12_tellRule_262 rfl (lv_at hl 0 rfl) ?_
    refine xr_geti X hw (xf_X12_269 X) 0 xl_B_ShowRingsModel_at rfl dX12_tellRule_263 ?_
    refine xr_iald X hw 16 xl_B_ShowRingsModel_relations_at hB.1 dX12_tellRule_266 ?_
    replace hB := hB.2
    refine xr_iast X hw 14 xl_B_ShowRingsModel_relFirst_at hB.1 dX12_tellRule_267 hB.2 (fun σ36 H locs hB hw => ?_)
    refine lv_aload_n hx hb dX12_tellRule_268 rfl (lv_at hl 0 rfl) ?_
    refine xr_getr X hw (xf_X12_43 X) 0 xl_B_ShowRingsModel_at rfl dX12_tellRule_269 ?_
    refine lv_iload_n hx hb dX12_tellRule_272 rfl (lv_at hl 1 rfl) ?_
    refine xr_iald X hw 9 xl_B_ShowRingsModel_ruleSort_at hB.1 dX12_tellRule_273 ?_
    replace hB := hB.2
    refine lv_iconst (v := (2 : Int32)) hx hb dX12_tellRule_274 (by decide) ?_
    refine lv_icmp_lt (tgt := 297) hx hb dX12_tellRule_275 (by decide) (fun hc => ?_) (fun hc => ?_)
    · replace hB := hB.1 hc
      exact hB _ _ _ hw (lv_sub hl [0, 1] rfl)
    · replace hB := hB.2 hc
      refine lv_aload_n hx hb dX12_tellRule_278 rfl (lv_at hl 0 rfl) ?_
      refine xr_getr X hw (xf_X12_43 X) 0 xl_B_ShowRingsModel_at rfl dX12_tellRule_279 ?_
      refine lv_iload_n hx hb dX12_tellRule_282 rfl (lv_at hl 1 rfl) ?_
      refine xr_iald X hw 9 xl_B_ShowRingsModel_ruleSort_at hB.1 dX12_tellRule_283 ?_
      replace hB := hB.2
      refine lv_iconst (v := (2 : Int32)) hx hb dX12_tellRule_284 (by decide) ?_
      refine lv_icmp_ne (tgt := 301) hx hb dX12_tellRule_285 (by decide) (fun hc => ?_) (fun hc => ?_)
      · replace hB := hB.1 hc
        exact hB _ _ _ hw (lv_sub hl [0, 1] rfl)
      · replace hB := hB.2 hc
        refine lv_aload_n hx hb dX12_tellRule_288 rfl (lv_at hl 0 rfl) ?_
        refine lv_bipush (v := (21 : Int32)) hx hb dX12_tellRule_289 (by decide) ?_
        refine xr_i hw (xr_runV (As := [.int (21 : Int32)]) (rest := []) X hw 0 (xc_X12_is l D cy q σ36 (21 : Int32) hB _) xm_X12_is xt_5_204 xt_5_206 xt_p_33 ⟨Nat.le_of_ble_eq_true rfl, Nat.le_of_ble_eq_true rfl⟩ xl_B_ShowRingsModel_at rfl rfl rfl rfl hl.1 (Nat.le_of_ble_eq_true rfl) dX12_tellRule_291 ⟨Nat.zero_le _, Nat.zero_le _⟩) (fun r38 σ37 H locs hB hw => ?_)
        refine lv_if_eq (tgt := 301) hx hb dX12_tellRule_294 (by decide) (fun hc => ?_) (fun hc => ?_)
        · replace hB := hB.1 hc
          exact hB _ _ _ hw (lv_sub hl [0, 1] rfl)
        · replace hB := hB.2 hc
          exact hB _ _ _ hw (lv_sub hl [0, 1] rfl))
    (by
    intro σ v2 hB H locs ls hw hl
    unfold xb_X12_tellRule_297 at hB
    refine lv_iconst (v := (1 : Int32)) hx hb dX12_tellRule_297 (by decide) ?_
    refine lv_goto (tgt := 302) hx hb dX12_tellRule_298 (by decide) ?_
    refine lv_istore_n (lv' := [(3, .int (1 : Int32)), (0, .ref (q 0)), (2, .int v2)]) hx hb dX12_tellRule_302 rfl hl (by decide) rfl (fun ls hl => ?_)
    refine lv_iload_n hx hb dX12_tellRule_303 rfl (lv_at hl 0 rfl) ?_
    refine lv_if_eq (tgt := 313) hx hb dX12_tellRule_304 (by decide) (fun hc => ?_) (fun hc => ?_)
    · replace hB := hB.1 hc
      refine lv_iconst (v := (1 : Int32)) hx hb dX12_tellRule_313 (by decide) ?_
      refine lv_istore (lv' := [(4, .int (1 : Int32)), (3, .int (1 : Int32)), (0, .ref (q 0)), (2, .int v2)]) hx hb dX12_tellRule_314 hl (by decide) rfl (fun ls hl => ?_)
      exact hB _ _ _ hw (lv_sub hl [2, 3, 1, 0] rfl)
    · replace hB := hB.2 hc
      refine lv_aload_n hx hb dX12_tellRule_307 rfl (lv_at hl 1 rfl) ?_
      refine lv_bipush (v := (21 : Int32)) hx hb dX12_tellRule_308 (by decide) ?_
      refine xr_v hw (xr_runV (As := [.int (21 : Int32)]) (rest := []) X hw 0 (xc_X12_must l D cy q σ (21 : Int32) hB _) xm_X12_must xt_5_224 xt_5_226 xt_p_38 ⟨Nat.le_of_ble_eq_true rfl, Nat.le_of_ble_eq_true rfl⟩ xl_B_ShowRingsModel_at rfl rfl rfl rfl hl.1 (Nat.le_of_ble_eq_true rfl) dX12_tellRule_310 ⟨Nat.zero_le _, Nat.zero_le _⟩) (fun σ39 H locs hB hw => ?_)
      refine lv_iconst (v := (1 : Int32)) hx hb dX12_tellRule_313 (by decide) ?_
      refine lv_istore (lv' := [(4, .int (1 : Int32)), (3, .int (1 : Int32)), (0, .ref (q 0)), (2, .int v2)]) hx hb dX12_tellRule_314 hl (by decide) rfl (fun ls hl => ?_)
      exact hB _ _ _ hw (lv_sub hl [2, 3, 1, 0] rfl))
    (by
    intro σ v2 hB H locs ls hw hl
    unfold xb_X12_tellRule_301 at hB
    refine lv_iconst (v := (0 : Int32)) hx hb dX12_tellRule_301 (by decide) ?_
    refine lv_istore_n (lv' := [(3, .int (0 : Int32)), (0, .ref (q 0)), (2, .int v2)]) hx hb dX12_tellRule_302 rfl hl (by decide) rfl (fun ls hl => ?_)
    refine lv_iload_n hx hb dX12_tellRule_303 rfl (lv_at hl 0 rfl) ?_
    refine lv_if_eq (tgt := 313) hx hb dX12_tellRule_304 (by decide) (fun hc => ?_) (fun hc => ?_)
    · replace hB := hB.1 hc
      refine lv_iconst (v := (1 : Int32)) hx hb dX12_tellRule_313 (by decide) ?_
      refine lv_istore (lv' := [(4, .int (1 : Int32)), (3, .int (0 : Int32)), (0, .ref (q 0)), (2, .int v2)]) hx hb dX12_tellRule_314 hl (by decide) rfl (fun ls hl => ?_)
      exact hB _ _ _ hw (lv_sub hl [2, 3, 1, 0] rfl)
    · replace hB := hB.2 hc
      refine lv_aload_n hx hb dX12_tellRule_307 rfl (lv_at hl 1 rfl) ?_
      refine lv_bipush (v := (21 : Int32)) hx hb dX12_tellRule_308 (by decide) ?_
      refine xr_v hw (xr_runV (As := [.int (21 : Int32)]) (rest := []) X hw 0 (xc_X12_must l D cy q σ (21 : Int32) hB _) xm_X12_must xt_5_224 xt_5_226 xt_p_38 ⟨Nat.le_of_ble_eq_true rfl, Nat.le_of_ble_eq_true rfl⟩ xl_B_ShowRingsModel_at rfl rfl rfl rfl hl.1 (Nat.le_of_ble_eq_true rfl) dX12_tellRule_310 ⟨Nat.zero_le _, Nat.zero_le _⟩) (fun σ40 H locs hB hw => ?_)
      refine lv_iconst (v := (1 : Int32)) hx hb dX12_tellRule_313 (by decide) ?_
      refine lv_istore (lv' := [(4, .int (1 : Int32)), (3, .int (0 : Int32)), (0, .ref (q 0)), (2, .int v2)]) hx hb dX12_tellRule_314 hl (by decide) rfl (fun ls hl => ?_)
      exact hB _ _ _ hw (lv_sub hl [2, 3, 1, 0] rfl))
    (by
    intro σ v2 v3 v4 hB H locs ls hw hl
    unfold xb_X12_tellRule_316 at hB
    refine lv_iload_n hx hb dX12_tellRule_316 rfl (lv_at hl 2 rfl) ?_
    refine lv_if_eq (tgt := 372) hx hb dX12_tellRule_317 (by decide) (fun hc => ?_) (fun hc => ?_)
    · replace hB := hB.1 hc
      exact hB _ _ _ hw (lv_sub hl [0, 1] rfl)
    · replace hB := hB.2 hc
      refine lv_aload_n hx hb dX12_tellRule_320 rfl (lv_at hl 0 rfl) ?_
      refine xr_geti X hw (xf_X12_236 X) 0 xl_B_ShowRingsModel_at rfl dX12_tellRule_321 ?_
      refine lv_if_ne (tgt := 372) hx hb dX12_tellRule_324 (by decide) (fun hc => ?_) (fun hc => ?_)
      · replace hB := hB.1 hc
        exact hB _ _ _ hw (lv_sub hl [0, 1] rfl)
      · replace hB := hB.2 hc
        refine lv_aload_n hx hb dX12_tellRule_327 rfl (lv_at hl 0 rfl) ?_
        refine lv_iload hx hb dX12_tellRule_328 (lv_at hl 3 rfl) ?_
        refine xr_v hw (xr_runV (As := [.int v4]) (rest := []) X hw 0 (xc_X12_relation l D cy q σ v4 hB _) xm_X12_relation xt_6_0 xt_6_2 xt_p_42 ⟨Nat.le_of_ble_eq_true rfl, Nat.le_of_ble_eq_true rfl⟩ xl_B_ShowRingsModel_at rfl rfl rfl rfl hl.1 (Nat.le_of_ble_eq_true rfl) dX12_tellRule_330 ⟨Nat.zero_le _, Nat.zero_le _⟩) (fun σ41 H locs hB hw => ?_)
        refine lv_aload_n hx hb dX12_tellRule_333 rfl (lv_at hl 0 rfl) ?_
        refine lv_bipush (v := (25 : Int32)) hx hb dX12_tellRule_334 (by decide) ?_
        refine xr_i hw (xr_runV (As := [.int (25 : Int32)]) (rest := []) X hw 0 (xc_X12_is l D cy q σ41 (25 : Int32) hB _) xm_X12_is xt_5_204 xt_5_206 xt_p_33 ⟨Nat.le_of_ble_eq_true rfl, Nat.le_of_ble_eq_true rfl⟩ xl_B_ShowRingsModel_at rfl rfl rfl rfl hl.1 (Nat.le_of_ble_eq_true rfl) dX12_tellRule_336 ⟨Nat.zero_le _, Nat.zero_le _⟩) (fun r43 σ42 H locs hB hw => ?_)
        refine lv_istore (lv' := [(4, .int r43), (0, .ref (q 0)), (2, .int v2), (3, .int v3)]) hx hb dX12_tellRule_339 hl (by decide) rfl (fun ls hl => ?_)
        refine lv_iload hx hb dX12_tellRule_341 (lv_at hl 0 rfl) ?_
        refine lv_if_ne (tgt := 355) hx hb dX12_tellRule_343 (by decide) (fun hc => ?_) (fun hc => ?_)
        · replace hB := hB.1 hc
          refine lv_iconst (v := (1 : Int32)) hx hb dX12_tellRule_355 (by decide) ?_
          refine lv_goto (tgt := 360) hx hb dX12_tellRule_356 (by decide) ?_
          refine lv_istore_n (lv' := [(3, .int (1 : Int32)), (4, .int r43), (0, .ref (q 0)), (2, .int v2)]) hx hb dX12_tellRule_360 rfl hl (by decide) rfl (fun ls hl => ?_)
          refine lv_iload_n hx hb dX12_tellRule_361 rfl (lv_at hl 0 rfl) ?_
          refine lv_if_eq (tgt := 316) hx hb dX12_tellRule_362 (by decide) (fun hc => ?_) (fun hc => ?_)
          · replace hB := hB.1 hc
            exact hB _ _ _ hw (lv_sub hl [2, 3, 0, 1] rfl)
          · replace hB := hB.2 hc
            refine lv_aload_n hx hb dX12_tellRule_365 rfl (lv_at hl 2 rfl) ?_
            refine xr_v hw (xr_runV (As := []) (rest := []) X hw 0 (xc_X12_next l D cy q σ42 hB _) xm_X12_next xt_5_216 xt_5_218 xt_p_36 ⟨Nat.le_of_ble_eq_true rfl, Nat.le_of_ble_eq_true rfl⟩ xl_B_ShowRingsModel_at rfl rfl rfl rfl hl.1 (Nat.le_of_ble_eq_true rfl) dX12_tellRule_366 ⟨Nat.zero_le _, Nat.zero_le _⟩) (fun σ44 H locs hB hw => ?_)
            refine lv_goto (tgt := 316) hx hb dX12_tellRule_369 (by decide) ?_
            exact hB _ _ _ hw (lv_sub hl [2, 3, 0, 1] rfl)
        · replace hB := hB.2 hc
          refine lv_aload_n hx hb dX12_tellRule_346 rfl (lv_at hl 1 rfl) ?_
          refine lv_bipush (v := (26 : Int32)) hx hb dX12_tellRule_347 (by decide) ?_
          refine xr_i hw (xr_runV (As := [.int (26 : Int32)]) (rest := []) X hw 0 (xc_X12_is l D cy q σ42 (26 : Int32) hB _) xm_X12_is xt_5_204 xt_5_206 xt_p_33 ⟨Nat.le_of_ble_eq_true rfl, Nat.le_of_ble_eq_true rfl⟩ xl_B_ShowRingsModel_at rfl rfl rfl rfl hl.1 (Nat.le_of_ble_eq_true rfl) dX12_tellRule_349 ⟨Nat.zero_le _, Nat.zero_le _⟩) (fun r46 σ45 H locs hB hw => ?_)
          refine lv_if_eq (tgt := 359) hx hb dX12_tellRule_352 (by decide) (fun hc => ?_) (fun hc => ?_)
          · replace hB := hB.1 hc
            refine lv_iconst (v := (0 : Int32)) hx hb dX12_tellRule_359 (by decide) ?_
            refine lv_istore_n (lv' := [(3, .int (0 : Int32)), (4, .int r43), (0, .ref (q 0)), (2, .int v2)]) hx hb dX12_tellRule_360 rfl hl (by decide) rfl (fun ls hl => ?_)
            refine lv_iload_n hx hb dX12_tellRule_361 rfl (lv_at hl 0 rfl) ?_
            refine lv_if_eq (tgt := 316) hx hb dX12_tellRule_362 (by decide) (fun hc => ?_) (fun hc => ?_)
            · replace hB := hB.1 hc
              exact hB _ _ _ hw (lv_sub hl [2, 3, 0, 1] rfl)
            · replace hB := hB.2 hc
              refine lv_aload_n hx hb dX12_tellRule_365 rfl (lv_at hl 2 rfl) ?_
              refine xr_v hw (xr_runV (As := []) (rest := []) X hw 0 (xc_X12_next l D cy q σ45 hB _) xm_X12_next xt_5_216 xt_5_218 xt_p_36 ⟨Nat.le_of_ble_eq_true rfl, Nat.le_of_ble_eq_true rfl⟩ xl_B_ShowRingsModel_at rfl rfl rfl rfl hl.1 (Nat.le_of_ble_eq_true rfl) dX12_tellRule_366 ⟨Nat.zero_le _, Nat.zero_le _⟩) (fun σ47 H locs hB hw => ?_)
              refine lv_goto (tgt := 316) hx hb dX12_tellRule_369 (by decide) ?_
              exact hB _ _ _ hw (lv_sub hl [2, 3, 0, 1] rfl)
          · replace hB := hB.2 hc
            refine lv_iconst (v := (1 : Int32)) hx hb dX12_tellRule_355 (by decide) ?_
            refine lv_goto (tgt := 360) hx hb dX12_tellRule_356 (by decide) ?_
            refine lv_istore_n (lv' := [(3, .int (1 : Int32)), (4, .int r43), (0, .ref (q 0)), (2, .int v2)]) hx hb dX12_tellRule_360 rfl hl (by decide) rfl (fun ls hl => ?_)
            refine lv_iload_n hx hb dX12_tellRule_361 rfl (lv_at hl 0 rfl) ?_
            refine lv_if_eq (tgt := 316) hx hb dX12_tellRule_362 (by decide) (fun hc => ?_) (fun hc => ?_)
            · replace hB := hB.1 hc
              exact hB _ _ _ hw (lv_sub hl [2, 3, 0, 1] rfl)
            · replace hB := hB.2 hc
              refine lv_aload_n hx hb dX12_tellRule_365 rfl (lv_at hl 2 rfl) ?_
              refine xr_v hw (xr_runV (As := []) (rest := []) X hw 0 (xc_X12_next l D cy q σ45 hB _) xm_X12_next xt_5_216 xt_5_218 xt_p_36 ⟨Nat.le_of_ble_eq_true rfl, Nat.le_of_ble_eq_true rfl⟩ xl_B_ShowRingsModel_at rfl rfl rfl rfl hl.1 (Nat.le_of_ble_eq_true rfl) dX12_tellRule_366 ⟨Nat.zero_le _, Nat.zero_le _⟩) (fun σ48 H locs hB hw => ?_)
              refine lv_goto (tgt := 316) hx hb dX12_tellRule_369 (by decide) ?_
              exact hB _ _ _ hw (lv_sub hl [2, 3, 0, 1] rfl))
    (by
    intro σ v2 hB H locs ls hw hl
    unfold xb_X12_tellRule_372 at hB
    refine lv_aload_n hx hb dX12_tellRule_372 rfl (lv_at hl 0 rfl) ?_
    refine lv_iconst (v := (4 : Int32)) hx hb dX12_tellRule_373 (by decide) ?_
    refine xr_v hw (xr_runV (As := [.int (4 : Int32)]) (rest := []) X hw 0 (xc_X12_must l D cy q σ (4 : Int32) hB _) xm_X12_must xt_5_224 xt_5_226 xt_p_38 ⟨Nat.le_of_ble_eq_true rfl, Nat.le_of_ble_eq_true rfl⟩ xl_B_ShowRingsModel_at rfl rfl rfl rfl hl.1 (Nat.le_of_ble_eq_true rfl) dX12_tellRule_374 ⟨Nat.zero_le _, Nat.zero_le _⟩) (fun σ49 H locs hB hw => ?_)
    refine lv_aload_n hx hb dX12_tellRule_377 rfl (lv_at hl 0 rfl) ?_
    refine xr_geti X hw (xf_X12_236 X) 0 xl_B_ShowRingsModel_at rfl dX12_tellRule_378 ?_
    refine lv_if_le (tgt := 385) hx hb dX12_tellRule_381 (by decide) (fun hc => ?_) (fun hc => ?_)
    · replace hB := hB.1 hc
      refine lv_aload_n hx hb dX12_tellRule_385 rfl (lv_at hl 0 rfl) ?_
      refine xr_getr X hw (xf_X12_61 X) 0 xl_B_ShowRingsModel_at rfl dX12_tellRule_386 ?_
      refine lv_iload_n hx hb dX12_tellRule_389 rfl (lv_at hl 1 rfl) ?_
      refine lv_aload_n hx hb dX12_tellRule_390 rfl (lv_at hl 0 rfl) ?_
      refine xr_getr X hw (xf_X12_64 X) 0 xl_B_ShowRingsModel_at rfl dX12_tellRule_391 ?_
      refine lv_aload_n hx hb dX12_tellRule_394 rfl (lv_at hl 0 rfl) ?_
      refine xr_geti X hw (xf_X12_269 X) 0 xl_B_ShowRingsModel_at rfl dX12_tellRule_395 ?_
      refine xr_iald X hw 16 xl_B_ShowRingsModel_relations_at hB.1 dX12_tellRule_398 ?_
      replace hB := hB.2
      refine xr_iast X hw 15 xl_B_ShowRingsModel_relLast_at hB.1 dX12_tellRule_399 hB.2 (fun σ50 H locs hB hw => ?_)
      refine lv_aload_n hx hb dX12_tellRule_400 rfl (lv_at hl 0 rfl) ?_
      refine xr_getr X hw (xf_X12_40 X) 0 xl_B_ShowRingsModel_at rfl dX12_tellRule_401 ?_
      refine lv_aload_n hx hb dX12_tellRule_404 rfl (lv_at hl 0 rfl) ?_
      refine xr_geti X hw (xf_X12_269 X) 0 xl_B_ShowRingsModel_at rfl dX12_tellRule_405 ?_
      refine lv_dup2_11 hx hb dX12_tellRule_408 rfl rfl ?_
      refine xr_iald X hw 8 xl_B_ShowRingsModel_rules_at hB.1 dX12_tellRule_409 ?_
      replace hB := hB.2
      refine lv_iconst (v := (1 : Int32)) hx hb dX12_tellRule_410 (by decide) ?_
      refine lv_iadd hx hb dX12_tellRule_411 ?_
      refine xr_iast X hw 8 xl_B_ShowRingsModel_rules_at hB.1 dX12_tellRule_412 hB.2 (fun σ51 H locs hB hw => ?_)
      exact xr_vret X hw hr hk hB dX12_tellRule_413
    · replace hB := hB.2 hc
      exact xr_vret X hw hr hk hB dX12_tellRule_384)
  unfold xb_X12_tellRule_e at hB
  refine lv_aload_n hx hb dX12_tellRule_0 rfl (lv_at hl 0 rfl) ?_
  refine lv_bipush (v := (20 : Int32)) hx hb dX12_tellRule_1 (by decide) ?_
  refine xr_i hw (xr_runV (As := [.int (20 : Int32)]) (rest := []) X hw 0 (xc_X12_is l D cy q σ (20 : Int32) hB _) xm_X12_is xt_5_204 xt_5_206 xt_p_33 ⟨Nat.le_of_ble_eq_true rfl, Nat.le_of_ble_eq_true rfl⟩ xl_B_ShowRingsModel_at rfl rfl rfl rfl hl.1 (Nat.le_of_ble_eq_true rfl) dX12_tellRule_3 ⟨Nat.zero_le _, Nat.zero_le _⟩) (fun r2 σ1 H locs hB hw => ?_)
  refine lv_if_ne (tgt := 36) hx hb dX12_tellRule_6 (by decide) (fun hc => ?_) (fun hc => ?_)
  · replace hB := hB.1 hc
    refine lv_iconst (v := (1 : Int32)) hx hb dX12_tellRule_36 (by decide) ?_
    refine lv_goto (tgt := 41) hx hb dX12_tellRule_37 (by decide) ?_
    exact hB _ _ _ hw (lv_sub hl [0] rfl)
  · replace hB := hB.2 hc
    refine lv_aload_n hx hb dX12_tellRule_9 rfl (lv_at hl 0 rfl) ?_
    refine lv_bipush (v := (31 : Int32)) hx hb dX12_tellRule_10 (by decide) ?_
    refine xr_i hw (xr_runV (As := [.int (31 : Int32)]) (rest := []) X hw 0 (xc_X12_is l D cy q σ1 (31 : Int32) hB _) xm_X12_is xt_5_204 xt_5_206 xt_p_33 ⟨Nat.le_of_ble_eq_true rfl, Nat.le_of_ble_eq_true rfl⟩ xl_B_ShowRingsModel_at rfl rfl rfl rfl hl.1 (Nat.le_of_ble_eq_true rfl) dX12_tellRule_12 ⟨Nat.zero_le _, Nat.zero_le _⟩) (fun r4 σ3 H locs hB hw => ?_)
    refine lv_if_ne (tgt := 36) hx hb dX12_tellRule_15 (by decide) (fun hc => ?_) (fun hc => ?_)
    · replace hB := hB.1 hc
      refine lv_iconst (v := (1 : Int32)) hx hb dX12_tellRule_36 (by decide) ?_
      refine lv_goto (tgt := 41) hx hb dX12_tellRule_37 (by decide) ?_
      exact hB _ _ _ hw (lv_sub hl [0] rfl)
    · replace hB := hB.2 hc
      refine lv_aload_n hx hb dX12_tellRule_18 rfl (lv_at hl 0 rfl) ?_
      refine lv_bipush (v := (22 : Int32)) hx hb dX12_tellRule_19 (by decide) ?_
      refine xr_i hw (xr_runV (As := [.int (22 : Int32)]) (rest := []) X hw 0 (xc_X12_is l D cy q σ3 (22 : Int32) hB _) xm_X12_is xt_5_204 xt_5_206 xt_p_33 ⟨Nat.le_of_ble_eq_true rfl, Nat.le_of_ble_eq_true rfl⟩ xl_B_ShowRingsModel_at rfl rfl rfl rfl hl.1 (Nat.le_of_ble_eq_true rfl) dX12_tellRule_21 ⟨Nat.zero_le _, Nat.zero_le _⟩) (fun r6 σ5 H locs hB hw => ?_)
      refine lv_if_ne (tgt := 36) hx hb dX12_tellRule_24 (by decide) (fun hc => ?_) (fun hc => ?_)
      · replace hB := hB.1 hc
        refine lv_iconst (v := (1 : Int32)) hx hb dX12_tellRule_36 (by decide) ?_
        refine lv_goto (tgt := 41) hx hb dX12_tellRule_37 (by decide) ?_
        exact hB _ _ _ hw (lv_sub hl [0] rfl)
      · replace hB := hB.2 hc
        refine lv_aload_n hx hb dX12_tellRule_27 rfl (lv_at hl 0 rfl) ?_
        refine lv_bipush (v := (23 : Int32)) hx hb dX12_tellRule_28 (by decide) ?_
        refine xr_i hw (xr_runV (As := [.int (23 : Int32)]) (rest := []) X hw 0 (xc_X12_is l D cy q σ5 (23 : Int32) hB _) xm_X12_is xt_5_204 xt_5_206 xt_p_33 ⟨Nat.le_of_ble_eq_true rfl, Nat.le_of_ble_eq_true rfl⟩ xl_B_ShowRingsModel_at rfl rfl rfl rfl hl.1 (Nat.le_of_ble_eq_true rfl) dX12_tellRule_30 ⟨Nat.zero_le _, Nat.zero_le _⟩) (fun r8 σ7 H locs hB hw => ?_)
        refine lv_if_eq (tgt := 40) hx hb dX12_tellRule_33 (by decide) (fun hc => ?_) (fun hc => ?_)
        · replace hB := hB.1 hc
          refine lv_iconst (v := (0 : Int32)) hx hb dX12_tellRule_40 (by decide) ?_
          exact hB _ _ _ hw (lv_sub hl [0] rfl)
        · replace hB := hB.2 hc
          refine lv_iconst (v := (1 : Int32)) hx hb dX12_tellRule_36 (by decide) ?_
          refine lv_goto (tgt := 41) hx hb dX12_tellRule_37 (by decide) ?_
          exact hB _ _ _ hw (lv_sub hl [0] rfl)
