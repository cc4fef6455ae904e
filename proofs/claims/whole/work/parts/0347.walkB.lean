theorem xp_X12_205 {p : Program} {s : State} {m : MethodId} {args : Array Value} {c : Code} {cc : ByteArray} {nL : Nat} {D : va_G} {cy : Nat → ClassId} {lay : List xw_E} {q : Nat → Nat} (X : xr_X p s m args c cc nL RX12 D cy lay q) : xr_P args s RX12 205 12 4 := ⟨RX12, TX12, 77, tyX12, rfl, by decide, fun w h => X.2.2.2.2.1 w (xt_inX12 w h), tyX12_ok, nmX12, Or.inl (X.2.2.2.2.1 _ xt_4_177), rfl, by decide +kernel⟩
theorem xm_X12_cut : xr_MW yX12_cut cX12_cut 8 none 0 := ⟨xt_5_185, xt_1_13, by decide, by decide, by decide +kernel⟩
theorem xp_X12_245 {p : Program} {s : State} {m : MethodId} {args : Array Value} {c : Code} {cc : ByteArray} {nL : Nat} {D : va_G} {cy : Nat → ClassId} {lay : List xw_E} {q : Nat → Nat} (X : xr_X p s m args c cc nL RX12 D cy lay q) : xr_P args s RX12 245 12 15 := ⟨RX12, TX12, 77, tyX12, rfl, by decide, fun w h => X.2.2.2.2.1 w (xt_inX12 w h), tyX12_ok, nmX12, Or.inl (X.2.2.2.2.1 _ xt_4_188), rfl, by decide +kernel⟩
theorem xf_X12_266 {p : Program} {s : State} {m : MethodId} {args : Array Value} {c : Code} {cc : ByteArray} {nL : Nat} {D : va_G} {cy : Nat → ClassId} {lay : List xw_E} {q : Nat → Nat} (X : xr_X p s m args c cc nL RX12 D cy lay q) : xr_F args s RX12 266 12 18 := ⟨RX12, TX12, 77, tyX12, rfl, by decide, fun w h => X.2.2.2.2.1 w (xt_inX12 w h), tyX12_ok, nmX12, Or.inl (X.2.2.2.2.1 _ xt_4_190)⟩
theorem xp_X12_269 {p : Program} {s : State} {m : MethodId} {args : Array Value} {c : Code} {cc : ByteArray} {nL : Nat} {D : va_G} {cy : Nat → ClassId} {lay : List xw_E} {q : Nat → Nat} (X : xr_X p s m args c cc nL RX12 D cy lay q) : xr_P args s RX12 269 12 19 := ⟨RX12, TX12, 77, tyX12, rfl, by decide, fun w h => X.2.2.2.2.1 w (xt_inX12 w h), tyX12_ok, nmX12, Or.inl (X.2.2.2.2.1 _ xt_4_191), rfl, by decide +kernel⟩
theorem xf_X12_242 {p : Program} {s : State} {m : MethodId} {args : Array Value} {c : Code} {cc : ByteArray} {nL : Nat} {D : va_G} {cy : Nat → ClassId} {lay : List xw_E} {q : Nat → Nat} (X : xr_X p s m args c cc nL RX12 D cy lay q) : xr_F args s RX12 242 12 14 := ⟨RX12, TX12, 77, tyX12, rfl, by decide, fun w h => X.2.2.2.2.1 w (xt_inX12 w h), tyX12_ok, nmX12, Or.inl (X.2.2.2.2.1 _ xt_4_187)⟩
theorem xm_X12_tellRule : xr_MW yX12_tellRule cX12_tellRule 5 none 0 := ⟨xt_5_211, xt_1_13, by decide, by decide, by decide +kernel⟩
theorem xp_X12_37 {p : Program} {s : State} {m : MethodId} {args : Array Value} {c : Code} {cc : ByteArray} {nL : Nat} {D : va_G} {cy : Nat → ClassId} {lay : List xw_E} {q : Nat → Nat} (X : xr_X p s m args c cc nL RX12 D cy lay q) : xr_P args s RX12 37 12 17 := ⟨RX12, TX12, 77, tyX12, rfl, by decide, fun w h => X.2.2.2.2.1 w (xt_inX12 w h), tyX12_ok, nmX12, Or.inl (X.2.2.2.2.1 _ xt_4_189), rfl, by decide +kernel⟩
theorem xp_X12_266 {p : Program} {s : State} {m : MethodId} {args : Array Value} {c : Code} {cc : ByteArray} {nL : Nat} {D : va_G} {cy : Nat → ClassId} {lay : List xw_E} {q : Nat → Nat} (X : xr_X p s m args c cc nL RX12 D cy lay q) : xr_P args s RX12 266 12 18 := ⟨RX12, TX12, 77, tyX12, rfl, by decide, fun w h => X.2.2.2.2.1 w (xt_inX12 w h), tyX12_ok, nmX12, Or.inl (X.2.2.2.2.1 _ xt_4_190), rfl, by decide +kernel⟩
set_option maxRecDepth 100000 in
set_option maxHeartbeats 4000000 in
theorem xc_X12_read (l : Launch) (D : va_G) (cy : Nat → ClassId) (q : Nat → Nat) (σ : xw_M)  {Z : Int32 → xw_M → Prop} (hU : xu_X12_read σ Z) : xr_CI l yX12_read cX12_read 2 .int { frames := 5, cells := 0, slots := 0, locals := 117 } D cy xl_B q σ [.ref (q 0)] Z := by
  refine xr_CI.of RX12 rfl (by decide) (Nat.le_of_ble_eq_true rfl) (fun p e s m below meth c X hw hr hk ls hl => ?_)
  have hx := X.1
  have hb := X.2.1
  have hl : lv_has ls 2 [(0, .ref (q 0))] := hl
  have hB := hU (fun (σ : xw_M) (v1 : Int32) => ∀ (H : Heap) (locs : List Loc) (ls : Array Slot), xr_H D cy xl_B q s σ H locs → lv_has ls 2 [(0, .ref (q 0)), (1, .int v1)] → W p l e ({ frames := 5, cells := 0, slots := 0, locals := 117 } : Room) s m ([.ref (q 0)] : List Value).toArray below meth c H locs 0 0 (MQ below (va_Qi Z (xr_po D cy xl_B q) (xw_A xl_B q s.heap.size)) ([.ref (q 0)] : List Value).toArray s 0 0 (xw_A xl_B q s.heap.size)) (F0 m 10 ls []))
    (fun (σ : xw_M) => ∀ (H : Heap) (locs : List Loc) (ls : Array Slot), xr_H D cy xl_B q s σ H locs → lv_has ls 2 [(0, .ref (q 0))] → W p l e ({ frames := 5, cells := 0, slots := 0, locals := 117 } : Room) s m ([.ref (q 0)] : List Value).toArray below meth c H locs 0 0 (MQ below (va_Qi Z (xr_po D cy xl_B q) (xw_A xl_B q s.heap.size)) ([.ref (q 0)] : List Value).toArray s 0 0 (xw_A xl_B q s.heap.size)) (F0 m 107 ls []))
    (fun (σ : xw_M) (s0 : Int32) => ∀ (H : Heap) (locs : List Loc) (ls : Array Slot), xr_H D cy xl_B q s σ H locs → lv_has ls 2 [(0, .ref (q 0))] → W p l e ({ frames := 5, cells := 0, slots := 0, locals := 117 } : Room) s m ([.ref (q 0)] : List Value).toArray below meth c H locs 0 0 (MQ below (va_Qi Z (xr_po D cy xl_B q) (xw_A xl_B q s.heap.size)) ([.ref (q 0)] : List Value).toArray s 0 0 (xw_A xl_B q s.heap.size)) (F0 m 145 ls [.int s0, .ref (q 0)]))
    (by
    intro σ v1 hB H locs ls hw hl
    unfold xb_X12_read_10 at hB
    refine lv_iload_n hx hb dX12_read_10 rfl (lv_at hl 1 rfl) ?_
    refine lv_aload_n hx hb dX12_read_11 rfl (lv_at hl 0 rfl) ?_
    refine xr_geti X hw (xf_X12_205 X) 0 xl_B_ShowRingsModel_at rfl dX12_read_12 ?_
    refine lv_icmp_ge (tgt := 36) hx hb dX12_read_15 (by decide) (fun hc => ?_) (fun hc => ?_)
    · replace hB := hB.1 hc
      refine lv_aload_n hx hb dX12_read_36 rfl (lv_at hl 0 rfl) ?_
      refine lv_iconst (v := (0 : Int32)) hx hb dX12_read_37 (by decide) ?_
      refine xr_puti X hw (xp_X12_198 X) 0 xl_B_ShowRingsModel_at rfl dX12_read_38 hB (fun σ2 H locs hB hw => ?_)
      refine lv_aload_n hx hb dX12_read_41 rfl (lv_at hl 0 rfl) ?_
      refine xr_v hw (xr_runV (As := []) (rest := []) X hw 0 (xc_X12_cut l D cy q σ2 hB _) xm_X12_cut xt_5_182 xt_5_184 xt_p_29 ⟨Nat.le_of_ble_eq_true rfl, Nat.le_of_ble_eq_true rfl⟩ xl_B_ShowRingsModel_at rfl rfl rfl rfl hl.1 (Nat.le_of_ble_eq_true rfl) dX12_read_42 ⟨Nat.zero_le _, Nat.zero_le _⟩) (fun σ3 H locs hB hw => ?_)
      refine lv_aload_n hx hb dX12_read_45 rfl (lv_at hl 0 rfl) ?_
      refine lv_iconst (v := (0 : Int32)) hx hb dX12_read_46 (by decide) ?_
      refine xr_puti X hw (xp_X12_239 X) 0 xl_B_ShowRingsModel_at rfl dX12_read_47 hB (fun σ4 H locs hB hw => ?_)
      refine lv_aload_n hx hb dX12_read_50 rfl (lv_at hl 0 rfl) ?_
      refine lv_iconst (v := (0 : Int32)) hx hb dX12_read_51 (by decide) ?_
      refine xr_puti X hw (xp_X12_263 X) 0 xl_B_ShowRingsModel_at rfl dX12_read_52 hB (fun σ5 H locs hB hw => ?_)
      refine lv_aload_n hx hb dX12_read_55 rfl (lv_at hl 0 rfl) ?_
      refine lv_iconst (v := (0 : Int32)) hx hb dX12_read_56 (by decide) ?_
      refine xr_puti X hw (xp_X12_236 X) 0 xl_B_ShowRingsModel_at rfl dX12_read_57 hB (fun σ6 H locs hB hw => ?_)
      refine lv_aload_n hx hb dX12_read_60 rfl (lv_at hl 0 rfl) ?_
      refine lv_iconst (v := (0 : Int32)) hx hb dX12_read_61 (by decide) ?_
      refine xr_puti X hw (xp_X12_245 X) 0 xl_B_ShowRingsModel_at rfl dX12_read_62 hB (fun σ7 H locs hB hw => ?_)
      refine lv_aload_n hx hb dX12_read_65 rfl (lv_at hl 0 rfl) ?_
      refine lv_iconst (v := (1 : Int32)) hx hb dX12_read_66 (by decide) ?_
      refine lv_aload_n hx hb dX12_read_67 rfl (lv_at hl 0 rfl) ?_
      refine xr_geti X hw (xf_X12_266 X) 0 xl_B_ShowRingsModel_at rfl dX12_read_68 ?_
      refine lv_isub hx hb dX12_read_71 ?_
      refine xr_puti X hw (xp_X12_269 X) 0 xl_B_ShowRingsModel_at rfl dX12_read_72 hB (fun σ8 H locs hB hw => ?_)
      refine lv_aload_n hx hb dX12_read_75 rfl (lv_at hl 0 rfl) ?_
      refine xr_getr X hw (xf_X12_40 X) 0 xl_B_ShowRingsModel_at rfl dX12_read_76 ?_
      refine lv_aload_n hx hb dX12_read_79 rfl (lv_at hl 0 rfl) ?_
      refine xr_geti X hw (xf_X12_269 X) 0 xl_B_ShowRingsModel_at rfl dX12_read_80 ?_
      refine lv_iconst (v := (0 : Int32)) hx hb dX12_read_83 (by decide) ?_
      refine xr_iast X hw 8 xl_B_ShowRingsModel_rules_at hB.1 dX12_read_84 hB.2 (fun σ9 H locs hB hw => ?_)
      refine lv_aload_n hx hb dX12_read_85 rfl (lv_at hl 0 rfl) ?_
      refine xr_getr X hw (xf_X12_64 X) 0 xl_B_ShowRingsModel_at rfl dX12_read_86 ?_
      refine lv_aload_n hx hb dX12_read_89 rfl (lv_at hl 0 rfl) ?_
      refine xr_geti X hw (xf_X12_269 X) 0 xl_B_ShowRingsModel_at rfl dX12_read_90 ?_
      refine lv_iconst (v := (0 : Int32)) hx hb dX12_read_93 (by decide) ?_
      refine xr_iast X hw 16 xl_B_ShowRingsModel_relations_at hB.1 dX12_read_94 hB.2 (fun σ10 H locs hB hw => ?_)
      refine lv_aload_n hx hb dX12_read_95 rfl (lv_at hl 0 rfl) ?_
      refine lv_sipush (v := (500 : Int32)) hx hb dX12_read_96 (by decide) ?_
      refine lv_aload_n hx hb dX12_read_99 rfl (lv_at hl 0 rfl) ?_
      refine xr_geti X hw (xf_X12_269 X) 0 xl_B_ShowRingsModel_at rfl dX12_read_100 ?_
      refine lv_imul hx hb dX12_read_103 ?_
      refine xr_puti X hw (xp_X12_272 X) 0 xl_B_ShowRingsModel_at rfl dX12_read_104 hB (fun σ11 H locs hB hw => ?_)
      exact hB _ _ _ hw (lv_sub hl [0] rfl)
    · replace hB := hB.2 hc
      refine lv_aload_n hx hb dX12_read_18 rfl (lv_at hl 0 rfl) ?_
      refine xr_getr X hw (xf_X12_17 X) 0 xl_B_ShowRingsModel_at rfl dX12_read_19 ?_
      refine lv_iload_n hx hb dX12_read_22 rfl (lv_at hl 1 rfl) ?_
      refine lv_aload_n hx hb dX12_read_23 rfl (lv_at hl 0 rfl) ?_
      refine xr_getr X hw (xf_X12_13 X) 0 xl_B_ShowRingsModel_at rfl dX12_read_24 ?_
      refine lv_iload_n hx hb dX12_read_27 rfl (lv_at hl 1 rfl) ?_
      refine xr_bald X hw 1 xl_B_ShowRingsModel_tape_at hB.1 dX12_read_28 ?_
      replace hB := hB.2
      refine xr_bast X hw 2 xl_B_ShowRingsModel_text_at hB.1 dX12_read_29 hB.2 (fun σ12 H locs hB hw => ?_)
      refine lv_iinc (v := (v1 + (1 : Int32))) (lv' := [(1, .int (v1 + (1 : Int32))), (0, .ref (q 0))]) hx hb dX12_read_30 hl (k := 1) rfl rfl (by decide) rfl (fun ls hl => ?_)
      refine lv_goto (tgt := 10) hx hb dX12_read_33 (by decide) ?_
      exact hB _ _ _ hw (lv_sub hl [1, 0] rfl))
    (by
    intro σ hB H locs ls hw hl
    unfold xb_X12_read_107 at hB
    refine lv_aload_n hx hb dX12_read_107 rfl (lv_at hl 0 rfl) ?_
    refine xr_geti X hw (xf_X12_236 X) 0 xl_B_ShowRingsModel_at rfl dX12_read_108 ?_
    refine lv_if_ne (tgt := 129) hx hb dX12_read_111 (by decide) (fun hc => ?_) (fun hc => ?_)
    · replace hB := hB.1 hc
      refine lv_aload_n hx hb dX12_read_129 rfl (lv_at hl 0 rfl) ?_
      refine lv_aload_n hx hb dX12_read_130 rfl (lv_at hl 0 rfl) ?_
      refine xr_geti X hw (xf_X12_236 X) 0 xl_B_ShowRingsModel_at rfl dX12_read_131 ?_
      refine lv_if_le (tgt := 144) hx hb dX12_read_134 (by decide) (fun hc => ?_) (fun hc => ?_)
      · replace hB := hB.1 hc
        refine lv_iconst (v := (-1 : Int32)) hx hb dX12_read_144 (by decide) ?_
        exact hB _ _ _ hw (lv_sub hl [0] rfl)
      · replace hB := hB.2 hc
        refine lv_aload_n hx hb dX12_read_137 rfl (lv_at hl 0 rfl) ?_
        refine xr_geti X hw (xf_X12_242 X) 0 xl_B_ShowRingsModel_at rfl dX12_read_138 ?_
        refine lv_goto (tgt := 145) hx hb dX12_read_141 (by decide) ?_
        exact hB _ _ _ hw (lv_sub hl [0] rfl)
    · replace hB := hB.2 hc
      refine lv_aload_n hx hb dX12_read_114 rfl (lv_at hl 0 rfl) ?_
      refine lv_iconst (v := (0 : Int32)) hx hb dX12_read_115 (by decide) ?_
      refine xr_i hw (xr_runV (As := [.int (0 : Int32)]) (rest := []) X hw 0 (xc_X12_is l D cy q σ (0 : Int32) hB _) xm_X12_is xt_5_204 xt_5_206 xt_p_33 ⟨Nat.le_of_ble_eq_true rfl, Nat.le_of_ble_eq_true rfl⟩ xl_B_ShowRingsModel_at rfl rfl rfl rfl hl.1 (Nat.le_of_ble_eq_true rfl) dX12_read_116 ⟨Nat.zero_le _, Nat.zero_le _⟩) (fun r14 σ13 H locs hB hw => ?_)
      refine lv_if_ne (tgt := 129) hx hb dX12_read_119 (by decide) (fun hc => ?_) (fun hc => ?_)
      · replace hB := hB.1 hc
        refine lv_aload_n hx hb dX12_read_129 rfl (lv_at hl 0 rfl) ?_
        refine lv_aload_n hx hb dX12_read_130 rfl (lv_at hl 0 rfl) ?_
        refine xr_geti X hw (xf_X12_236 X) 0 xl_B_ShowRingsModel_at rfl dX12_read_131 ?_
        refine lv_if_le (tgt := 144) hx hb dX12_read_134 (by decide) (fun hc => ?_) (fun hc => ?_)
        · replace hB := hB.1 hc
          refine lv_iconst (v := (-1 : Int32)) hx hb dX12_read_144 (by decide) ?_
          exact hB _ _ _ hw (lv_sub hl [0] rfl)
        · replace hB := hB.2 hc
          refine lv_aload_n hx hb dX12_read_137 rfl (lv_at hl 0 rfl) ?_
          refine xr_geti X hw (xf_X12_242 X) 0 xl_B_ShowRingsModel_at rfl dX12_read_138 ?_
          refine lv_goto (tgt := 145) hx hb dX12_read_141 (by decide) ?_
          exact hB _ _ _ hw (lv_sub hl [0] rfl)
      · replace hB := hB.2 hc
        refine lv_aload_n hx hb dX12_read_122 rfl (lv_at hl 0 rfl) ?_
        refine xr_v hw (xr_runV (As := []) (rest := []) X hw 0 (xc_X12_tellRule l D cy q σ13 hB _) xm_X12_tellRule xt_5_208 xt_5_210 xt_p_34 ⟨Nat.le_of_ble_eq_true rfl, Nat.le_of_ble_eq_true rfl⟩ xl_B_ShowRingsModel_at rfl rfl rfl rfl hl.1 (Nat.le_of_ble_eq_true rfl) dX12_read_123 ⟨Nat.zero_le _, Nat.zero_le _⟩) (fun σ15 H locs hB hw => ?_)
        refine lv_goto (tgt := 107) hx hb dX12_read_126 (by decide) ?_
        exact hB _ _ _ hw (lv_sub hl [0] rfl))
    (by
    intro σ s0 hB H locs ls hw hl
    unfold xb_X12_read_145 at hB
    refine xr_puti X hw (xp_X12_37 X) 0 xl_B_ShowRingsModel_at rfl dX12_read_145 hB (fun σ16 H locs hB hw => ?_)
    refine lv_aload_n hx hb dX12_read_148 rfl (lv_at hl 0 rfl) ?_
    refine xr_geti X hw (xf_X12_236 X) 0 xl_B_ShowRingsModel_at rfl dX12_read_149 ?_
    refine lv_if_le (tgt := 160) hx hb dX12_read_152 (by decide) (fun hc => ?_) (fun hc => ?_)
    · replace hB := hB.1 hc
      refine lv_aload_n hx hb dX12_read_160 rfl (lv_at hl 0 rfl) ?_
      refine lv_aload_n hx hb dX12_read_161 rfl (lv_at hl 0 rfl) ?_
      refine xr_geti X hw (xf_X12_269 X) 0 xl_B_ShowRingsModel_at rfl dX12_read_162 ?_
      refine xr_puti X hw (xp_X12_266 X) 0 xl_B_ShowRingsModel_at rfl dX12_read_165 hB (fun σ17 H locs hB hw => ?_)
      refine lv_iconst (v := (0 : Int32)) hx hb dX12_read_168 (by decide) ?_
      exact xr_iret X hw hr hk hB dX12_read_169
    · replace hB := hB.2 hc
      refine lv_aload_n hx hb dX12_read_155 rfl (lv_at hl 0 rfl) ?_
      refine xr_geti X hw (xf_X12_236 X) 0 xl_B_ShowRingsModel_at rfl dX12_read_156 ?_
      exact xr_iret X hw hr hk hB dX12_read_159)
  unfold xb_X12_read_e at hB
  refine lv_aload_n hx hb dX12_read_0 rfl (lv_at hl 0 rfl) ?_
  refine lv_aload_n hx hb dX12_read_1 rfl (lv_at hl 0 rfl) ?_
  refine xr_geti X hw (xf_X12_198 X) 0 xl_B_ShowRingsModel_at rfl dX12_read_2 ?_
  refine xr_puti X hw (xp_X12_205 X) 0 xl_B_ShowRingsModel_at rfl dX12_read_5 hB (fun σ1 H locs hB hw => ?_)
  refine lv_iconst (v := (0 : Int32)) hx hb dX12_read_8 (by decide) ?_
  refine lv_istore_n (lv' := [(1, .int (0 : Int32)), (0, .ref (q 0))]) hx hb dX12_read_9 rfl hl (by decide) rfl (fun ls hl => ?_)
  exact hB _ _ _ hw (lv_sub hl [1, 0] rfl)
theorem xf_X12_37 {p : Program} {s : State} {m : MethodId} {args : Array Value} {c : Code} {cc : ByteArray} {nL : Nat} {D : va_G} {cy : Nat → ClassId} {lay : List xw_E} {q : Nat → Nat} (X : xr_X p s m args c cc nL RX12 D cy lay q) : xr_F args s RX12 37 12 17 := ⟨RX12, TX12, 77, tyX12, rfl, by decide, fun w h => X.2.2.2.2.1 w (xt_inX12 w h), tyX12_ok, nmX12, Or.inl (X.2.2.2.2.1 _ xt_4_189)⟩
set_option maxRecDepth 100000 in
set_option maxHeartbeats 4000000 in
theorem xc_X12_place (l : Launch) (D : va_G) (cy : Nat → ClassId) (q : Nat → Nat) (σ : xw_M)  {Z : Int32 → xw_M → Prop} (hU : xu_X12_place σ Z) : xr_CI l yX12_place cX12_place 1 .int { frames := 0, cells := 0, slots := 0, locals := 0 } D cy xl_B q σ [.ref (q 0)] Z := by
  refine xr_CI.of RX12 rfl (by decide) (Nat.le_of_ble_eq_true rfl) (fun p e s m below meth c X hw hr hk ls hl => ?_)
  have hx := X.1
  have hb := X.2.1
  have hl : lv_has ls 1 [(0, .ref (q 0))] := hl
  unfold xu_X12_place at hU
  have hB := hU
  refine lv_aload_n hx hb dX12_place_0 rfl (lv_at hl 0 rfl) ?_
  refine xr_geti X hw (xf_X12_37 X) 0 xl_B_ShowRingsModel_at rfl dX12_place_1 ?_
  exact xr_iret X hw hr hk hB dX12_place_4
set_option maxRecDepth 100000 in
set_option maxHeartbeats 4000000 in
theorem xc_X12_isPerson (l : Launch) (D : va_G) (cy : Nat → ClassId) (q : Nat → Nat) (σ : xw_M) (a0 : Int32) {Z : Int32 → xw_M → Prop} (hU : xu_X12_isPerson σ a0 Z) : xr_CI l yX12_isPerson cX12_isPerson 1 .boolean { frames := 0, cells := 0, slots := 0, locals := 0 } D cy xl_B q σ [.int a0] Z := by
  refine xr_CI.of RX12 rfl (by decide) (Nat.le_of_ble_eq_true rfl) (fun p e s m below meth c X hw hr hk ls hl => ?_)
  have hx := X.1
  have hb := X.2.1
  have hl : lv_has ls 1 [(0, .int a0)] := hl
  unfold xu_X12_isPerson at hU
  have hB := hU
  refine lv_iload_n hx hb dX12_isPerson_0 rfl (lv_at hl 0 rfl) ?_
  refine lv_if_lt (tgt := 14) hx hb dX12_isPerson_1 (by decide) (fun hc => ?_) (fun hc => ?_)
  · replace hB := hB.1 hc
    refine lv_iconst (v := (0 : Int32)) hx hb dX12_isPerson_14 (by decide) ?_
    exact xr_zret X hw hr hk hB dX12_isPerson_15
  · replace hB := hB.2 hc
    refine lv_iload_n hx hb dX12_isPerson_4 rfl (lv_at hl 0 rfl) ?_
    refine lv_bipush (v := (12 : Int32)) hx hb dX12_isPerson_5 (by decide) ?_
    refine lv_icmp_ge (tgt := 14) hx hb dX12_isPerson_7 (by decide) (fun hc => ?_) (fun hc => ?_)
    · replace hB := hB.1 hc
      refine lv_iconst (v := (0 : Int32)) hx hb dX12_isPerson_14 (by decide) ?_
      exact xr_zret X hw hr hk hB dX12_isPerson_15
    · replace hB := hB.2 hc
      refine lv_iconst (v := (1 : Int32)) hx hb dX12_isPerson_10 (by decide) ?_
      refine lv_goto (tgt := 15) hx hb dX12_isPerson_11 (by decide) ?_
      exact xr_zret X hw hr hk hB dX12_isPerson_15
theorem xf_X12_302 {p : Program} {s : State} {m : MethodId} {args : Array Value} {c : Code} {cc : ByteArray} {nL : Nat} {D : va_G} {cy : Nat → ClassId} {lay : List xw_E} {q : Nat → Nat} (X : xr_X p s m args c cc nL RX12 D cy lay q) : xr_F args s RX12 302 12 42 := ⟨RX12, TX12, 77, tyX12, rfl, by decide, fun w h => X.2.2.2.2.1 w (xt_inX12 w h), tyX12_ok, nmX12, Or.inl (X.2.2.2.2.1 _ xt_4_214)⟩
set_option maxRecDepth 100000 in
set_option maxHeartbeats 4000000 in
theorem xc_X12_isBreed (l : Launch) (D : va_G) (cy : Nat → ClassId) (q : Nat → Nat) (σ : xw_M) (a1 : Int32) {Z : Int32 → xw_M → Prop} (hU : xu_X12_isBreed σ a1 Z) : xr_CI l yX12_isBreed cX12_isBreed 2 .boolean { frames := 0, cells := 0, slots := 0, locals := 0 } D cy xl_B q σ [.ref (q 0), .int a1] Z := by
  refine xr_CI.of RX12 rfl (by decide) (Nat.le_of_ble_eq_true rfl) (fun p e s m below meth c X hw hr hk ls hl => ?_)
  have hx := X.1
  have hb := X.2.1
  have hl : lv_has ls 2 [(0, .ref (q 0)), (1, .int a1)] := hl
  unfold xu_X12_isBreed at hU
  have hB := hU
  refine lv_iload_n hx hb dX12_isBreed_0 rfl (lv_at hl 1 rfl) ?_
  refine lv_if_lt (tgt := 16) hx hb dX12_isBreed_1 (by decide) (fun hc => ?_) (fun hc => ?_)
  · replace hB := hB.1 hc
    refine lv_iconst (v := (0 : Int32)) hx hb dX12_isBreed_16 (by decide) ?_
    exact xr_zret X hw hr hk hB dX12_isBreed_17
  · replace hB := hB.2 hc
    refine lv_iload_n hx hb dX12_isBreed_4 rfl (lv_at hl 1 rfl) ?_
    refine lv_aload_n hx hb dX12_isBreed_5 rfl (lv_at hl 0 rfl) ?_
    refine xr_geti X hw (xf_X12_302 X) 0 xl_B_ShowRingsModel_at rfl dX12_isBreed_6 ?_
    refine lv_icmp_ge (tgt := 16) hx hb dX12_isBreed_9 (by decide) (fun hc => ?_) (fun hc => ?_)
    · replace hB := hB.1 hc
      refine lv_iconst (v := (0 : Int32)) hx hb dX12_isBreed_16 (by decide) ?_
      exact xr_zret X hw hr hk hB dX12_isBreed_17
    · replace hB := hB.2 hc
      refine lv_iconst (v := (1 : Int32)) hx hb dX12_isBreed_12 (by decide) ?_
      refine lv_goto (tgt := 17) hx hb dX12_isBreed_13 (by decide) ?_
      exact xr_zret X hw hr hk hB dX12_isBreed_17
theorem xf_X12_305 {p : Program} {s : State} {m : MethodId} {args : Array Value} {c : Code} {cc : ByteArray} {nL : Nat} {D : va_G} {cy : Nat → ClassId} {lay : List xw_E} {q : Nat → Nat} (X : xr_X p s m args c cc nL RX12 D cy lay q) : xr_F args s RX12 305 12 47 := ⟨RX12, TX12, 77, tyX12, rfl, by decide, fun w h => X.2.2.2.2.1 w (xt_inX12 w h), tyX12_ok, nmX12, Or.inl (X.2.2.2.2.1 _ xt_4_219)⟩
set_option maxRecDepth 100000 in
set_option maxHeartbeats 4000000 in
theorem xc_X12_isDog (l : Launch) (D : va_G) (cy : Nat → ClassId) (q : Nat → Nat) (σ : xw_M) (a1 : Int32) {Z : Int32 → xw_M → Prop} (hU : xu_X12_isDog σ a1 Z) : xr_CI l yX12_isDog cX12_isDog 2 .boolean { frames := 0, cells := 0, slots := 0, locals := 0 } D cy xl_B q σ [.ref (q 0), .int a1] Z := by
  refine xr_CI.of RX12 rfl (by decide) (Nat.le_of_ble_eq_true rfl) (fun p e s m below meth c X hw hr hk ls hl => ?_)
  have hx := X.1
  have hb := X.2.1
  have hl : lv_has ls 2 [(0, .ref (q 0)), (1, .int a1)] := hl
  unfold xu_X12_isDog at hU
  have hB := hU
  refine lv_iload_n hx hb dX12_isDog_0 rfl (lv_at hl 1 rfl) ?_
  refine lv_if_lt (tgt := 16) hx hb dX12_isDog_1 (by decide) (fun hc => ?_) (fun hc => ?_)
  · replace hB := hB.1 hc
    refine lv_iconst (v := (0 : Int32)) hx hb dX12_isDog_16 (by decide) ?_
    exact xr_zret X hw hr hk hB dX12_isDog_17
  · replace hB := hB.2 hc
    refine lv_iload_n hx hb dX12_isDog_4 rfl (lv_at hl 1 rfl) ?_
    refine lv_aload_n hx hb dX12_isDog_5 rfl (lv_at hl 0 rfl) ?_
    refine xr_geti X hw (xf_X12_305 X) 0 xl_B_ShowRingsModel_at rfl dX12_isDog_6 ?_
    refine lv_icmp_ge (tgt := 16) hx hb dX12_isDog_9 (by decide) (fun hc => ?_) (fun hc => ?_)
    · replace hB := hB.1 hc
      refine lv_iconst (v := (0 : Int32)) hx hb dX12_isDog_16 (by decide) ?_
      exact xr_zret X hw hr hk hB dX12_isDog_17
    · replace hB := hB.2 hc
      refine lv_iconst (v := (1 : Int32)) hx hb dX12_isDog_12 (by decide) ?_
      refine lv_goto (tgt := 17) hx hb dX12_isDog_13 (by decide) ?_
      exact xr_zret X hw hr hk hB dX12_isDog_17
theorem xf_X12_308 {p : Program} {s : State} {m : MethodId} {args : Array Value} {c : Code} {cc : ByteArray} {nL : Nat} {D : va_G} {cy : Nat → ClassId} {lay : List xw_E} {q : Nat → Nat} (X : xr_X p s m args c cc nL RX12 D cy lay q) : xr_F args s RX12 308 12 53 := ⟨RX12, TX12, 77, tyX12, rfl, by decide, fun w h => X.2.2.2.2.1 w (xt_inX12 w h), tyX12_ok, nmX12, Or.inl (X.2.2.2.2.1 _ xt_4_225)⟩
set_option maxRecDepth 100000 in
set_option maxHeartbeats 4000000 in
theorem xc_X12_isShow (l : Launch) (D : va_G) (cy : Nat → ClassId) (q : Nat → Nat) (σ : xw_M) (a1 : Int32) {Z : Int32 → xw_M → Prop} (hU : xu_X12_isShow σ a1 Z) : xr_CI l yX12_isShow cX12_isShow 2 .boolean { frames := 0, cells := 0, slots := 0, locals := 0 } D cy xl_B q σ [.ref (q 0), .int a1] Z := by
  refine xr_CI.of RX12 rfl (by decide) (Nat.le_of_ble_eq_true rfl) (fun p e s m below meth c X hw hr hk ls hl => ?_)
  have hx := X.1
  have hb := X.2.1
  have hl : lv_has ls 2 [(0, .ref (q 0)), (1, .int a1)] := hl
  unfold xu_X12_isShow at hU
  have hB := hU
  refine lv_iload_n hx hb dX12_isShow_0 rfl (lv_at hl 1 rfl) ?_
  refine lv_if_lt (tgt := 16) hx hb dX12_isShow_1 (by decide) (fun hc => ?_) (fun hc => ?_)
  · replace hB := hB.1 hc
    refine lv_iconst (v := (0 : Int32)) hx hb dX12_isShow_16 (by decide) ?_
    exact xr_zret X hw hr hk hB dX12_isShow_17
  · replace hB := hB.2 hc
    refine lv_iload_n hx hb dX12_isShow_4 rfl (lv_at hl 1 rfl) ?_
    refine lv_aload_n hx hb dX12_isShow_5 rfl (lv_at hl 0 rfl) ?_
    refine xr_geti X hw (xf_X12_308 X) 0 xl_B_ShowRingsModel_at rfl dX12_isShow_6 ?_
    refine lv_icmp_ge (tgt := 16) hx hb dX12_isShow_9 (by decide) (fun hc => ?_) (fun hc => ?_)
    · replace hB := hB.1 hc
      refine lv_iconst (v := (0 : Int32)) hx hb dX12_isShow_16 (by decide) ?_
      exact xr_zret X hw hr hk hB dX12_isShow_17
    · replace hB := hB.2 hc
      refine lv_iconst (v := (1 : Int32)) hx hb dX12_isShow_12 (by decide) ?_
      refine lv_goto (tgt := 17) hx hb dX12_isShow_13 (by decide) ?_
      exact xr_zret X hw hr hk hB dX12_isShow_17
set_option maxRecDepth 100000 in
set_option maxHeartbeats 4000000 in
theorem xc_X12_isDay (l : Launch) (D : va_G) (cy : Nat → ClassId) (q : Nat → Nat) (σ : xw_M) (a0 : Int32) {Z : Int32 → xw_M → Prop} (hU : xu_X12_isDay σ a0 Z) : xr_CI l yX12_isDay cX12_isDay 1 .boolean { frames := 0, cells := 0, slots := 0, locals := 0 } D cy xl_B q σ [.int a0] Z := by
  refine xr_CI.of RX12 rfl (by decide) (Nat.le_of_ble_eq_true rfl) (fun p e s m below meth c X hw hr hk ls hl => ?_)
  have hx := X.1
  have hb := X.2.1
  have hl : lv_has ls 1 [(0, .int a0)] := hl
  unfold xu_X12_isDay at hU
  have hB := hU
  refine lv_iload_n hx hb dX12_isDay_0 rfl (lv_at hl 0 rfl) ?_
  refine lv_if_lt (tgt := 15) hx hb dX12_isDay_1 (by decide) (fun hc => ?_) (fun hc => ?_)
  · replace hB := hB.1 hc
    refine lv_iconst (v := (0 : Int32)) hx hb dX12_isDay_15 (by decide) ?_
    exact xr_zret X hw hr hk hB dX12_isDay_16
  · replace hB := hB.2 hc
    refine lv_iload_n hx hb dX12_isDay_4 rfl (lv_at hl 0 rfl) ?_
    refine lv_sipush (v := (9999 : Int32)) hx hb dX12_isDay_5 (by decide) ?_
    refine lv_icmp_gt (tgt := 15) hx hb dX12_isDay_8 (by decide) (fun hc => ?_) (fun hc => ?_)
    · replace hB := hB.1 hc
      refine lv_iconst (v := (0 : Int32)) hx hb dX12_isDay_15 (by decide) ?_
      exact xr_zret X hw hr hk hB dX12_isDay_16
    · replace hB := hB.2 hc
      refine lv_iconst (v := (1 : Int32)) hx hb dX12_isDay_11 (by decide) ?_
      refine lv_goto (tgt := 16) hx hb dX12_isDay_12 (by decide) ?_
      exact xr_zret X hw hr hk hB dX12_isDay_16
theorem xf_X12_311 {p : Program} {s : State} {m : MethodId} {args : Array Value} {c : Code} {cc : ByteArray} {nL : Nat} {D : va_G} {cy : Nat → ClassId} {lay : List xw_E} {q : Nat → Nat} (X : xr_X p s m args c cc nL RX12 D cy lay q) : xr_F args s RX12 311 12 56 := ⟨RX12, TX12, 77, tyX12, rfl, by decide, fun w h => X.2.2.2.2.1 w (xt_inX12 w h), tyX12_ok, nmX12, Or.inl (X.2.2.2.2.1 _ xt_4_228)⟩
set_option maxRecDepth 100000 in
set_option maxHeartbeats 4000000 in
theorem xc_X12_isKnown (l : Launch) (D : va_G) (cy : Nat → ClassId) (q : Nat → Nat) (σ : xw_M) (a1 : Int32) {Z : Int32 → xw_M → Prop} (hU : xu_X12_isKnown σ a1 Z) : xr_CI l yX12_isKnown cX12_isKnown 2 .boolean { frames := 0, cells := 0, slots := 0, locals := 0 } D cy xl_B q σ [.ref (q 0), .int a1] Z := by
  refine xr_CI.of RX12 rfl (by decide) (Nat.le_of_ble_eq_true rfl) (fun p e s m below meth c X hw hr hk ls hl => ?_)
  have hx := X.1
  have hb := X.2.1
  have hl : lv_has ls 2 [(0, .ref (q 0)), (1, .int a1)] := hl
  unfold xu_X12_isKnown at hU
  have hB := hU
  refine lv_iload_n hx hb dX12_isKnown_0 rfl (lv_at hl 1 rfl) ?_
  refine lv_if_lt (tgt := 16) hx hb dX12_isKnown_1 (by decide) (fun hc => ?_) (fun hc => ?_)
  · replace hB := hB.1 hc
    refine lv_iconst (v := (0 : Int32)) hx hb dX12_isKnown_16 (by decide) ?_
    exact xr_zret X hw hr hk hB dX12_isKnown_17
  · replace hB := hB.2 hc
    refine lv_iload_n hx hb dX12_isKnown_4 rfl (lv_at hl 1 rfl) ?_
    refine lv_aload_n hx hb dX12_isKnown_5 rfl (lv_at hl 0 rfl) ?_
    refine xr_geti X hw (xf_X12_311 X) 0 xl_B_ShowRingsModel_at rfl dX12_isKnown_6 ?_
    refine lv_icmp_gt (tgt := 16) hx hb dX12_isKnown_9 (by decide) (fun hc => ?_) (fun hc => ?_)
    · replace hB := hB.1 hc
      refine lv_iconst (v := (0 : Int32)) hx hb dX12_isKnown_16 (by decide) ?_
      exact xr_zret X hw hr hk hB dX12_isKnown_17
    · replace hB := hB.2 hc
      refine lv_iconst (v := (1 : Int32)) hx hb dX12_isKnown_12 (by decide) ?_
      refine lv_goto (tgt := 17) hx hb dX12_isKnown_13 (by decide) ?_
      exact xr_zret X hw hr hk hB dX12_isKnown_17
theorem xm_X12_isPerson : xr_MW yX12_isPerson cX12_isPerson 1 (some .boolean) 1 := ⟨xt_6_14, xt_1_13, by decide, by decide, by decide +kernel⟩
theorem xf_X12_92 {p : Program} {s : State} {m : MethodId} {args : Array Value} {c : Code} {cc : ByteArray} {nL : Nat} {D : va_G} {cy : Nat → ClassId} {lay : List xw_E} {q : Nat → Nat} (X : xr_X p s m args c cc nL RX12 D cy lay q) : xr_F args s RX12 92 12 39 := ⟨RX12, TX12, 77, tyX12, rfl, by decide, fun w h => X.2.2.2.2.1 w (xt_inX12 w h), tyX12_ok, nmX12, Or.inl (X.2.2.2.2.1 _ xt_4_211)⟩
set_option maxRecDepth 100000 in
set_option maxHeartbeats 4000000 in
theorem xc_X12_kin (l : Launch) (D : va_G) (cy : Nat → ClassId) (q : Nat → Nat) (σ : xw_M) (a1 : Int32) (a2 : Int32) {Z : Int32 → xw_M → Prop} (hU : xu_X12_kin σ a1 a2 Z) : xr_CI l yX12_kin cX12_kin 3 .boolean { frames := 1, cells := 0, slots := 0, locals := 20 } D cy xl_B q σ [.ref (q 0), .int a1, .int a2] Z := by
  refine xr_CI.of RX12 rfl (by decide) (Nat.le_of_ble_eq_true rfl) (fun p e s m below meth c X hw hr hk ls hl => ?_)
  have hx := X.1
  have hb := X.2.1
  have hl : lv_has ls 3 [(0, .ref (q 0)), (1, .int a1), (2, .int a2)] := hl
  unfold xu_X12_kin at hU
  have hB := hU
  refine lv_iload_n hx hb dX12_kin_0 rfl (lv_at hl 1 rfl) ?_
  refine xr_i hw (xr_runS (As := [.int a1]) (rest := []) X hw (xc_X12_isPerson l D cy q σ a1 hB _) xm_X12_isPerson xt_6_12 xt_6_13 ⟨Nat.le_of_ble_eq_true rfl, Nat.le_of_ble_eq_true rfl⟩ rfl rfl hl.1 (Nat.le_of_ble_eq_true rfl) dX12_kin_1 ⟨Nat.zero_le _, Nat.zero_le _⟩) (fun r2 σ1 H locs hB hw => ?_)
  refine lv_if_eq (tgt := 33) hx hb dX12_kin_4 (by decide) (fun hc => ?_) (fun hc => ?_)
  · replace hB := hB.1 hc
    refine lv_iconst (v := (0 : Int32)) hx hb dX12_kin_33 (by decide) ?_
    exact xr_zret X hw hr hk hB dX12_kin_34
  · replace hB := hB.2 hc
    refine lv_iload_n hx hb dX12_kin_7 rfl (lv_at hl 2 rfl) ?_
    refine xr_i hw (xr_runS (As := [.int a2]) (rest := []) X hw (xc_X12_isPerson l D cy q σ1 a2 hB _) xm_X12_isPerson xt_6_12 xt_6_13 ⟨Nat.le_of_ble_eq_true rfl, Nat.le_of_ble_eq_true rfl⟩ rfl rfl hl.1 (Nat.le_of_ble_eq_true rfl) dX12_kin_8 ⟨Nat.zero_le _, Nat.zero_le _⟩) (fun r4 σ3 H locs hB hw => ?_)
    refine lv_if_eq (tgt := 33) hx hb dX12_kin_11 (by decide) (fun hc => ?_) (fun hc => ?_)
    · replace hB := hB.1 hc
      refine lv_iconst (v := (0 : Int32)) hx hb dX12_kin_33 (by decide) ?_
      exact xr_zret X hw hr hk hB dX12_kin_34
    · replace hB := hB.2 hc
      refine lv_iload_n hx hb dX12_kin_14 rfl (lv_at hl 1 rfl) ?_
      refine lv_iload_n hx hb dX12_kin_15 rfl (lv_at hl 2 rfl) ?_
      refine lv_icmp_eq (tgt := 33) hx hb dX12_kin_16 (by decide) (fun hc => ?_) (fun hc => ?_)
      · replace hB := hB.1 hc
        refine lv_iconst (v := (0 : Int32)) hx hb dX12_kin_33 (by decide) ?_
        exact xr_zret X hw hr hk hB dX12_kin_34
      · replace hB := hB.2 hc
        refine lv_aload_n hx hb dX12_kin_19 rfl (lv_at hl 0 rfl) ?_
        refine xr_getr X hw (xf_X12_92 X) 0 xl_B_ShowRingsModel_at rfl dX12_kin_20 ?_
        refine lv_bipush (v := (12 : Int32)) hx hb dX12_kin_23 (by decide) ?_
        refine lv_iload_n hx hb dX12_kin_25 rfl (lv_at hl 1 rfl) ?_
        refine lv_imul hx hb dX12_kin_26 ?_
        refine lv_iload_n hx hb dX12_kin_27 rfl (lv_at hl 2 rfl) ?_
        refine lv_iadd hx hb dX12_kin_28 ?_
        refine xr_zald X hw 25 xl_B_ShowRingsModel_areKin_at hB.1 dX12_kin_29 ?_
        replace hB := hB.2
        refine lv_if_eq (tgt := 35) hx hb dX12_kin_30 (by decide) (fun hc => ?_) (fun hc => ?_)
        · replace hB := hB.1 hc
          refine lv_aload_n hx hb dX12_kin_35 rfl (lv_at hl 0 rfl) ?_
          refine xr_getr X hw (xf_X12_92 X) 0 xl_B_ShowRingsModel_at rfl dX12_kin_36 ?_
          refine lv_bipush (v := (12 : Int32)) hx hb dX12_kin_39 (by decide) ?_
          refine lv_iload_n hx hb dX12_kin_41 rfl (lv_at hl 1 rfl) ?_
          refine lv_imul hx hb dX12_kin_42 ?_
          refine lv_iload_n hx hb dX12_kin_43 rfl (lv_at hl 2 rfl) ?_
          refine lv_iadd hx hb dX12_kin_44 ?_
          refine lv_iconst (v := (1 : Int32)) hx hb dX12_kin_45 (by decide) ?_
          refine xr_zast X hw 25 xl_B_ShowRingsModel_areKin_at hB.1 dX12_kin_46 hB.2 (fun σ5 H locs hB hw => ?_)
          refine lv_aload_n hx hb dX12_kin_47 rfl (lv_at hl 0 rfl) ?_
          refine xr_getr X hw (xf_X12_92 X) 0 xl_B_ShowRingsModel_at rfl dX12_kin_48 ?_
          refine lv_bipush (v := (12 : Int32)) hx hb dX12_kin_51 (by decide) ?_
          refine lv_iload_n hx hb dX12_kin_53 rfl (lv_at hl 2 rfl) ?_
          refine lv_imul hx hb dX12_kin_54 ?_
          refine lv_iload_n hx hb dX12_kin_55 rfl (lv_at hl 1 rfl) ?_
          refine lv_iadd hx hb dX12_kin_56 ?_
          refine lv_iconst (v := (1 : Int32)) hx hb dX12_kin_57 (by decide) ?_
          refine xr_zast X hw 25 xl_B_ShowRingsModel_areKin_at hB.1 dX12_kin_58 hB.2 (fun σ6 H locs hB hw => ?_)
          refine lv_iconst (v := (1 : Int32)) hx hb dX12_kin_59 (by decide) ?_
          exact xr_zret X hw hr hk hB dX12_kin_60
        · replace hB := hB.2 hc
          refine lv_iconst (v := (0 : Int32)) hx hb dX12_kin_33 (by decide) ?_
          exact xr_zret X hw hr hk hB dX12_kin_34
