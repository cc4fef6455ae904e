theorem xf_X12_98 {p : Program} {s : State} {m : MethodId} {args : Array Value} {c : Code} {cc : ByteArray} {nL : Nat} {D : va_G} {cy : Nat → ClassId} {lay : List xw_E} {q : Nat → Nat} (X : xr_X p s m args c cc nL RX12 D cy lay q) : xr_F args s RX12 98 12 43 := ⟨RX12, TX12, 77, tyX12, rfl, by decide, fun w h => X.2.2.2.2.1 w (xt_inX12 w h), tyX12_ok, nmX12, Or.inl (X.2.2.2.2.1 _ xt_4_215)⟩
theorem xf_X12_101 {p : Program} {s : State} {m : MethodId} {args : Array Value} {c : Code} {cc : ByteArray} {nL : Nat} {D : va_G} {cy : Nat → ClassId} {lay : List xw_E} {q : Nat → Nat} (X : xr_X p s m args c cc nL RX12 D cy lay q) : xr_F args s RX12 101 12 44 := ⟨RX12, TX12, 77, tyX12, rfl, by decide, fun w h => X.2.2.2.2.1 w (xt_inX12 w h), tyX12_ok, nmX12, Or.inl (X.2.2.2.2.1 _ xt_4_216)⟩
theorem xf_X12_104 {p : Program} {s : State} {m : MethodId} {args : Array Value} {c : Code} {cc : ByteArray} {nL : Nat} {D : va_G} {cy : Nat → ClassId} {lay : List xw_E} {q : Nat → Nat} (X : xr_X p s m args c cc nL RX12 D cy lay q) : xr_F args s RX12 104 12 45 := ⟨RX12, TX12, 77, tyX12, rfl, by decide, fun w h => X.2.2.2.2.1 w (xt_inX12 w h), tyX12_ok, nmX12, Or.inl (X.2.2.2.2.1 _ xt_4_217)⟩
theorem xf_X12_107 {p : Program} {s : State} {m : MethodId} {args : Array Value} {c : Code} {cc : ByteArray} {nL : Nat} {D : va_G} {cy : Nat → ClassId} {lay : List xw_E} {q : Nat → Nat} (X : xr_X p s m args c cc nL RX12 D cy lay q) : xr_F args s RX12 107 12 46 := ⟨RX12, TX12, 77, tyX12, rfl, by decide, fun w h => X.2.2.2.2.1 w (xt_inX12 w h), tyX12_ok, nmX12, Or.inl (X.2.2.2.2.1 _ xt_4_218)⟩
theorem xp_X12_302 {p : Program} {s : State} {m : MethodId} {args : Array Value} {c : Code} {cc : ByteArray} {nL : Nat} {D : va_G} {cy : Nat → ClassId} {lay : List xw_E} {q : Nat → Nat} (X : xr_X p s m args c cc nL RX12 D cy lay q) : xr_P args s RX12 302 12 42 := ⟨RX12, TX12, 77, tyX12, rfl, by decide, fun w h => X.2.2.2.2.1 w (xt_inX12 w h), tyX12_ok, nmX12, Or.inl (X.2.2.2.2.1 _ xt_4_214), rfl, by decide +kernel⟩
set_option maxRecDepth 100000 in
set_option maxHeartbeats 4000000 in
theorem xc_X12_breed (l : Launch) (D : va_G) (cy : Nat → ClassId) (q : Nat → Nat) (σ : xw_M) (a1 : Int32) (a2 : Int32) (a3 : Int32) (a4 : Int32) {Z : Int32 → xw_M → Prop} (hU : xu_X12_breed σ a1 a2 a3 a4 Z) : xr_CI l yX12_breed cX12_breed 5 .int { frames := 0, cells := 0, slots := 0, locals := 0 } D cy xl_B q σ [.ref (q 0), .int a1, .int a2, .int a3, .int a4] Z := by
  refine xr_CI.of RX12 rfl (by decide) (Nat.le_of_ble_eq_true rfl) (fun p e s m below meth c X hw hr hk ls hl => ?_)
  have hx := X.1
  have hb := X.2.1
  have hl : lv_has ls 5 [(0, .ref (q 0)), (1, .int a1), (2, .int a2), (3, .int a3), (4, .int a4)] := hl
  unfold xu_X12_breed at hU
  have hB := hU
  refine lv_aload_n hx hb dX12_breed_0 rfl (lv_at hl 0 rfl) ?_
  refine xr_geti X hw (xf_X12_302 X) 0 xl_B_ShowRingsModel_at rfl dX12_breed_1 ?_
  refine lv_bipush (v := (6 : Int32)) hx hb dX12_breed_4 (by decide) ?_
  refine lv_icmp_eq (tgt := 46) hx hb dX12_breed_6 (by decide) (fun hc => ?_) (fun hc => ?_)
  · replace hB := hB.1 hc
    refine lv_iconst (v := (-1 : Int32)) hx hb dX12_breed_46 (by decide) ?_
    exact xr_iret X hw hr hk hB dX12_breed_47
  · replace hB := hB.2 hc
    refine lv_iload_n hx hb dX12_breed_9 rfl (lv_at hl 1 rfl) ?_
    refine lv_if_lt (tgt := 46) hx hb dX12_breed_10 (by decide) (fun hc => ?_) (fun hc => ?_)
    · replace hB := hB.1 hc
      refine lv_iconst (v := (-1 : Int32)) hx hb dX12_breed_46 (by decide) ?_
      exact xr_iret X hw hr hk hB dX12_breed_47
    · replace hB := hB.2 hc
      refine lv_iload_n hx hb dX12_breed_13 rfl (lv_at hl 1 rfl) ?_
      refine lv_iconst (v := (2 : Int32)) hx hb dX12_breed_14 (by decide) ?_
      refine lv_icmp_gt (tgt := 46) hx hb dX12_breed_15 (by decide) (fun hc => ?_) (fun hc => ?_)
      · replace hB := hB.1 hc
        refine lv_iconst (v := (-1 : Int32)) hx hb dX12_breed_46 (by decide) ?_
        exact xr_iret X hw hr hk hB dX12_breed_47
      · replace hB := hB.2 hc
        refine lv_iload_n hx hb dX12_breed_18 rfl (lv_at hl 2 rfl) ?_
        refine lv_iconst (v := (1 : Int32)) hx hb dX12_breed_19 (by decide) ?_
        refine lv_icmp_lt (tgt := 46) hx hb dX12_breed_20 (by decide) (fun hc => ?_) (fun hc => ?_)
        · replace hB := hB.1 hc
          refine lv_iconst (v := (-1 : Int32)) hx hb dX12_breed_46 (by decide) ?_
          exact xr_iret X hw hr hk hB dX12_breed_47
        · replace hB := hB.2 hc
          refine lv_iload_n hx hb dX12_breed_23 rfl (lv_at hl 2 rfl) ?_
          refine lv_bipush (v := (9 : Int32)) hx hb dX12_breed_24 (by decide) ?_
          refine lv_icmp_gt (tgt := 46) hx hb dX12_breed_26 (by decide) (fun hc => ?_) (fun hc => ?_)
          · replace hB := hB.1 hc
            refine lv_iconst (v := (-1 : Int32)) hx hb dX12_breed_46 (by decide) ?_
            exact xr_iret X hw hr hk hB dX12_breed_47
          · replace hB := hB.2 hc
            refine lv_iload_n hx hb dX12_breed_29 rfl (lv_at hl 3 rfl) ?_
            refine lv_if_lt (tgt := 46) hx hb dX12_breed_30 (by decide) (fun hc => ?_) (fun hc => ?_)
            · replace hB := hB.1 hc
              refine lv_iconst (v := (-1 : Int32)) hx hb dX12_breed_46 (by decide) ?_
              exact xr_iret X hw hr hk hB dX12_breed_47
            · replace hB := hB.2 hc
              refine lv_iload_n hx hb dX12_breed_33 rfl (lv_at hl 3 rfl) ?_
              refine lv_iload hx hb dX12_breed_34 (lv_at hl 4 rfl) ?_
              refine lv_icmp_gt (tgt := 46) hx hb dX12_breed_36 (by decide) (fun hc => ?_) (fun hc => ?_)
              · replace hB := hB.1 hc
                refine lv_iconst (v := (-1 : Int32)) hx hb dX12_breed_46 (by decide) ?_
                exact xr_iret X hw hr hk hB dX12_breed_47
              · replace hB := hB.2 hc
                refine lv_iload hx hb dX12_breed_39 (lv_at hl 4 rfl) ?_
                refine lv_bipush (v := (99 : Int32)) hx hb dX12_breed_41 (by decide) ?_
                refine lv_icmp_le (tgt := 48) hx hb dX12_breed_43 (by decide) (fun hc => ?_) (fun hc => ?_)
                · replace hB := hB.1 hc
                  refine lv_aload_n hx hb dX12_breed_48 rfl (lv_at hl 0 rfl) ?_
                  refine xr_getr X hw (xf_X12_98 X) 0 xl_B_ShowRingsModel_at rfl dX12_breed_49 ?_
                  refine lv_aload_n hx hb dX12_breed_52 rfl (lv_at hl 0 rfl) ?_
                  refine xr_geti X hw (xf_X12_302 X) 0 xl_B_ShowRingsModel_at rfl dX12_breed_53 ?_
                  refine lv_iload_n hx hb dX12_breed_56 rfl (lv_at hl 1 rfl) ?_
                  refine xr_iast X hw 27 xl_B_ShowRingsModel_group_at hB.1 dX12_breed_57 hB.2 (fun σ1 H locs hB hw => ?_)
                  refine lv_aload_n hx hb dX12_breed_58 rfl (lv_at hl 0 rfl) ?_
                  refine xr_getr X hw (xf_X12_101 X) 0 xl_B_ShowRingsModel_at rfl dX12_breed_59 ?_
                  refine lv_aload_n hx hb dX12_breed_62 rfl (lv_at hl 0 rfl) ?_
                  refine xr_geti X hw (xf_X12_302 X) 0 xl_B_ShowRingsModel_at rfl dX12_breed_63 ?_
                  refine lv_iload_n hx hb dX12_breed_66 rfl (lv_at hl 2 rfl) ?_
                  refine xr_iast X hw 28 xl_B_ShowRingsModel_minutes_at hB.1 dX12_breed_67 hB.2 (fun σ2 H locs hB hw => ?_)
                  refine lv_aload_n hx hb dX12_breed_68 rfl (lv_at hl 0 rfl) ?_
                  refine xr_getr X hw (xf_X12_104 X) 0 xl_B_ShowRingsModel_at rfl dX12_breed_69 ?_
                  refine lv_aload_n hx hb dX12_breed_72 rfl (lv_at hl 0 rfl) ?_
                  refine xr_geti X hw (xf_X12_302 X) 0 xl_B_ShowRingsModel_at rfl dX12_breed_73 ?_
                  refine lv_iload_n hx hb dX12_breed_76 rfl (lv_at hl 3 rfl) ?_
                  refine xr_iast X hw 29 xl_B_ShowRingsModel_heightFrom_at hB.1 dX12_breed_77 hB.2 (fun σ3 H locs hB hw => ?_)
                  refine lv_aload_n hx hb dX12_breed_78 rfl (lv_at hl 0 rfl) ?_
                  refine xr_getr X hw (xf_X12_107 X) 0 xl_B_ShowRingsModel_at rfl dX12_breed_79 ?_
                  refine lv_aload_n hx hb dX12_breed_82 rfl (lv_at hl 0 rfl) ?_
                  refine xr_geti X hw (xf_X12_302 X) 0 xl_B_ShowRingsModel_at rfl dX12_breed_83 ?_
                  refine lv_iload hx hb dX12_breed_86 (lv_at hl 4 rfl) ?_
                  refine xr_iast X hw 30 xl_B_ShowRingsModel_heightTo_at hB.1 dX12_breed_88 hB.2 (fun σ4 H locs hB hw => ?_)
                  refine lv_aload_n hx hb dX12_breed_89 rfl (lv_at hl 0 rfl) ?_
                  refine lv_dup hx hb dX12_breed_90 rfl ?_
                  refine xr_geti X hw (xf_X12_302 X) 0 xl_B_ShowRingsModel_at rfl dX12_breed_91 ?_
                  refine lv_iconst (v := (1 : Int32)) hx hb dX12_breed_94 (by decide) ?_
                  refine lv_iadd hx hb dX12_breed_95 ?_
                  refine xr_puti X hw (xp_X12_302 X) 0 xl_B_ShowRingsModel_at rfl dX12_breed_96 hB (fun σ5 H locs hB hw => ?_)
                  refine lv_aload_n hx hb dX12_breed_99 rfl (lv_at hl 0 rfl) ?_
                  refine xr_geti X hw (xf_X12_302 X) 0 xl_B_ShowRingsModel_at rfl dX12_breed_100 ?_
                  refine lv_iconst (v := (1 : Int32)) hx hb dX12_breed_103 (by decide) ?_
                  refine lv_isub hx hb dX12_breed_104 ?_
                  exact xr_iret X hw hr hk hB dX12_breed_105
                · replace hB := hB.2 hc
                  refine lv_iconst (v := (-1 : Int32)) hx hb dX12_breed_46 (by decide) ?_
                  exact xr_iret X hw hr hk hB dX12_breed_47
theorem xm_X12_isBreed : xr_MW yX12_isBreed cX12_isBreed 2 (some .boolean) 1 := ⟨xt_6_26, xt_1_13, by decide, by decide, by decide +kernel⟩
theorem xm_X12_isDay : xr_MW yX12_isDay cX12_isDay 1 (some .boolean) 1 := ⟨xt_6_29, xt_1_13, by decide, by decide, by decide +kernel⟩
theorem xf_X12_110 {p : Program} {s : State} {m : MethodId} {args : Array Value} {c : Code} {cc : ByteArray} {nL : Nat} {D : va_G} {cy : Nat → ClassId} {lay : List xw_E} {q : Nat → Nat} (X : xr_X p s m args c cc nL RX12 D cy lay q) : xr_F args s RX12 110 12 48 := ⟨RX12, TX12, 77, tyX12, rfl, by decide, fun w h => X.2.2.2.2.1 w (xt_inX12 w h), tyX12_ok, nmX12, Or.inl (X.2.2.2.2.1 _ xt_4_220)⟩
theorem xf_X12_113 {p : Program} {s : State} {m : MethodId} {args : Array Value} {c : Code} {cc : ByteArray} {nL : Nat} {D : va_G} {cy : Nat → ClassId} {lay : List xw_E} {q : Nat → Nat} (X : xr_X p s m args c cc nL RX12 D cy lay q) : xr_F args s RX12 113 12 49 := ⟨RX12, TX12, 77, tyX12, rfl, by decide, fun w h => X.2.2.2.2.1 w (xt_inX12 w h), tyX12_ok, nmX12, Or.inl (X.2.2.2.2.1 _ xt_4_221)⟩
theorem xf_X12_116 {p : Program} {s : State} {m : MethodId} {args : Array Value} {c : Code} {cc : ByteArray} {nL : Nat} {D : va_G} {cy : Nat → ClassId} {lay : List xw_E} {q : Nat → Nat} (X : xr_X p s m args c cc nL RX12 D cy lay q) : xr_F args s RX12 116 12 50 := ⟨RX12, TX12, 77, tyX12, rfl, by decide, fun w h => X.2.2.2.2.1 w (xt_inX12 w h), tyX12_ok, nmX12, Or.inl (X.2.2.2.2.1 _ xt_4_222)⟩
theorem xf_X12_119 {p : Program} {s : State} {m : MethodId} {args : Array Value} {c : Code} {cc : ByteArray} {nL : Nat} {D : va_G} {cy : Nat → ClassId} {lay : List xw_E} {q : Nat → Nat} (X : xr_X p s m args c cc nL RX12 D cy lay q) : xr_F args s RX12 119 12 51 := ⟨RX12, TX12, 77, tyX12, rfl, by decide, fun w h => X.2.2.2.2.1 w (xt_inX12 w h), tyX12_ok, nmX12, Or.inl (X.2.2.2.2.1 _ xt_4_223)⟩
theorem xf_X12_122 {p : Program} {s : State} {m : MethodId} {args : Array Value} {c : Code} {cc : ByteArray} {nL : Nat} {D : va_G} {cy : Nat → ClassId} {lay : List xw_E} {q : Nat → Nat} (X : xr_X p s m args c cc nL RX12 D cy lay q) : xr_F args s RX12 122 12 52 := ⟨RX12, TX12, 77, tyX12, rfl, by decide, fun w h => X.2.2.2.2.1 w (xt_inX12 w h), tyX12_ok, nmX12, Or.inl (X.2.2.2.2.1 _ xt_4_224)⟩
theorem xp_X12_305 {p : Program} {s : State} {m : MethodId} {args : Array Value} {c : Code} {cc : ByteArray} {nL : Nat} {D : va_G} {cy : Nat → ClassId} {lay : List xw_E} {q : Nat → Nat} (X : xr_X p s m args c cc nL RX12 D cy lay q) : xr_P args s RX12 305 12 47 := ⟨RX12, TX12, 77, tyX12, rfl, by decide, fun w h => X.2.2.2.2.1 w (xt_inX12 w h), tyX12_ok, nmX12, Or.inl (X.2.2.2.2.1 _ xt_4_219), rfl, by decide +kernel⟩
set_option maxRecDepth 100000 in
set_option maxHeartbeats 4000000 in
theorem xc_X12_dog (l : Launch) (D : va_G) (cy : Nat → ClassId) (q : Nat → Nat) (σ : xw_M) (a1 : Int32) (a2 : Int32) (a3 : Int32) (a4 : Int32) (a5 : Int32) {Z : Int32 → xw_M → Prop} (hU : xu_X12_dog σ a1 a2 a3 a4 a5 Z) : xr_CI l yX12_dog cX12_dog 6 .int { frames := 1, cells := 0, slots := 0, locals := 21 } D cy xl_B q σ [.ref (q 0), .int a1, .int a2, .int a3, .int a4, .int a5] Z := by
  refine xr_CI.of RX12 rfl (by decide) (Nat.le_of_ble_eq_true rfl) (fun p e s m below meth c X hw hr hk ls hl => ?_)
  have hx := X.1
  have hb := X.2.1
  have hl : lv_has ls 6 [(0, .ref (q 0)), (1, .int a1), (2, .int a2), (3, .int a3), (4, .int a4), (5, .int a5)] := hl
  unfold xu_X12_dog at hU
  have hB := hU
  refine lv_aload_n hx hb dX12_dog_0 rfl (lv_at hl 0 rfl) ?_
  refine xr_geti X hw (xf_X12_305 X) 0 xl_B_ShowRingsModel_at rfl dX12_dog_1 ?_
  refine lv_bipush (v := (20 : Int32)) hx hb dX12_dog_4 (by decide) ?_
  refine lv_icmp_eq (tgt := 49) hx hb dX12_dog_6 (by decide) (fun hc => ?_) (fun hc => ?_)
  · replace hB := hB.1 hc
    refine lv_iconst (v := (-1 : Int32)) hx hb dX12_dog_49 (by decide) ?_
    exact xr_iret X hw hr hk hB dX12_dog_50
  · replace hB := hB.2 hc
    refine lv_aload_n hx hb dX12_dog_9 rfl (lv_at hl 0 rfl) ?_
    refine lv_iload_n hx hb dX12_dog_10 rfl (lv_at hl 1 rfl) ?_
    refine xr_i hw (xr_runV (As := [.int a1]) (rest := []) X hw 0 (xc_X12_isBreed l D cy q σ a1 hB _) xm_X12_isBreed xt_6_23 xt_6_25 xt_p_43 ⟨Nat.le_of_ble_eq_true rfl, Nat.le_of_ble_eq_true rfl⟩ xl_B_ShowRingsModel_at rfl rfl rfl rfl hl.1 (Nat.le_of_ble_eq_true rfl) dX12_dog_11 ⟨Nat.zero_le _, Nat.zero_le _⟩) (fun r2 σ1 H locs hB hw => ?_)
    refine lv_if_eq (tgt := 49) hx hb dX12_dog_14 (by decide) (fun hc => ?_) (fun hc => ?_)
    · replace hB := hB.1 hc
      refine lv_iconst (v := (-1 : Int32)) hx hb dX12_dog_49 (by decide) ?_
      exact xr_iret X hw hr hk hB dX12_dog_50
    · replace hB := hB.2 hc
      refine lv_iload_n hx hb dX12_dog_17 rfl (lv_at hl 2 rfl) ?_
      refine xr_i hw (xr_runS (As := [.int a2]) (rest := []) X hw (xc_X12_isDay l D cy q σ1 a2 hB _) xm_X12_isDay xt_6_27 xt_6_28 ⟨Nat.le_of_ble_eq_true rfl, Nat.le_of_ble_eq_true rfl⟩ rfl rfl hl.1 (Nat.le_of_ble_eq_true rfl) dX12_dog_18 ⟨Nat.zero_le _, Nat.zero_le _⟩) (fun r4 σ3 H locs hB hw => ?_)
      refine lv_if_eq (tgt := 49) hx hb dX12_dog_21 (by decide) (fun hc => ?_) (fun hc => ?_)
      · replace hB := hB.1 hc
        refine lv_iconst (v := (-1 : Int32)) hx hb dX12_dog_49 (by decide) ?_
        exact xr_iret X hw hr hk hB dX12_dog_50
      · replace hB := hB.2 hc
        refine lv_iload_n hx hb dX12_dog_24 rfl (lv_at hl 3 rfl) ?_
        refine lv_if_lt (tgt := 49) hx hb dX12_dog_25 (by decide) (fun hc => ?_) (fun hc => ?_)
        · replace hB := hB.1 hc
          refine lv_iconst (v := (-1 : Int32)) hx hb dX12_dog_49 (by decide) ?_
          exact xr_iret X hw hr hk hB dX12_dog_50
        · replace hB := hB.2 hc
          refine lv_iload_n hx hb dX12_dog_28 rfl (lv_at hl 3 rfl) ?_
          refine lv_iconst (v := (1 : Int32)) hx hb dX12_dog_29 (by decide) ?_
          refine lv_icmp_gt (tgt := 49) hx hb dX12_dog_30 (by decide) (fun hc => ?_) (fun hc => ?_)
          · replace hB := hB.1 hc
            refine lv_iconst (v := (-1 : Int32)) hx hb dX12_dog_49 (by decide) ?_
            exact xr_iret X hw hr hk hB dX12_dog_50
          · replace hB := hB.2 hc
            refine lv_iload hx hb dX12_dog_33 (lv_at hl 4 rfl) ?_
            refine xr_i hw (xr_runS (As := [.int a4]) (rest := []) X hw (xc_X12_isPerson l D cy q σ3 a4 hB _) xm_X12_isPerson xt_6_12 xt_6_13 ⟨Nat.le_of_ble_eq_true rfl, Nat.le_of_ble_eq_true rfl⟩ rfl rfl hl.1 (Nat.le_of_ble_eq_true rfl) dX12_dog_35 ⟨Nat.zero_le _, Nat.zero_le _⟩) (fun r6 σ5 H locs hB hw => ?_)
            refine lv_if_eq (tgt := 49) hx hb dX12_dog_38 (by decide) (fun hc => ?_) (fun hc => ?_)
            · replace hB := hB.1 hc
              refine lv_iconst (v := (-1 : Int32)) hx hb dX12_dog_49 (by decide) ?_
              exact xr_iret X hw hr hk hB dX12_dog_50
            · replace hB := hB.2 hc
              refine lv_iload hx hb dX12_dog_41 (lv_at hl 5 rfl) ?_
              refine xr_i hw (xr_runS (As := [.int a5]) (rest := []) X hw (xc_X12_isPerson l D cy q σ5 a5 hB _) xm_X12_isPerson xt_6_12 xt_6_13 ⟨Nat.le_of_ble_eq_true rfl, Nat.le_of_ble_eq_true rfl⟩ rfl rfl hl.1 (Nat.le_of_ble_eq_true rfl) dX12_dog_43 ⟨Nat.zero_le _, Nat.zero_le _⟩) (fun r8 σ7 H locs hB hw => ?_)
              refine lv_if_ne (tgt := 51) hx hb dX12_dog_46 (by decide) (fun hc => ?_) (fun hc => ?_)
              · replace hB := hB.1 hc
                refine lv_aload_n hx hb dX12_dog_51 rfl (lv_at hl 0 rfl) ?_
                refine xr_getr X hw (xf_X12_110 X) 0 xl_B_ShowRingsModel_at rfl dX12_dog_52 ?_
                refine lv_aload_n hx hb dX12_dog_55 rfl (lv_at hl 0 rfl) ?_
                refine xr_geti X hw (xf_X12_305 X) 0 xl_B_ShowRingsModel_at rfl dX12_dog_56 ?_
                refine lv_iload_n hx hb dX12_dog_59 rfl (lv_at hl 1 rfl) ?_
                refine xr_iast X hw 31 xl_B_ShowRingsModel_breedOf_at hB.1 dX12_dog_60 hB.2 (fun σ9 H locs hB hw => ?_)
                refine lv_aload_n hx hb dX12_dog_61 rfl (lv_at hl 0 rfl) ?_
                refine xr_getr X hw (xf_X12_113 X) 0 xl_B_ShowRingsModel_at rfl dX12_dog_62 ?_
                refine lv_aload_n hx hb dX12_dog_65 rfl (lv_at hl 0 rfl) ?_
                refine xr_geti X hw (xf_X12_305 X) 0 xl_B_ShowRingsModel_at rfl dX12_dog_66 ?_
                refine lv_iload_n hx hb dX12_dog_69 rfl (lv_at hl 2 rfl) ?_
                refine xr_iast X hw 32 xl_B_ShowRingsModel_birth_at hB.1 dX12_dog_70 hB.2 (fun σ10 H locs hB hw => ?_)
                refine lv_aload_n hx hb dX12_dog_71 rfl (lv_at hl 0 rfl) ?_
                refine xr_getr X hw (xf_X12_116 X) 0 xl_B_ShowRingsModel_at rfl dX12_dog_72 ?_
                refine lv_aload_n hx hb dX12_dog_75 rfl (lv_at hl 0 rfl) ?_
                refine xr_geti X hw (xf_X12_305 X) 0 xl_B_ShowRingsModel_at rfl dX12_dog_76 ?_
                refine lv_iload_n hx hb dX12_dog_79 rfl (lv_at hl 3 rfl) ?_
                refine xr_iast X hw 33 xl_B_ShowRingsModel_sex_at hB.1 dX12_dog_80 hB.2 (fun σ11 H locs hB hw => ?_)
                refine lv_aload_n hx hb dX12_dog_81 rfl (lv_at hl 0 rfl) ?_
                refine xr_getr X hw (xf_X12_119 X) 0 xl_B_ShowRingsModel_at rfl dX12_dog_82 ?_
                refine lv_aload_n hx hb dX12_dog_85 rfl (lv_at hl 0 rfl) ?_
                refine xr_geti X hw (xf_X12_305 X) 0 xl_B_ShowRingsModel_at rfl dX12_dog_86 ?_
                refine lv_iload hx hb dX12_dog_89 (lv_at hl 4 rfl) ?_
                refine xr_iast X hw 34 xl_B_ShowRingsModel_firstOwner_at hB.1 dX12_dog_91 hB.2 (fun σ12 H locs hB hw => ?_)
                refine lv_aload_n hx hb dX12_dog_92 rfl (lv_at hl 0 rfl) ?_
                refine xr_getr X hw (xf_X12_122 X) 0 xl_B_ShowRingsModel_at rfl dX12_dog_93 ?_
                refine lv_aload_n hx hb dX12_dog_96 rfl (lv_at hl 0 rfl) ?_
                refine xr_geti X hw (xf_X12_305 X) 0 xl_B_ShowRingsModel_at rfl dX12_dog_97 ?_
                refine lv_iload hx hb dX12_dog_100 (lv_at hl 5 rfl) ?_
                refine xr_iast X hw 35 xl_B_ShowRingsModel_handler_at hB.1 dX12_dog_102 hB.2 (fun σ13 H locs hB hw => ?_)
                refine lv_aload_n hx hb dX12_dog_103 rfl (lv_at hl 0 rfl) ?_
                refine lv_dup hx hb dX12_dog_104 rfl ?_
                refine xr_geti X hw (xf_X12_305 X) 0 xl_B_ShowRingsModel_at rfl dX12_dog_105 ?_
                refine lv_iconst (v := (1 : Int32)) hx hb dX12_dog_108 (by decide) ?_
                refine lv_iadd hx hb dX12_dog_109 ?_
                refine xr_puti X hw (xp_X12_305 X) 0 xl_B_ShowRingsModel_at rfl dX12_dog_110 hB (fun σ14 H locs hB hw => ?_)
                refine lv_aload_n hx hb dX12_dog_113 rfl (lv_at hl 0 rfl) ?_
                refine xr_geti X hw (xf_X12_305 X) 0 xl_B_ShowRingsModel_at rfl dX12_dog_114 ?_
                refine lv_iconst (v := (1 : Int32)) hx hb dX12_dog_117 (by decide) ?_
                refine lv_isub hx hb dX12_dog_118 ?_
                exact xr_iret X hw hr hk hB dX12_dog_119
              · replace hB := hB.2 hc
                refine lv_iconst (v := (-1 : Int32)) hx hb dX12_dog_49 (by decide) ?_
                exact xr_iret X hw hr hk hB dX12_dog_50
theorem xf_X12_95 {p : Program} {s : State} {m : MethodId} {args : Array Value} {c : Code} {cc : ByteArray} {nL : Nat} {D : va_G} {cy : Nat → ClassId} {lay : List xw_E} {q : Nat → Nat} (X : xr_X p s m args c cc nL RX12 D cy lay q) : xr_F args s RX12 95 12 40 := ⟨RX12, TX12, 77, tyX12, rfl, by decide, fun w h => X.2.2.2.2.1 w (xt_inX12 w h), tyX12_ok, nmX12, Or.inl (X.2.2.2.2.1 _ xt_4_212)⟩
set_option maxRecDepth 100000 in
set_option maxHeartbeats 4000000 in
theorem xc_X12_permits (l : Launch) (D : va_G) (cy : Nat → ClassId) (q : Nat → Nat) (σ : xw_M) (a1 : Int32) (a2 : Int32) {Z : Int32 → xw_M → Prop} (hU : xu_X12_permits σ a1 a2 Z) : xr_CI l yX12_permits cX12_permits 3 .boolean { frames := 1, cells := 0, slots := 0, locals := 20 } D cy xl_B q σ [.ref (q 0), .int a1, .int a2] Z := by
  refine xr_CI.of RX12 rfl (by decide) (Nat.le_of_ble_eq_true rfl) (fun p e s m below meth c X hw hr hk ls hl => ?_)
  have hx := X.1
  have hb := X.2.1
  have hl : lv_has ls 3 [(0, .ref (q 0)), (1, .int a1), (2, .int a2)] := hl
  unfold xu_X12_permits at hU
  have hB := hU
  refine lv_iload_n hx hb dX12_permits_0 rfl (lv_at hl 1 rfl) ?_
  refine xr_i hw (xr_runS (As := [.int a1]) (rest := []) X hw (xc_X12_isPerson l D cy q σ a1 hB _) xm_X12_isPerson xt_6_12 xt_6_13 ⟨Nat.le_of_ble_eq_true rfl, Nat.le_of_ble_eq_true rfl⟩ rfl rfl hl.1 (Nat.le_of_ble_eq_true rfl) dX12_permits_1 ⟨Nat.zero_le _, Nat.zero_le _⟩) (fun r2 σ1 H locs hB hw => ?_)
  refine lv_if_eq (tgt := 17) hx hb dX12_permits_4 (by decide) (fun hc => ?_) (fun hc => ?_)
  · replace hB := hB.1 hc
    refine lv_iconst (v := (0 : Int32)) hx hb dX12_permits_17 (by decide) ?_
    exact xr_zret X hw hr hk hB dX12_permits_18
  · replace hB := hB.2 hc
    refine lv_iload_n hx hb dX12_permits_7 rfl (lv_at hl 2 rfl) ?_
    refine lv_if_lt (tgt := 17) hx hb dX12_permits_8 (by decide) (fun hc => ?_) (fun hc => ?_)
    · replace hB := hB.1 hc
      refine lv_iconst (v := (0 : Int32)) hx hb dX12_permits_17 (by decide) ?_
      exact xr_zret X hw hr hk hB dX12_permits_18
    · replace hB := hB.2 hc
      refine lv_iload_n hx hb dX12_permits_11 rfl (lv_at hl 2 rfl) ?_
      refine lv_bipush (v := (63 : Int32)) hx hb dX12_permits_12 (by decide) ?_
      refine lv_icmp_le (tgt := 19) hx hb dX12_permits_14 (by decide) (fun hc => ?_) (fun hc => ?_)
      · replace hB := hB.1 hc
        refine lv_aload_n hx hb dX12_permits_19 rfl (lv_at hl 0 rfl) ?_
        refine xr_getr X hw (xf_X12_95 X) 0 xl_B_ShowRingsModel_at rfl dX12_permits_20 ?_
        refine lv_iload_n hx hb dX12_permits_23 rfl (lv_at hl 1 rfl) ?_
        refine lv_iload_n hx hb dX12_permits_24 rfl (lv_at hl 2 rfl) ?_
        refine xr_iast X hw 26 xl_B_ShowRingsModel_permits_at hB.1 dX12_permits_25 hB.2 (fun σ3 H locs hB hw => ?_)
        refine lv_iconst (v := (1 : Int32)) hx hb dX12_permits_26 (by decide) ?_
        exact xr_zret X hw hr hk hB dX12_permits_27
      · replace hB := hB.2 hc
        refine lv_iconst (v := (0 : Int32)) hx hb dX12_permits_17 (by decide) ?_
        exact xr_zret X hw hr hk hB dX12_permits_18
theorem xp_X12_195 {p : Program} {s : State} {m : MethodId} {args : Array Value} {c : Code} {cc : ByteArray} {nL : Nat} {D : va_G} {cy : Nat → ClassId} {lay : List xw_E} {q : Nat → Nat} (X : xr_X p s m args c cc nL RX12 D cy lay q) : xr_P args s RX12 195 12 41 := ⟨RX12, TX12, 77, tyX12, rfl, by decide, fun w h => X.2.2.2.2.1 w (xt_inX12 w h), tyX12_ok, nmX12, Or.inl (X.2.2.2.2.1 _ xt_4_213), rfl, by decide +kernel⟩
set_option maxRecDepth 100000 in
set_option maxHeartbeats 4000000 in
theorem xc_X12_rings (l : Launch) (D : va_G) (cy : Nat → ClassId) (q : Nat → Nat) (σ : xw_M) (a1 : Int32) {Z : Int32 → xw_M → Prop} (hU : xu_X12_rings σ a1 Z) : xr_CI l yX12_rings cX12_rings 2 .boolean { frames := 0, cells := 0, slots := 0, locals := 0 } D cy xl_B q σ [.ref (q 0), .int a1] Z := by
  refine xr_CI.of RX12 rfl (by decide) (Nat.le_of_ble_eq_true rfl) (fun p e s m below meth c X hw hr hk ls hl => ?_)
  have hx := X.1
  have hb := X.2.1
  have hl : lv_has ls 2 [(0, .ref (q 0)), (1, .int a1)] := hl
  unfold xu_X12_rings at hU
  have hB := hU
  refine lv_iload_n hx hb dX12_rings_0 rfl (lv_at hl 1 rfl) ?_
  refine lv_iconst (v := (1 : Int32)) hx hb dX12_rings_1 (by decide) ?_
  refine lv_icmp_lt (tgt := 10) hx hb dX12_rings_2 (by decide) (fun hc => ?_) (fun hc => ?_)
  · replace hB := hB.1 hc
    refine lv_iconst (v := (0 : Int32)) hx hb dX12_rings_10 (by decide) ?_
    exact xr_zret X hw hr hk hB dX12_rings_11
  · replace hB := hB.2 hc
    refine lv_iload_n hx hb dX12_rings_5 rfl (lv_at hl 1 rfl) ?_
    refine lv_iconst (v := (3 : Int32)) hx hb dX12_rings_6 (by decide) ?_
    refine lv_icmp_le (tgt := 12) hx hb dX12_rings_7 (by decide) (fun hc => ?_) (fun hc => ?_)
    · replace hB := hB.1 hc
      refine lv_aload_n hx hb dX12_rings_12 rfl (lv_at hl 0 rfl) ?_
      refine lv_iload_n hx hb dX12_rings_13 rfl (lv_at hl 1 rfl) ?_
      refine xr_puti X hw (xp_X12_195 X) 0 xl_B_ShowRingsModel_at rfl dX12_rings_14 hB (fun σ1 H locs hB hw => ?_)
      refine lv_iconst (v := (1 : Int32)) hx hb dX12_rings_17 (by decide) ?_
      exact xr_zret X hw hr hk hB dX12_rings_18
    · replace hB := hB.2 hc
      refine lv_iconst (v := (0 : Int32)) hx hb dX12_rings_10 (by decide) ?_
      exact xr_zret X hw hr hk hB dX12_rings_11
theorem xf_X12_125 {p : Program} {s : State} {m : MethodId} {args : Array Value} {c : Code} {cc : ByteArray} {nL : Nat} {D : va_G} {cy : Nat → ClassId} {lay : List xw_E} {q : Nat → Nat} (X : xr_X p s m args c cc nL RX12 D cy lay q) : xr_F args s RX12 125 12 54 := ⟨RX12, TX12, 77, tyX12, rfl, by decide, fun w h => X.2.2.2.2.1 w (xt_inX12 w h), tyX12_ok, nmX12, Or.inl (X.2.2.2.2.1 _ xt_4_226)⟩
theorem xp_X12_308 {p : Program} {s : State} {m : MethodId} {args : Array Value} {c : Code} {cc : ByteArray} {nL : Nat} {D : va_G} {cy : Nat → ClassId} {lay : List xw_E} {q : Nat → Nat} (X : xr_X p s m args c cc nL RX12 D cy lay q) : xr_P args s RX12 308 12 53 := ⟨RX12, TX12, 77, tyX12, rfl, by decide, fun w h => X.2.2.2.2.1 w (xt_inX12 w h), tyX12_ok, nmX12, Or.inl (X.2.2.2.2.1 _ xt_4_225), rfl, by decide +kernel⟩
set_option maxRecDepth 100000 in
set_option maxHeartbeats 4000000 in
theorem xc_X12_show (l : Launch) (D : va_G) (cy : Nat → ClassId) (q : Nat → Nat) (σ : xw_M) (a1 : Int32) {Z : Int32 → xw_M → Prop} (hU : xu_X12_show σ a1 Z) : xr_CI l yX12_show cX12_show 2 .int { frames := 1, cells := 0, slots := 0, locals := 20 } D cy xl_B q σ [.ref (q 0), .int a1] Z := by
  refine xr_CI.of RX12 rfl (by decide) (Nat.le_of_ble_eq_true rfl) (fun p e s m below meth c X hw hr hk ls hl => ?_)
  have hx := X.1
  have hb := X.2.1
  have hl : lv_has ls 2 [(0, .ref (q 0)), (1, .int a1)] := hl
  have hB := hU (fun (σ : xw_M) => ∀ (H : Heap) (locs : List Loc) (ls : Array Slot), xr_H D cy xl_B q s σ H locs → lv_has ls 2 [(0, .ref (q 0)), (1, .int a1)] → W p l e ({ frames := 1, cells := 0, slots := 0, locals := 20 } : Room) s m ([.ref (q 0), .int a1] : List Value).toArray below meth c H locs 0 0 (MQ below (va_Qi Z (xr_po D cy xl_B q) (xw_A xl_B q s.heap.size)) ([.ref (q 0), .int a1] : List Value).toArray s 0 0 (xw_A xl_B q s.heap.size)) (F0 m 39 ls []))
    (by
    intro σ hB H locs ls hw hl
    unfold xb_X12_show_39 at hB
    refine lv_aload_n hx hb dX12_show_39 rfl (lv_at hl 0 rfl) ?_
    refine xr_getr X hw (xf_X12_125 X) 0 xl_B_ShowRingsModel_at rfl dX12_show_40 ?_
    refine lv_aload_n hx hb dX12_show_43 rfl (lv_at hl 0 rfl) ?_
    refine xr_geti X hw (xf_X12_308 X) 0 xl_B_ShowRingsModel_at rfl dX12_show_44 ?_
    refine lv_iload_n hx hb dX12_show_47 rfl (lv_at hl 1 rfl) ?_
    refine xr_iast X hw 36 xl_B_ShowRingsModel_day_at hB.1 dX12_show_48 hB.2 (fun σ3 H locs hB hw => ?_)
    refine lv_aload_n hx hb dX12_show_49 rfl (lv_at hl 0 rfl) ?_
    refine lv_dup hx hb dX12_show_50 rfl ?_
    refine xr_geti X hw (xf_X12_308 X) 0 xl_B_ShowRingsModel_at rfl dX12_show_51 ?_
    refine lv_iconst (v := (1 : Int32)) hx hb dX12_show_54 (by decide) ?_
    refine lv_iadd hx hb dX12_show_55 ?_
    refine xr_puti X hw (xp_X12_308 X) 0 xl_B_ShowRingsModel_at rfl dX12_show_56 hB (fun σ4 H locs hB hw => ?_)
    refine lv_aload_n hx hb dX12_show_59 rfl (lv_at hl 0 rfl) ?_
    refine xr_geti X hw (xf_X12_308 X) 0 xl_B_ShowRingsModel_at rfl dX12_show_60 ?_
    refine lv_iconst (v := (1 : Int32)) hx hb dX12_show_63 (by decide) ?_
    refine lv_isub hx hb dX12_show_64 ?_
    exact xr_iret X hw hr hk hB dX12_show_65)
  unfold xb_X12_show_e at hB
  refine lv_aload_n hx hb dX12_show_0 rfl (lv_at hl 0 rfl) ?_
  refine xr_geti X hw (xf_X12_308 X) 0 xl_B_ShowRingsModel_at rfl dX12_show_1 ?_
  refine lv_iconst (v := (5 : Int32)) hx hb dX12_show_4 (by decide) ?_
  refine lv_icmp_eq (tgt := 37) hx hb dX12_show_5 (by decide) (fun hc => ?_) (fun hc => ?_)
  · replace hB := hB.1 hc
    refine lv_iconst (v := (-1 : Int32)) hx hb dX12_show_37 (by decide) ?_
    exact xr_iret X hw hr hk hB dX12_show_38
  · replace hB := hB.2 hc
    refine lv_iload_n hx hb dX12_show_8 rfl (lv_at hl 1 rfl) ?_
    refine xr_i hw (xr_runS (As := [.int a1]) (rest := []) X hw (xc_X12_isDay l D cy q σ a1 hB _) xm_X12_isDay xt_6_27 xt_6_28 ⟨Nat.le_of_ble_eq_true rfl, Nat.le_of_ble_eq_true rfl⟩ rfl rfl hl.1 (Nat.le_of_ble_eq_true rfl) dX12_show_9 ⟨Nat.zero_le _, Nat.zero_le _⟩) (fun r2 σ1 H locs hB hw => ?_)
    refine lv_if_eq (tgt := 37) hx hb dX12_show_12 (by decide) (fun hc => ?_) (fun hc => ?_)
    · replace hB := hB.1 hc
      refine lv_iconst (v := (-1 : Int32)) hx hb dX12_show_37 (by decide) ?_
      exact xr_iret X hw hr hk hB dX12_show_38
    · replace hB := hB.2 hc
      refine lv_aload_n hx hb dX12_show_15 rfl (lv_at hl 0 rfl) ?_
      refine xr_geti X hw (xf_X12_308 X) 0 xl_B_ShowRingsModel_at rfl dX12_show_16 ?_
      refine lv_if_le (tgt := 39) hx hb dX12_show_19 (by decide) (fun hc => ?_) (fun hc => ?_)
      · replace hB := hB.1 hc
        exact hB _ _ _ hw (lv_sub hl [0, 1] rfl)
      · replace hB := hB.2 hc
        refine lv_iload_n hx hb dX12_show_22 rfl (lv_at hl 1 rfl) ?_
        refine lv_aload_n hx hb dX12_show_23 rfl (lv_at hl 0 rfl) ?_
        refine xr_getr X hw (xf_X12_125 X) 0 xl_B_ShowRingsModel_at rfl dX12_show_24 ?_
        refine lv_aload_n hx hb dX12_show_27 rfl (lv_at hl 0 rfl) ?_
        refine xr_geti X hw (xf_X12_308 X) 0 xl_B_ShowRingsModel_at rfl dX12_show_28 ?_
        refine lv_iconst (v := (1 : Int32)) hx hb dX12_show_31 (by decide) ?_
        refine lv_isub hx hb dX12_show_32 ?_
        refine xr_iald X hw 36 xl_B_ShowRingsModel_day_at hB.1 dX12_show_33 ?_
        replace hB := hB.2
        refine lv_icmp_gt (tgt := 39) hx hb dX12_show_34 (by decide) (fun hc => ?_) (fun hc => ?_)
        · replace hB := hB.1 hc
          exact hB _ _ _ hw (lv_sub hl [0, 1] rfl)
        · replace hB := hB.2 hc
          refine lv_iconst (v := (-1 : Int32)) hx hb dX12_show_37 (by decide) ?_
          exact xr_iret X hw hr hk hB dX12_show_38
theorem xf_X12_131 {p : Program} {s : State} {m : MethodId} {args : Array Value} {c : Code} {cc : ByteArray} {nL : Nat} {D : va_G} {cy : Nat → ClassId} {lay : List xw_E} {q : Nat → Nat} (X : xr_X p s m args c cc nL RX12 D cy lay q) : xr_F args s RX12 131 12 57 := ⟨RX12, TX12, 77, tyX12, rfl, by decide, fun w h => X.2.2.2.2.1 w (xt_inX12 w h), tyX12_ok, nmX12, Or.inl (X.2.2.2.2.1 _ xt_4_229)⟩
theorem xf_X12_134 {p : Program} {s : State} {m : MethodId} {args : Array Value} {c : Code} {cc : ByteArray} {nL : Nat} {D : va_G} {cy : Nat → ClassId} {lay : List xw_E} {q : Nat → Nat} (X : xr_X p s m args c cc nL RX12 D cy lay q) : xr_F args s RX12 134 12 58 := ⟨RX12, TX12, 77, tyX12, rfl, by decide, fun w h => X.2.2.2.2.1 w (xt_inX12 w h), tyX12_ok, nmX12, Or.inl (X.2.2.2.2.1 _ xt_4_230)⟩
theorem xf_X12_137 {p : Program} {s : State} {m : MethodId} {args : Array Value} {c : Code} {cc : ByteArray} {nL : Nat} {D : va_G} {cy : Nat → ClassId} {lay : List xw_E} {q : Nat → Nat} (X : xr_X p s m args c cc nL RX12 D cy lay q) : xr_F args s RX12 137 12 59 := ⟨RX12, TX12, 77, tyX12, rfl, by decide, fun w h => X.2.2.2.2.1 w (xt_inX12 w h), tyX12_ok, nmX12, Or.inl (X.2.2.2.2.1 _ xt_4_231)⟩
theorem xf_X12_140 {p : Program} {s : State} {m : MethodId} {args : Array Value} {c : Code} {cc : ByteArray} {nL : Nat} {D : va_G} {cy : Nat → ClassId} {lay : List xw_E} {q : Nat → Nat} (X : xr_X p s m args c cc nL RX12 D cy lay q) : xr_F args s RX12 140 12 60 := ⟨RX12, TX12, 77, tyX12, rfl, by decide, fun w h => X.2.2.2.2.1 w (xt_inX12 w h), tyX12_ok, nmX12, Or.inl (X.2.2.2.2.1 _ xt_4_232)⟩
theorem xp_X12_311 {p : Program} {s : State} {m : MethodId} {args : Array Value} {c : Code} {cc : ByteArray} {nL : Nat} {D : va_G} {cy : Nat → ClassId} {lay : List xw_E} {q : Nat → Nat} (X : xr_X p s m args c cc nL RX12 D cy lay q) : xr_P args s RX12 311 12 56 := ⟨RX12, TX12, 77, tyX12, rfl, by decide, fun w h => X.2.2.2.2.1 w (xt_inX12 w h), tyX12_ok, nmX12, Or.inl (X.2.2.2.2.1 _ xt_4_228), rfl, by decide +kernel⟩
set_option maxRecDepth 100000 in
set_option maxHeartbeats 4000000 in
theorem xc_X12_tells (l : Launch) (D : va_G) (cy : Nat → ClassId) (q : Nat → Nat) (σ : xw_M) (a1 : Int32) (a2 : Int32) (a3 : Int32) (a4 : Int32) (a5 : Int32) {Z : Int32 → xw_M → Prop} (hU : xu_X12_tells σ a1 a2 a3 a4 a5 Z) : xr_CI l yX12_tells cX12_tells 6 .int { frames := 0, cells := 0, slots := 0, locals := 0 } D cy xl_B q σ [.ref (q 0), .int a1, .int a2, .int a3, .int a4, .int a5] Z := by
  refine xr_CI.of RX12 rfl (by decide) (Nat.le_of_ble_eq_true rfl) (fun p e s m below meth c X hw hr hk ls hl => ?_)
  have hx := X.1
  have hb := X.2.1
  have hl : lv_has ls 6 [(0, .ref (q 0)), (1, .int a1), (2, .int a2), (3, .int a3), (4, .int a4), (5, .int a5)] := hl
  unfold xu_X12_tells at hU
  have hB := hU
  refine lv_iload hx hb dX12_tells_0 (lv_at hl 5 rfl) ?_
  refine lv_if_ne (tgt := 7) hx hb dX12_tells_2 (by decide) (fun hc => ?_) (fun hc => ?_)
  · replace hB := hB.1 hc
    refine lv_aload_n hx hb dX12_tells_7 rfl (lv_at hl 0 rfl) ?_
    refine xr_getr X hw (xf_X12_131 X) 0 xl_B_ShowRingsModel_at rfl dX12_tells_8 ?_
    refine lv_aload_n hx hb dX12_tells_11 rfl (lv_at hl 0 rfl) ?_
    refine xr_geti X hw (xf_X12_311 X) 0 xl_B_ShowRingsModel_at rfl dX12_tells_12 ?_
    refine lv_iload_n hx hb dX12_tells_15 rfl (lv_at hl 1 rfl) ?_
    refine xr_iast X hw 38 xl_B_ShowRingsModel_factSort_at hB.1 dX12_tells_16 hB.2 (fun σ1 H locs hB hw => ?_)
    refine lv_aload_n hx hb dX12_tells_17 rfl (lv_at hl 0 rfl) ?_
    refine xr_getr X hw (xf_X12_134 X) 0 xl_B_ShowRingsModel_at rfl dX12_tells_18 ?_
    refine lv_aload_n hx hb dX12_tells_21 rfl (lv_at hl 0 rfl) ?_
    refine xr_geti X hw (xf_X12_311 X) 0 xl_B_ShowRingsModel_at rfl dX12_tells_22 ?_
    refine lv_iload_n hx hb dX12_tells_25 rfl (lv_at hl 2 rfl) ?_
    refine xr_iast X hw 39 xl_B_ShowRingsModel_factIn_at hB.1 dX12_tells_26 hB.2 (fun σ2 H locs hB hw => ?_)
    refine lv_aload_n hx hb dX12_tells_27 rfl (lv_at hl 0 rfl) ?_
    refine xr_getr X hw (xf_X12_137 X) 0 xl_B_ShowRingsModel_at rfl dX12_tells_28 ?_
    refine lv_aload_n hx hb dX12_tells_31 rfl (lv_at hl 0 rfl) ?_
    refine xr_geti X hw (xf_X12_311 X) 0 xl_B_ShowRingsModel_at rfl dX12_tells_32 ?_
    refine lv_iload_n hx hb dX12_tells_35 rfl (lv_at hl 3 rfl) ?_
    refine xr_iast X hw 40 xl_B_ShowRingsModel_factDog_at hB.1 dX12_tells_36 hB.2 (fun σ3 H locs hB hw => ?_)
    refine lv_aload_n hx hb dX12_tells_37 rfl (lv_at hl 0 rfl) ?_
    refine xr_getr X hw (xf_X12_140 X) 0 xl_B_ShowRingsModel_at rfl dX12_tells_38 ?_
    refine lv_aload_n hx hb dX12_tells_41 rfl (lv_at hl 0 rfl) ?_
    refine xr_geti X hw (xf_X12_311 X) 0 xl_B_ShowRingsModel_at rfl dX12_tells_42 ?_
    refine lv_iload hx hb dX12_tells_45 (lv_at hl 4 rfl) ?_
    refine xr_iast X hw 41 xl_B_ShowRingsModel_factV_at hB.1 dX12_tells_47 hB.2 (fun σ4 H locs hB hw => ?_)
    refine lv_aload_n hx hb dX12_tells_48 rfl (lv_at hl 0 rfl) ?_
    refine lv_dup hx hb dX12_tells_49 rfl ?_
    refine xr_geti X hw (xf_X12_311 X) 0 xl_B_ShowRingsModel_at rfl dX12_tells_50 ?_
    refine lv_iconst (v := (1 : Int32)) hx hb dX12_tells_53 (by decide) ?_
    refine lv_iadd hx hb dX12_tells_54 ?_
    refine xr_puti X hw (xp_X12_311 X) 0 xl_B_ShowRingsModel_at rfl dX12_tells_55 hB (fun σ5 H locs hB hw => ?_)
    refine lv_aload_n hx hb dX12_tells_58 rfl (lv_at hl 0 rfl) ?_
    refine xr_geti X hw (xf_X12_311 X) 0 xl_B_ShowRingsModel_at rfl dX12_tells_59 ?_
    refine lv_iconst (v := (1 : Int32)) hx hb dX12_tells_62 (by decide) ?_
    refine lv_isub hx hb dX12_tells_63 ?_
    exact xr_iret X hw hr hk hB dX12_tells_64
  · replace hB := hB.2 hc
    refine lv_iconst (v := (-1 : Int32)) hx hb dX12_tells_5 (by decide) ?_
    exact xr_iret X hw hr hk hB dX12_tells_6
