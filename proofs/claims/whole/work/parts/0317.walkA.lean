theorem xm_X11_isShow : xr_MW yX11_isShow cX11_isShow 2 (some .boolean) 1 := ⟨xt_3_134, xt_1_1, by decide, by decide, by decide +kernel⟩
theorem xm_X11_isDog : xr_MW yX11_isDog cX11_isDog 2 (some .boolean) 1 := ⟨xt_3_138, xt_1_1, by decide, by decide, by decide +kernel⟩
theorem xm_X7_hasEntry : xr_MW yX7_hasEntry cX7_hasEntry 2 (some .boolean) 1 := ⟨xt_3_142, xt_1_12, by decide, by decide, by decide +kernel⟩
theorem xf_X11_58 {p : Program} {s : State} {m : MethodId} {args : Array Value} {c : Code} {cc : ByteArray} {nL : Nat} {D : va_G} {cy : Nat → ClassId} {lay : List xw_E} {q : Nat → Nat} (X : xr_X p s m args c cc nL RX11 D cy lay q) : xr_F args s RX11 58 11 5 := ⟨RX11, TX11, 12, tyX11, rfl, by decide, fun w h => X.2.2.2.2.1 w (xt_inX11 w h), tyX11_ok, nmX11, Or.inl (X.2.2.2.2.1 _ xt_2_117)⟩
theorem xm_X0_classOf : xr_MW yX0_classOf cX0_classOf 5 (some .int) 2 := ⟨xt_3_147, xt_1_8, by decide, by decide, by decide +kernel⟩
theorem xf_X11_177 {p : Program} {s : State} {m : MethodId} {args : Array Value} {c : Code} {cc : ByteArray} {nL : Nat} {D : va_G} {cy : Nat → ClassId} {lay : List xw_E} {q : Nat → Nat} (X : xr_X p s m args c cc nL RX11 D cy lay q) : xr_F args s RX11 177 7 1 := ⟨RX7, TX7, 4, tyX7, rfl, by decide, fun w h => X.2.2.2.2.1 w (xt_inX7 w h), tyX7_ok, nmX7, Or.inr (va_Nw.use rfl (X.2.2.2.2.2.1.1 _ (List.mem_of_getElem? (i := 37) rfl)))⟩
theorem xf_X11_181 {p : Program} {s : State} {m : MethodId} {args : Array Value} {c : Code} {cc : ByteArray} {nL : Nat} {D : va_G} {cy : Nat → ClassId} {lay : List xw_E} {q : Nat → Nat} (X : xr_X p s m args c cc nL RX11 D cy lay q) : xr_F args s RX11 181 2 6 := ⟨RX2, TX2, 13, tyX2, rfl, by decide, fun w h => X.2.2.2.2.1 w (xt_inX2 w h), tyX2_ok, nmX2, Or.inr (va_Nw.use rfl (X.2.2.2.2.2.1.1 _ (List.mem_of_getElem? (i := 21) rfl)))⟩
theorem xm_X10_has : xr_MW yX10_has cX10_has 2 (some .boolean) 1 := ⟨xt_3_163, xt_1_10, by decide, by decide, by decide +kernel⟩
theorem xm_X7_addEntry : xr_MW yX7_addEntry cX7_addEntry 2 none 1 := ⟨xt_3_172, xt_1_12, by decide, by decide, by decide +kernel⟩
set_option maxRecDepth 100000 in
set_option maxHeartbeats 4000000 in
theorem xc_X11_enter (l : Launch) (D : va_G) (cy : Nat → ClassId) (q : Nat → Nat) (σ : xw_M) (a1 : Int32) (a2 : Int32) {Z : Int32 → xw_M → Prop} (hU : xu_X11_enter σ a1 a2 Z) : xr_CI l yX11_enter cX11_enter 4 .int { frames := 3, cells := 0, slots := 0, locals := 77 } D cy xl_A q σ [.ref (q 0), .int a1, .int a2] Z := by
  refine xr_CI.of RX11 rfl (by decide) (Nat.le_of_ble_eq_true rfl) (fun p e s m below meth c X hw hr hk ls hl => ?_)
  have hx := X.1
  have hb := X.2.1
  have hl : lv_has ls 4 [(0, .ref (q 0)), (1, .int a1), (2, .int a2)] := hl
  unfold xu_X11_enter at hU
  have hB := hU
  refine lv_aload_n hx hb dX11_enter_0 rfl (lv_at hl 0 rfl) ?_
  refine lv_iload_n hx hb dX11_enter_1 rfl (lv_at hl 1 rfl) ?_
  refine xr_i hw (xr_runV (As := [.int a1]) (rest := []) X hw 0 (xc_X11_isShow l D cy q σ a1 hB _) xm_X11_isShow xt_3_131 xt_3_133 xt_p_14 ⟨Nat.le_of_ble_eq_true rfl, Nat.le_of_ble_eq_true rfl⟩ xl_A_ShowRings_at rfl rfl rfl rfl hl.1 (Nat.le_of_ble_eq_true rfl) dX11_enter_2 ⟨Nat.zero_le _, Nat.zero_le _⟩) (fun r2 σ1 H locs hB hw => ?_)
  refine lv_if_eq (tgt := 29) hx hb dX11_enter_5 (by decide) (fun hc => ?_) (fun hc => ?_)
  · replace hB := hB.1 hc
    refine lv_iconst (v := (-1 : Int32)) hx hb dX11_enter_29 (by decide) ?_
    exact xr_iret X hw hr hk hB dX11_enter_30
  · replace hB := hB.2 hc
    refine lv_aload_n hx hb dX11_enter_8 rfl (lv_at hl 0 rfl) ?_
    refine lv_iload_n hx hb dX11_enter_9 rfl (lv_at hl 2 rfl) ?_
    refine xr_i hw (xr_runV (As := [.int a2]) (rest := []) X hw 0 (xc_X11_isDog l D cy q σ1 a2 hB _) xm_X11_isDog xt_3_135 xt_3_137 xt_p_15 ⟨Nat.le_of_ble_eq_true rfl, Nat.le_of_ble_eq_true rfl⟩ xl_A_ShowRings_at rfl rfl rfl rfl hl.1 (Nat.le_of_ble_eq_true rfl) dX11_enter_10 ⟨Nat.zero_le _, Nat.zero_le _⟩) (fun r4 σ3 H locs hB hw => ?_)
    refine lv_if_eq (tgt := 29) hx hb dX11_enter_13 (by decide) (fun hc => ?_) (fun hc => ?_)
    · replace hB := hB.1 hc
      refine lv_iconst (v := (-1 : Int32)) hx hb dX11_enter_29 (by decide) ?_
      exact xr_iret X hw hr hk hB dX11_enter_30
    · replace hB := hB.2 hc
      refine lv_aload_n hx hb dX11_enter_16 rfl (lv_at hl 0 rfl) ?_
      refine xr_getr X hw (xf_X11_82 X) 0 xl_A_ShowRings_at rfl dX11_enter_17 ?_
      refine lv_iload_n hx hb dX11_enter_20 rfl (lv_at hl 1 rfl) ?_
      have hi5 := hB.1
      refine xr_aald X hw 23 xl_A_ShowRings_shows_at hi5 dX11_enter_21 ?_
      replace hB := hB.2
      refine lv_iload_n hx hb dX11_enter_22 rfl (lv_at hl 2 rfl) ?_
      refine xr_i hw (xr_runV (As := [.int a2]) (rest := []) X hw (11 + (Int32.toNatClampNeg a1)) (xc_X7_hasEntry l D cy q σ3 (Int32.toNatClampNeg a1) a2 (xr_lt hi5) hB _) xm_X7_hasEntry xt_3_139 xt_3_140 xt_3_141 ⟨Nat.le_of_ble_eq_true rfl, Nat.le_of_ble_eq_true rfl⟩ (xl_A_Show_at (i := (Int32.toNatClampNeg a1)) (xr_lt hi5)) rfl rfl rfl rfl hl.1 (Nat.le_of_ble_eq_true rfl) dX11_enter_23 ⟨Nat.zero_le _, Nat.zero_le _⟩) (fun r7 σ6 H locs hB hw => ?_)
      refine lv_if_eq (tgt := 31) hx hb dX11_enter_26 (by decide) (fun hc => ?_) (fun hc => ?_)
      · replace hB := hB.1 hc
        refine lv_aload_n hx hb dX11_enter_31 rfl (lv_at hl 0 rfl) ?_
        refine xr_getr X hw (xf_X11_58 X) 0 xl_A_ShowRings_at rfl dX11_enter_32 ?_
        refine lv_aload_n hx hb dX11_enter_35 rfl (lv_at hl 0 rfl) ?_
        refine xr_getr X hw (xf_X11_82 X) 0 xl_A_ShowRings_at rfl dX11_enter_36 ?_
        refine lv_iload_n hx hb dX11_enter_39 rfl (lv_at hl 1 rfl) ?_
        have hi8 := hB.1
        refine xr_aald X hw 23 xl_A_ShowRings_shows_at hi8 dX11_enter_40 ?_
        replace hB := hB.2
        refine lv_iload_n hx hb dX11_enter_41 rfl (lv_at hl 2 rfl) ?_
        refine xr_i hw (xr_runV (As := [.ref (q (11 + (Int32.toNatClampNeg a1))), .int a2]) (rest := []) X hw 6 (xc_X0_classOf l D cy q σ6 (Int32.toNatClampNeg a1) a2 (xr_lt hi8) hB _) xm_X0_classOf xt_3_144 xt_3_145 xt_3_146 ⟨Nat.le_of_ble_eq_true rfl, Nat.le_of_ble_eq_true rfl⟩ xl_A_Club_at rfl rfl rfl rfl hl.1 (Nat.le_of_ble_eq_true rfl) dX11_enter_42 ⟨Nat.zero_le _, Nat.zero_le _⟩) (fun r10 σ9 H locs hB hw => ?_)
        refine lv_istore_n (lv' := [(3, .int r10), (0, .ref (q 0)), (1, .int a1), (2, .int a2)]) hx hb dX11_enter_45 rfl hl (by decide) rfl (fun ls hl => ?_)
        refine lv_iload_n hx hb dX11_enter_46 rfl (lv_at hl 0 rfl) ?_
        refine lv_iconst (v := (-1 : Int32)) hx hb dX11_enter_47 (by decide) ?_
        refine lv_icmp_ne (tgt := 54) hx hb dX11_enter_48 (by decide) (fun hc => ?_) (fun hc => ?_)
        · replace hB := hB.1 hc
          refine lv_aload_n hx hb dX11_enter_54 rfl (lv_at hl 1 rfl) ?_
          refine xr_getr X hw (xf_X11_82 X) 0 xl_A_ShowRings_at rfl dX11_enter_55 ?_
          refine lv_iload_n hx hb dX11_enter_58 rfl (lv_at hl 2 rfl) ?_
          have hi11 := hB.1
          refine xr_aald X hw 23 xl_A_ShowRings_shows_at hi11 dX11_enter_59 ?_
          replace hB := hB.2
          refine xr_getr X hw (xf_X11_177 X) (11 + (Int32.toNatClampNeg a1)) (xl_A_Show_at (i := (Int32.toNatClampNeg a1)) (xr_lt hi11)) rfl dX11_enter_60 ?_
          refine lv_aload_n hx hb dX11_enter_63 rfl (lv_at hl 1 rfl) ?_
          refine xr_getr X hw (xf_X11_40 X) 0 xl_A_ShowRings_at rfl dX11_enter_64 ?_
          refine xr_getr X hw (xf_X11_181 X) 4 xl_A_Kennel_at rfl dX11_enter_67 ?_
          refine lv_iload_n hx hb dX11_enter_70 rfl (lv_at hl 3 rfl) ?_
          refine xr_iald X hw 34 xl_A_Kennel_breed_at hB.1 dX11_enter_71 ?_
          replace hB := hB.2
          refine xr_i hw (xr_runV (As := [.int (σ9.1 34 (Int32.toNatClampNeg a2))]) (rest := []) X hw (16 + (Int32.toNatClampNeg a1)) (xc_X10_has l D cy q σ9 (Int32.toNatClampNeg a1) (σ9.1 34 (Int32.toNatClampNeg a2)) (Nat.lt_of_lt_of_le (xr_lt hi11) (by decide)) hB _) xm_X10_has xt_3_160 xt_3_161 xt_3_162 ⟨Nat.le_of_ble_eq_true rfl, Nat.le_of_ble_eq_true rfl⟩ (xl_A_Timetable_at (i := (Int32.toNatClampNeg a1)) (Nat.lt_of_lt_of_le (xr_lt hi11) (by decide))) rfl rfl rfl rfl hl.1 (Nat.le_of_ble_eq_true rfl) dX11_enter_72 ⟨Nat.zero_le _, Nat.zero_le _⟩) (fun r13 σ12 H locs hB hw => ?_)
          refine lv_if_eq (tgt := 81) hx hb dX11_enter_75 (by decide) (fun hc => ?_) (fun hc => ?_)
          · replace hB := hB.1 hc
            refine lv_aload_n hx hb dX11_enter_81 rfl (lv_at hl 1 rfl) ?_
            refine xr_getr X hw (xf_X11_82 X) 0 xl_A_ShowRings_at rfl dX11_enter_82 ?_
            refine lv_iload_n hx hb dX11_enter_85 rfl (lv_at hl 2 rfl) ?_
            have hi14 := hB.1
            refine xr_aald X hw 23 xl_A_ShowRings_shows_at hi14 dX11_enter_86 ?_
            replace hB := hB.2
            refine lv_iload_n hx hb dX11_enter_87 rfl (lv_at hl 3 rfl) ?_
            refine xr_v hw (xr_runV (As := [.int a2]) (rest := []) X hw (11 + (Int32.toNatClampNeg a1)) (xc_X7_addEntry l D cy q σ12 (Int32.toNatClampNeg a1) a2 (xr_lt hi14) hB _) xm_X7_addEntry xt_3_169 xt_3_170 xt_3_171 ⟨Nat.le_of_ble_eq_true rfl, Nat.le_of_ble_eq_true rfl⟩ (xl_A_Show_at (i := (Int32.toNatClampNeg a1)) (xr_lt hi14)) rfl rfl rfl rfl hl.1 (Nat.le_of_ble_eq_true rfl) dX11_enter_88 ⟨Nat.zero_le _, Nat.zero_le _⟩) (fun σ15 H locs hB hw => ?_)
            refine lv_iload_n hx hb dX11_enter_91 rfl (lv_at hl 0 rfl) ?_
            exact xr_iret X hw hr hk hB dX11_enter_92
          · replace hB := hB.2 hc
            refine lv_bipush (v := (-3 : Int32)) hx hb dX11_enter_78 (by decide) ?_
            exact xr_iret X hw hr hk hB dX11_enter_80
        · replace hB := hB.2 hc
          refine lv_bipush (v := (-2 : Int32)) hx hb dX11_enter_51 (by decide) ?_
          exact xr_iret X hw hr hk hB dX11_enter_53
      · replace hB := hB.2 hc
        refine lv_iconst (v := (-1 : Int32)) hx hb dX11_enter_29 (by decide) ?_
        exact xr_iret X hw hr hk hB dX11_enter_30
set_option maxRecDepth 100000 in
set_option maxHeartbeats 4000000 in
theorem xc_X11_isFactValue (l : Launch) (D : va_G) (cy : Nat → ClassId) (q : Nat → Nat) (σ : xw_M) (a0 : Int32) (a1 : Int32) {Z : Int32 → xw_M → Prop} (hU : xu_X11_isFactValue σ a0 a1 Z) : xr_CI l yX11_isFactValue cX11_isFactValue 2 .boolean { frames := 1, cells := 0, slots := 0, locals := 22 } D cy xl_A q σ [.int a0, .int a1] Z := by
  refine xr_CI.of RX11 rfl (by decide) (Nat.le_of_ble_eq_true rfl) (fun p e s m below meth c X hw hr hk ls hl => ?_)
  have hx := X.1
  have hb := X.2.1
  have hl : lv_has ls 2 [(0, .int a0), (1, .int a1)] := hl
  unfold xu_X11_isFactValue at hU
  have hB := hU
  refine lv_iload_n hx hb dX11_isFactValue_0 rfl (lv_at hl 0 rfl) ?_
  by_cases hc0 : a0 = (0 : Int32)
  · replace hB := hB.1 hc0
    refine lv_tableIn (tgt := 32) hx hb dX11_isFactValue_1 (by rw [hc0]; decide) (by rw [hc0]; decide) (by rw [hc0]; rfl) (by decide) ?_
    refine lv_iload_n hx hb dX11_isFactValue_32 rfl (lv_at hl 1 rfl) ?_
    refine lv_iconst (v := (1 : Int32)) hx hb dX11_isFactValue_33 (by decide) ?_
    refine lv_bipush (v := (20 : Int32)) hx hb dX11_isFactValue_34 (by decide) ?_
    refine xr_i hw (xr_runS (As := [.int a1, .int (1 : Int32), .int (20 : Int32)]) (rest := []) X hw (xc_X11_isWithin l D cy q σ a1 (1 : Int32) (20 : Int32) hB _) xm_X11_isWithin xt_3_80 xt_3_81 ⟨Nat.le_of_ble_eq_true rfl, Nat.le_of_ble_eq_true rfl⟩ rfl rfl hl.1 (Nat.le_of_ble_eq_true rfl) dX11_isFactValue_36 ⟨Nat.zero_le _, Nat.zero_le _⟩) (fun r2 σ1 H locs hB hw => ?_)
    exact xr_zret X hw hr hk hB dX11_isFactValue_39
  replace hB := hB.2 hc0
  by_cases hc1 : a0 = (1 : Int32)
  · replace hB := hB.1 hc1
    refine lv_tableIn (tgt := 40) hx hb dX11_isFactValue_1 (by rw [hc1]; decide) (by rw [hc1]; decide) (by rw [hc1]; rfl) (by decide) ?_
    refine lv_iload_n hx hb dX11_isFactValue_40 rfl (lv_at hl 1 rfl) ?_
    refine lv_if_ne (tgt := 48) hx hb dX11_isFactValue_41 (by decide) (fun hc => ?_) (fun hc => ?_)
    · replace hB := hB.1 hc
      refine lv_iconst (v := (0 : Int32)) hx hb dX11_isFactValue_48 (by decide) ?_
      exact xr_zret X hw hr hk hB dX11_isFactValue_49
    · replace hB := hB.2 hc
      refine lv_iconst (v := (1 : Int32)) hx hb dX11_isFactValue_44 (by decide) ?_
      refine lv_goto (tgt := 49) hx hb dX11_isFactValue_45 (by decide) ?_
      exact xr_zret X hw hr hk hB dX11_isFactValue_49
  replace hB := hB.2 hc1
  by_cases hc2 : a0 = (2 : Int32)
  · replace hB := hB.1 hc2
    refine lv_tableIn (tgt := 50) hx hb dX11_isFactValue_1 (by rw [hc2]; decide) (by rw [hc2]; decide) (by rw [hc2]; rfl) (by decide) ?_
    refine lv_iload_n hx hb dX11_isFactValue_50 rfl (lv_at hl 1 rfl) ?_
    refine lv_if_ne (tgt := 58) hx hb dX11_isFactValue_51 (by decide) (fun hc => ?_) (fun hc => ?_)
    · replace hB := hB.1 hc
      refine lv_iconst (v := (0 : Int32)) hx hb dX11_isFactValue_58 (by decide) ?_
      exact xr_zret X hw hr hk hB dX11_isFactValue_59
    · replace hB := hB.2 hc
      refine lv_iconst (v := (1 : Int32)) hx hb dX11_isFactValue_54 (by decide) ?_
      refine lv_goto (tgt := 59) hx hb dX11_isFactValue_55 (by decide) ?_
      exact xr_zret X hw hr hk hB dX11_isFactValue_59
  replace hB := hB.2 hc2
  by_cases hc3 : a0 = (3 : Int32)
  · replace hB := hB.1 hc3
    refine lv_tableIn (tgt := 60) hx hb dX11_isFactValue_1 (by rw [hc3]; decide) (by rw [hc3]; decide) (by rw [hc3]; rfl) (by decide) ?_
    refine lv_iload_n hx hb dX11_isFactValue_60 rfl (lv_at hl 1 rfl) ?_
    refine lv_iconst (v := (0 : Int32)) hx hb dX11_isFactValue_61 (by decide) ?_
    refine lv_bipush (v := (99 : Int32)) hx hb dX11_isFactValue_62 (by decide) ?_
    refine xr_i hw (xr_runS (As := [.int a1, .int (0 : Int32), .int (99 : Int32)]) (rest := []) X hw (xc_X11_isWithin l D cy q σ a1 (0 : Int32) (99 : Int32) hB _) xm_X11_isWithin xt_3_80 xt_3_81 ⟨Nat.le_of_ble_eq_true rfl, Nat.le_of_ble_eq_true rfl⟩ rfl rfl hl.1 (Nat.le_of_ble_eq_true rfl) dX11_isFactValue_64 ⟨Nat.zero_le _, Nat.zero_le _⟩) (fun r4 σ3 H locs hB hw => ?_)
    exact xr_zret X hw hr hk hB dX11_isFactValue_67
  replace hB := hB.2 hc3
  refine xr_tdef hx hb (tgt := 68) dX11_isFactValue_1 (by decide) (by decide) (by decide) ?_ ?_
  · intro j hj hx2
    match j, hj, hx2 with
    | 0, _, hx2 => exact absurd hx2 hc0
    | 1, _, hx2 => exact absurd hx2 hc1
    | 2, _, hx2 => exact absurd hx2 hc2
    | 3, _, hx2 => exact absurd hx2 hc3
    | j + 4, hj, _ => exact absurd hj (by simp)
  refine lv_iconst (v := (0 : Int32)) hx hb dX11_isFactValue_68 (by decide) ?_
  exact xr_zret X hw hr hk hB dX11_isFactValue_69
theorem xf_X1_27 {p : Program} {s : State} {m : MethodId} {args : Array Value} {c : Code} {cc : ByteArray} {nL : Nat} {D : va_G} {cy : Nat → ClassId} {lay : List xw_E} {q : Nat → Nat} (X : xr_X p s m args c cc nL RX1 D cy lay q) : xr_F args s RX1 27 1 6 := ⟨RX1, TX1, 7, tyX1, rfl, by decide, fun w h => X.2.2.2.2.1 w (xt_inX1 w h), tyX1_ok, nmX1, Or.inl (X.2.2.2.2.1 _ xt_1_218)⟩
theorem xf_X1_9 {p : Program} {s : State} {m : MethodId} {args : Array Value} {c : Code} {cc : ByteArray} {nL : Nat} {D : va_G} {cy : Nat → ClassId} {lay : List xw_E} {q : Nat → Nat} (X : xr_X p s m args c cc nL RX1 D cy lay q) : xr_F args s RX1 9 1 1 := ⟨RX1, TX1, 7, tyX1, rfl, by decide, fun w h => X.2.2.2.2.1 w (xt_inX1 w h), tyX1_ok, nmX1, Or.inl (X.2.2.2.2.1 _ xt_1_213)⟩
theorem xf_X1_15 {p : Program} {s : State} {m : MethodId} {args : Array Value} {c : Code} {cc : ByteArray} {nL : Nat} {D : va_G} {cy : Nat → ClassId} {lay : List xw_E} {q : Nat → Nat} (X : xr_X p s m args c cc nL RX1 D cy lay q) : xr_F args s RX1 15 1 2 := ⟨RX1, TX1, 7, tyX1, rfl, by decide, fun w h => X.2.2.2.2.1 w (xt_inX1 w h), tyX1_ok, nmX1, Or.inl (X.2.2.2.2.1 _ xt_1_214)⟩
theorem xf_X1_18 {p : Program} {s : State} {m : MethodId} {args : Array Value} {c : Code} {cc : ByteArray} {nL : Nat} {D : va_G} {cy : Nat → ClassId} {lay : List xw_E} {q : Nat → Nat} (X : xr_X p s m args c cc nL RX1 D cy lay q) : xr_F args s RX1 18 1 3 := ⟨RX1, TX1, 7, tyX1, rfl, by decide, fun w h => X.2.2.2.2.1 w (xt_inX1 w h), tyX1_ok, nmX1, Or.inl (X.2.2.2.2.1 _ xt_1_215)⟩
theorem xf_X1_21 {p : Program} {s : State} {m : MethodId} {args : Array Value} {c : Code} {cc : ByteArray} {nL : Nat} {D : va_G} {cy : Nat → ClassId} {lay : List xw_E} {q : Nat → Nat} (X : xr_X p s m args c cc nL RX1 D cy lay q) : xr_F args s RX1 21 1 4 := ⟨RX1, TX1, 7, tyX1, rfl, by decide, fun w h => X.2.2.2.2.1 w (xt_inX1 w h), tyX1_ok, nmX1, Or.inl (X.2.2.2.2.1 _ xt_1_216)⟩
theorem xf_X1_24 {p : Program} {s : State} {m : MethodId} {args : Array Value} {c : Code} {cc : ByteArray} {nL : Nat} {D : va_G} {cy : Nat → ClassId} {lay : List xw_E} {q : Nat → Nat} (X : xr_X p s m args c cc nL RX1 D cy lay q) : xr_F args s RX1 24 1 5 := ⟨RX1, TX1, 7, tyX1, rfl, by decide, fun w h => X.2.2.2.2.1 w (xt_inX1 w h), tyX1_ok, nmX1, Or.inl (X.2.2.2.2.1 _ xt_1_217)⟩
theorem xp_X1_27 {p : Program} {s : State} {m : MethodId} {args : Array Value} {c : Code} {cc : ByteArray} {nL : Nat} {D : va_G} {cy : Nat → ClassId} {lay : List xw_E} {q : Nat → Nat} (X : xr_X p s m args c cc nL RX1 D cy lay q) : xr_P args s RX1 27 1 6 := ⟨RX1, TX1, 7, tyX1, rfl, by decide, fun w h => X.2.2.2.2.1 w (xt_inX1 w h), tyX1_ok, nmX1, Or.inl (X.2.2.2.2.1 _ xt_1_218), rfl, by decide +kernel⟩
set_option maxRecDepth 100000 in
set_option maxHeartbeats 4000000 in
theorem xc_X1_add (l : Launch) (D : va_G) (cy : Nat → ClassId) (q : Nat → Nat) (σ : xw_M) (a1 : Int32) (a2 : Int32) (a3 : Int32) (a4 : Int32) (a5 : Int32) {Z : Int32 → xw_M → Prop} (hU : xu_X1_add σ a1 a2 a3 a4 a5 Z) : xr_CI l yX1_add cX1_add 6 .int { frames := 0, cells := 0, slots := 0, locals := 0 } D cy xl_A q σ [.ref (q 5), .int a1, .int a2, .int a3, .int a4, .int a5] Z := by
  refine xr_CI.of RX1 rfl (by decide) (Nat.le_of_ble_eq_true rfl) (fun p e s m below meth c X hw hr hk ls hl => ?_)
  have hx := X.1
  have hb := X.2.1
  have hl : lv_has ls 6 [(0, .ref (q 5)), (1, .int a1), (2, .int a2), (3, .int a3), (4, .int a4), (5, .int a5)] := hl
  unfold xu_X1_add at hU
  have hB := hU
  refine lv_aload_n hx hb dX1_add_0 rfl (lv_at hl 0 rfl) ?_
  refine xr_geti X hw (xf_X1_27 X) 5 xl_A_Facts_at rfl dX1_add_1 ?_
  refine lv_sipush (v := (200 : Int32)) hx hb dX1_add_4 (by decide) ?_
  refine lv_icmp_lt (tgt := 12) hx hb dX1_add_7 (by decide) (fun hc => ?_) (fun hc => ?_)
  · replace hB := hB.1 hc
    refine lv_aload_n hx hb dX1_add_12 rfl (lv_at hl 0 rfl) ?_
    refine xr_getr X hw (xf_X1_9 X) 5 xl_A_Facts_at rfl dX1_add_13 ?_
    refine lv_aload_n hx hb dX1_add_16 rfl (lv_at hl 0 rfl) ?_
    refine xr_geti X hw (xf_X1_27 X) 5 xl_A_Facts_at rfl dX1_add_17 ?_
    refine lv_iload_n hx hb dX1_add_20 rfl (lv_at hl 1 rfl) ?_
    refine xr_iast X hw 39 xl_A_Facts_kinds_at hB.1 dX1_add_21 hB.2 (fun σ1 H locs hB hw => ?_)
    refine lv_aload_n hx hb dX1_add_22 rfl (lv_at hl 0 rfl) ?_
    refine xr_getr X hw (xf_X1_15 X) 5 xl_A_Facts_at rfl dX1_add_23 ?_
    refine lv_aload_n hx hb dX1_add_26 rfl (lv_at hl 0 rfl) ?_
    refine xr_geti X hw (xf_X1_27 X) 5 xl_A_Facts_at rfl dX1_add_27 ?_
    refine lv_iload_n hx hb dX1_add_30 rfl (lv_at hl 2 rfl) ?_
    refine xr_iast X hw 40 xl_A_Facts_shows_at hB.1 dX1_add_31 hB.2 (fun σ2 H locs hB hw => ?_)
    refine lv_aload_n hx hb dX1_add_32 rfl (lv_at hl 0 rfl) ?_
    refine xr_getr X hw (xf_X1_18 X) 5 xl_A_Facts_at rfl dX1_add_33 ?_
    refine lv_aload_n hx hb dX1_add_36 rfl (lv_at hl 0 rfl) ?_
    refine xr_geti X hw (xf_X1_27 X) 5 xl_A_Facts_at rfl dX1_add_37 ?_
    refine lv_iload_n hx hb dX1_add_40 rfl (lv_at hl 3 rfl) ?_
    refine xr_iast X hw 41 xl_A_Facts_dogs_at hB.1 dX1_add_41 hB.2 (fun σ3 H locs hB hw => ?_)
    refine lv_aload_n hx hb dX1_add_42 rfl (lv_at hl 0 rfl) ?_
    refine xr_getr X hw (xf_X1_21 X) 5 xl_A_Facts_at rfl dX1_add_43 ?_
    refine lv_aload_n hx hb dX1_add_46 rfl (lv_at hl 0 rfl) ?_
    refine xr_geti X hw (xf_X1_27 X) 5 xl_A_Facts_at rfl dX1_add_47 ?_
    refine lv_iload hx hb dX1_add_50 (lv_at hl 4 rfl) ?_
    refine xr_iast X hw 42 xl_A_Facts_values_at hB.1 dX1_add_52 hB.2 (fun σ4 H locs hB hw => ?_)
    refine lv_aload_n hx hb dX1_add_53 rfl (lv_at hl 0 rfl) ?_
    refine xr_getr X hw (xf_X1_24 X) 5 xl_A_Facts_at rfl dX1_add_54 ?_
    refine lv_aload_n hx hb dX1_add_57 rfl (lv_at hl 0 rfl) ?_
    refine xr_geti X hw (xf_X1_27 X) 5 xl_A_Facts_at rfl dX1_add_58 ?_
    refine lv_iload hx hb dX1_add_61 (lv_at hl 5 rfl) ?_
    refine xr_iast X hw 43 xl_A_Facts_days_at hB.1 dX1_add_63 hB.2 (fun σ5 H locs hB hw => ?_)
    refine lv_aload_n hx hb dX1_add_64 rfl (lv_at hl 0 rfl) ?_
    refine lv_dup hx hb dX1_add_65 rfl ?_
    refine xr_geti X hw (xf_X1_27 X) 5 xl_A_Facts_at rfl dX1_add_66 ?_
    refine lv_iconst (v := (1 : Int32)) hx hb dX1_add_69 (by decide) ?_
    refine lv_iadd hx hb dX1_add_70 ?_
    refine xr_puti X hw (xp_X1_27 X) 5 xl_A_Facts_at rfl dX1_add_71 hB (fun σ6 H locs hB hw => ?_)
    refine lv_aload_n hx hb dX1_add_74 rfl (lv_at hl 0 rfl) ?_
    refine xr_geti X hw (xf_X1_27 X) 5 xl_A_Facts_at rfl dX1_add_75 ?_
    refine lv_iconst (v := (1 : Int32)) hx hb dX1_add_78 (by decide) ?_
    refine lv_isub hx hb dX1_add_79 ?_
    exact xr_iret X hw hr hk hB dX1_add_80
  · replace hB := hB.2 hc
    refine lv_iconst (v := (-1 : Int32)) hx hb dX1_add_10 (by decide) ?_
    exact xr_iret X hw hr hk hB dX1_add_11
theorem xm_X11_isFactValue : xr_MW yX11_isFactValue cX11_isFactValue 2 (some .boolean) 2 := ⟨xt_3_179, xt_1_1, by decide, by decide, by decide +kernel⟩
theorem xf_X11_49 {p : Program} {s : State} {m : MethodId} {args : Array Value} {c : Code} {cc : ByteArray} {nL : Nat} {D : va_G} {cy : Nat → ClassId} {lay : List xw_E} {q : Nat → Nat} (X : xr_X p s m args c cc nL RX11 D cy lay q) : xr_F args s RX11 49 11 4 := ⟨RX11, TX11, 12, tyX11, rfl, by decide, fun w h => X.2.2.2.2.1 w (xt_inX11 w h), tyX11_ok, nmX11, Or.inl (X.2.2.2.2.1 _ xt_2_116)⟩
theorem xf_X11_195 {p : Program} {s : State} {m : MethodId} {args : Array Value} {c : Code} {cc : ByteArray} {nL : Nat} {D : va_G} {cy : Nat → ClassId} {lay : List xw_E} {q : Nat → Nat} (X : xr_X p s m args c cc nL RX11 D cy lay q) : xr_F args s RX11 195 1 6 := ⟨RX1, TX1, 7, tyX1, rfl, by decide, fun w h => X.2.2.2.2.1 w (xt_inX1 w h), tyX1_ok, nmX1, Or.inr (va_Nw.use rfl (X.2.2.2.2.2.1.1 _ (List.mem_of_getElem? (i := 32) rfl)))⟩
theorem xm_X1_add : xr_MW yX1_add cX1_add 6 (some .int) 5 := ⟨xt_3_183, xt_1_7, by decide, by decide, by decide +kernel⟩
set_option maxRecDepth 100000 in
set_option maxHeartbeats 4000000 in
theorem xc_X11_fact (l : Launch) (D : va_G) (cy : Nat → ClassId) (q : Nat → Nat) (σ : xw_M) (a1 : Int32) (a2 : Int32) (a3 : Int32) (a4 : Int32) {Z : Int32 → xw_M → Prop} (hU : xu_X11_fact σ a1 a2 a3 a4 Z) : xr_CI l yX11_fact cX11_fact 5 .int { frames := 2, cells := 0, slots := 0, locals := 43 } D cy xl_A q σ [.ref (q 0), .int a1, .int a2, .int a3, .int a4] Z := by
  refine xr_CI.of RX11 rfl (by decide) (Nat.le_of_ble_eq_true rfl) (fun p e s m below meth c X hw hr hk ls hl => ?_)
  have hx := X.1
  have hb := X.2.1
  have hl : lv_has ls 5 [(0, .ref (q 0)), (1, .int a1), (2, .int a2), (3, .int a3), (4, .int a4)] := hl
  unfold xu_X11_fact at hU
  have hB := hU
  refine lv_aload_n hx hb dX11_fact_0 rfl (lv_at hl 0 rfl) ?_
  refine lv_iload_n hx hb dX11_fact_1 rfl (lv_at hl 2 rfl) ?_
  refine xr_i hw (xr_runV (As := [.int a2]) (rest := []) X hw 0 (xc_X11_isShow l D cy q σ a2 hB _) xm_X11_isShow xt_3_131 xt_3_133 xt_p_14 ⟨Nat.le_of_ble_eq_true rfl, Nat.le_of_ble_eq_true rfl⟩ xl_A_ShowRings_at rfl rfl rfl rfl hl.1 (Nat.le_of_ble_eq_true rfl) dX11_fact_2 ⟨Nat.zero_le _, Nat.zero_le _⟩) (fun r2 σ1 H locs hB hw => ?_)
  refine lv_if_eq (tgt := 38) hx hb dX11_fact_5 (by decide) (fun hc => ?_) (fun hc => ?_)
  · replace hB := hB.1 hc
    refine lv_iconst (v := (-1 : Int32)) hx hb dX11_fact_38 (by decide) ?_
    exact xr_iret X hw hr hk hB dX11_fact_39
  · replace hB := hB.2 hc
    refine lv_aload_n hx hb dX11_fact_8 rfl (lv_at hl 0 rfl) ?_
    refine lv_iload_n hx hb dX11_fact_9 rfl (lv_at hl 3 rfl) ?_
    refine xr_i hw (xr_runV (As := [.int a3]) (rest := []) X hw 0 (xc_X11_isDog l D cy q σ1 a3 hB _) xm_X11_isDog xt_3_135 xt_3_137 xt_p_15 ⟨Nat.le_of_ble_eq_true rfl, Nat.le_of_ble_eq_true rfl⟩ xl_A_ShowRings_at rfl rfl rfl rfl hl.1 (Nat.le_of_ble_eq_true rfl) dX11_fact_10 ⟨Nat.zero_le _, Nat.zero_le _⟩) (fun r4 σ3 H locs hB hw => ?_)
    refine lv_if_eq (tgt := 38) hx hb dX11_fact_13 (by decide) (fun hc => ?_) (fun hc => ?_)
    · replace hB := hB.1 hc
      refine lv_iconst (v := (-1 : Int32)) hx hb dX11_fact_38 (by decide) ?_
      exact xr_iret X hw hr hk hB dX11_fact_39
    · replace hB := hB.2 hc
      refine lv_iload_n hx hb dX11_fact_16 rfl (lv_at hl 1 rfl) ?_
      refine lv_iload hx hb dX11_fact_17 (lv_at hl 4 rfl) ?_
      refine xr_i hw (xr_runS (As := [.int a1, .int a4]) (rest := []) X hw (xc_X11_isFactValue l D cy q σ3 a1 a4 hB _) xm_X11_isFactValue xt_3_177 xt_3_178 ⟨Nat.le_of_ble_eq_true rfl, Nat.le_of_ble_eq_true rfl⟩ rfl rfl hl.1 (Nat.le_of_ble_eq_true rfl) dX11_fact_19 ⟨Nat.zero_le _, Nat.zero_le _⟩) (fun r6 σ5 H locs hB hw => ?_)
      refine lv_if_eq (tgt := 38) hx hb dX11_fact_22 (by decide) (fun hc => ?_) (fun hc => ?_)
      · replace hB := hB.1 hc
        refine lv_iconst (v := (-1 : Int32)) hx hb dX11_fact_38 (by decide) ?_
        exact xr_iret X hw hr hk hB dX11_fact_39
      · replace hB := hB.2 hc
        refine lv_aload_n hx hb dX11_fact_25 rfl (lv_at hl 0 rfl) ?_
        refine xr_getr X hw (xf_X11_49 X) 0 xl_A_ShowRings_at rfl dX11_fact_26 ?_
        refine xr_geti X hw (xf_X11_195 X) 5 xl_A_Facts_at rfl dX11_fact_29 ?_
        refine lv_sipush (v := (200 : Int32)) hx hb dX11_fact_32 (by decide) ?_
        refine lv_icmp_lt (tgt := 40) hx hb dX11_fact_35 (by decide) (fun hc => ?_) (fun hc => ?_)
        · replace hB := hB.1 hc
          refine lv_aload_n hx hb dX11_fact_40 rfl (lv_at hl 0 rfl) ?_
          refine xr_getr X hw (xf_X11_49 X) 0 xl_A_ShowRings_at rfl dX11_fact_41 ?_
          refine lv_iload_n hx hb dX11_fact_44 rfl (lv_at hl 1 rfl) ?_
          refine lv_iload_n hx hb dX11_fact_45 rfl (lv_at hl 2 rfl) ?_
          refine lv_iload_n hx hb dX11_fact_46 rfl (lv_at hl 3 rfl) ?_
          refine lv_iload hx hb dX11_fact_47 (lv_at hl 4 rfl) ?_
          refine lv_iconst (v := (-1 : Int32)) hx hb dX11_fact_49 (by decide) ?_
          refine xr_i hw (xr_runV (As := [.int a1, .int a2, .int a3, .int a4, .int (-1 : Int32)]) (rest := []) X hw 5 (xc_X1_add l D cy q σ5 a1 a2 a3 a4 (-1 : Int32) hB _) xm_X1_add xt_3_180 xt_3_181 xt_3_182 ⟨Nat.le_of_ble_eq_true rfl, Nat.le_of_ble_eq_true rfl⟩ xl_A_Facts_at rfl rfl rfl rfl hl.1 (Nat.le_of_ble_eq_true rfl) dX11_fact_50 ⟨Nat.zero_le _, Nat.zero_le _⟩) (fun r8 σ7 H locs hB hw => ?_)
          exact xr_iret X hw hr hk hB dX11_fact_53
        · replace hB := hB.2 hc
          refine lv_iconst (v := (-1 : Int32)) hx hb dX11_fact_38 (by decide) ?_
          exact xr_iret X hw hr hk hB dX11_fact_39
set_option maxRecDepth 100000 in
set_option maxHeartbeats 4000000 in
theorem xc_X11_owned (l : Launch) (D : va_G) (cy : Nat → ClassId) (q : Nat → Nat) (σ : xw_M) (a1 : Int32) (a2 : Int32) (a3 : Int32) {Z : Int32 → xw_M → Prop} (hU : xu_X11_owned σ a1 a2 a3 Z) : xr_CI l yX11_owned cX11_owned 4 .int { frames := 2, cells := 0, slots := 0, locals := 43 } D cy xl_A q σ [.ref (q 0), .int a1, .int a2, .int a3] Z := by
  refine xr_CI.of RX11 rfl (by decide) (Nat.le_of_ble_eq_true rfl) (fun p e s m below meth c X hw hr hk ls hl => ?_)
  have hx := X.1
  have hb := X.2.1
  have hl : lv_has ls 4 [(0, .ref (q 0)), (1, .int a1), (2, .int a2), (3, .int a3)] := hl
  unfold xu_X11_owned at hU
  have hB := hU
  refine lv_aload_n hx hb dX11_owned_0 rfl (lv_at hl 0 rfl) ?_
  refine lv_iload_n hx hb dX11_owned_1 rfl (lv_at hl 1 rfl) ?_
  refine xr_i hw (xr_runV (As := [.int a1]) (rest := []) X hw 0 (xc_X11_isDog l D cy q σ a1 hB _) xm_X11_isDog xt_3_135 xt_3_137 xt_p_15 ⟨Nat.le_of_ble_eq_true rfl, Nat.le_of_ble_eq_true rfl⟩ xl_A_ShowRings_at rfl rfl rfl rfl hl.1 (Nat.le_of_ble_eq_true rfl) dX11_owned_2 ⟨Nat.zero_le _, Nat.zero_le _⟩) (fun r2 σ1 H locs hB hw => ?_)
  refine lv_if_eq (tgt := 35) hx hb dX11_owned_5 (by decide) (fun hc => ?_) (fun hc => ?_)
  · replace hB := hB.1 hc
    refine lv_iconst (v := (-1 : Int32)) hx hb dX11_owned_35 (by decide) ?_
    exact xr_iret X hw hr hk hB dX11_owned_36
  · replace hB := hB.2 hc
    refine lv_iload_n hx hb dX11_owned_8 rfl (lv_at hl 2 rfl) ?_
    refine xr_i hw (xr_runS (As := [.int a2]) (rest := []) X hw (xc_X11_isPerson l D cy q σ1 a2 hB _) xm_X11_isPerson xt_3_77 xt_3_78 ⟨Nat.le_of_ble_eq_true rfl, Nat.le_of_ble_eq_true rfl⟩ rfl rfl hl.1 (Nat.le_of_ble_eq_true rfl) dX11_owned_9 ⟨Nat.zero_le _, Nat.zero_le _⟩) (fun r4 σ3 H locs hB hw => ?_)
    refine lv_if_eq (tgt := 35) hx hb dX11_owned_12 (by decide) (fun hc => ?_) (fun hc => ?_)
    · replace hB := hB.1 hc
      refine lv_iconst (v := (-1 : Int32)) hx hb dX11_owned_35 (by decide) ?_
      exact xr_iret X hw hr hk hB dX11_owned_36
    · replace hB := hB.2 hc
      refine lv_iload_n hx hb dX11_owned_15 rfl (lv_at hl 3 rfl) ?_
      refine xr_i hw (xr_runS (As := [.int a3]) (rest := []) X hw (xc_X11_isDay l D cy q σ3 a3 hB _) xm_X11_isDay xt_3_108 xt_3_109 ⟨Nat.le_of_ble_eq_true rfl, Nat.le_of_ble_eq_true rfl⟩ rfl rfl hl.1 (Nat.le_of_ble_eq_true rfl) dX11_owned_16 ⟨Nat.zero_le _, Nat.zero_le _⟩) (fun r6 σ5 H locs hB hw => ?_)
      refine lv_if_eq (tgt := 35) hx hb dX11_owned_19 (by decide) (fun hc => ?_) (fun hc => ?_)
      · replace hB := hB.1 hc
        refine lv_iconst (v := (-1 : Int32)) hx hb dX11_owned_35 (by decide) ?_
        exact xr_iret X hw hr hk hB dX11_owned_36
      · replace hB := hB.2 hc
        refine lv_aload_n hx hb dX11_owned_22 rfl (lv_at hl 0 rfl) ?_
        refine xr_getr X hw (xf_X11_49 X) 0 xl_A_ShowRings_at rfl dX11_owned_23 ?_
        refine xr_geti X hw (xf_X11_195 X) 5 xl_A_Facts_at rfl dX11_owned_26 ?_
        refine lv_sipush (v := (200 : Int32)) hx hb dX11_owned_29 (by decide) ?_
        refine lv_icmp_lt (tgt := 37) hx hb dX11_owned_32 (by decide) (fun hc => ?_) (fun hc => ?_)
        · replace hB := hB.1 hc
          refine lv_aload_n hx hb dX11_owned_37 rfl (lv_at hl 0 rfl) ?_
          refine xr_getr X hw (xf_X11_49 X) 0 xl_A_ShowRings_at rfl dX11_owned_38 ?_
          refine lv_iconst (v := (4 : Int32)) hx hb dX11_owned_41 (by decide) ?_
          refine lv_iconst (v := (-1 : Int32)) hx hb dX11_owned_42 (by decide) ?_
          refine lv_iload_n hx hb dX11_owned_43 rfl (lv_at hl 1 rfl) ?_
          refine lv_iload_n hx hb dX11_owned_44 rfl (lv_at hl 2 rfl) ?_
          refine lv_iload_n hx hb dX11_owned_45 rfl (lv_at hl 3 rfl) ?_
          refine xr_i hw (xr_runV (As := [.int (4 : Int32), .int (-1 : Int32), .int a1, .int a2, .int a3]) (rest := []) X hw 5 (xc_X1_add l D cy q σ5 (4 : Int32) (-1 : Int32) a1 a2 a3 hB _) xm_X1_add xt_3_180 xt_3_181 xt_3_182 ⟨Nat.le_of_ble_eq_true rfl, Nat.le_of_ble_eq_true rfl⟩ xl_A_Facts_at rfl rfl rfl rfl hl.1 (Nat.le_of_ble_eq_true rfl) dX11_owned_46 ⟨Nat.zero_le _, Nat.zero_le _⟩) (fun r8 σ7 H locs hB hw => ?_)
          exact xr_iret X hw hr hk hB dX11_owned_49
        · replace hB := hB.2 hc
          refine lv_iconst (v := (-1 : Int32)) hx hb dX11_owned_35 (by decide) ?_
          exact xr_iret X hw hr hk hB dX11_owned_36
set_option maxRecDepth 100000 in
set_option maxHeartbeats 4000000 in
theorem xc_X11_isKnown (l : Launch) (D : va_G) (cy : Nat → ClassId) (q : Nat → Nat) (σ : xw_M) (a1 : Int32) {Z : Int32 → xw_M → Prop} (hU : xu_X11_isKnown σ a1 Z) : xr_CI l yX11_isKnown cX11_isKnown 2 .boolean { frames := 1, cells := 0, slots := 0, locals := 22 } D cy xl_A q σ [.ref (q 0), .int a1] Z := by
  refine xr_CI.of RX11 rfl (by decide) (Nat.le_of_ble_eq_true rfl) (fun p e s m below meth c X hw hr hk ls hl => ?_)
  have hx := X.1
  have hb := X.2.1
  have hl : lv_has ls 2 [(0, .ref (q 0)), (1, .int a1)] := hl
  unfold xu_X11_isKnown at hU
  have hB := hU
  refine lv_iload_n hx hb dX11_isKnown_0 rfl (lv_at hl 1 rfl) ?_
  refine lv_iconst (v := (0 : Int32)) hx hb dX11_isKnown_1 (by decide) ?_
  refine lv_aload_n hx hb dX11_isKnown_2 rfl (lv_at hl 0 rfl) ?_
  refine xr_getr X hw (xf_X11_49 X) 0 xl_A_ShowRings_at rfl dX11_isKnown_3 ?_
  refine xr_geti X hw (xf_X11_195 X) 5 xl_A_Facts_at rfl dX11_isKnown_6 ?_
  refine xr_i hw (xr_runS (As := [.int a1, .int (0 : Int32), .int (σ.1 5 6)]) (rest := []) X hw (xc_X11_isWithin l D cy q σ a1 (0 : Int32) (σ.1 5 6) hB _) xm_X11_isWithin xt_3_80 xt_3_81 ⟨Nat.le_of_ble_eq_true rfl, Nat.le_of_ble_eq_true rfl⟩ rfl rfl hl.1 (Nat.le_of_ble_eq_true rfl) dX11_isKnown_9 ⟨Nat.zero_le _, Nat.zero_le _⟩) (fun r2 σ1 H locs hB hw => ?_)
  exact xr_zret X hw hr hk hB dX11_isKnown_12
set_option maxRecDepth 100000 in
set_option maxHeartbeats 4000000 in
theorem xc_X2_handlersOf (l : Launch) (D : va_G) (cy : Nat → ClassId) (q : Nat → Nat) (σ : xw_M) (a1 : Int32) {Z : Int32 → xw_M → Prop} (hU : xu_X2_handlersOf σ a1 Z) : xr_CI l yX2_handlersOf cX2_handlersOf 4 .int { frames := 0, cells := 0, slots := 0, locals := 0 } D cy xl_A q σ [.ref (q 4), .int a1] Z := by
  refine xr_CI.of RX2 rfl (by decide) (Nat.le_of_ble_eq_true rfl) (fun p e s m below meth c X hw hr hk ls hl => ?_)
  have hx := X.1
  have hb := X.2.1
  have hl : lv_has ls 4 [(0, .ref (q 4)), (1, .int a1)] := hl
  have hB := hU (fun (σ : xw_M) (v2 : Int32) (v3 : Int32) => ∀ (H : Heap) (locs : List Loc) (ls : Array Slot), xr_H D cy xl_A q s σ H locs → lv_has ls 4 [(0, .ref (q 4)), (1, .int a1), (2, .int v2), (3, .int v3)] → W p l e ({ frames := 0, cells := 0, slots := 0, locals := 0 } : Room) s m ([.ref (q 4), .int a1] : List Value).toArray below meth c H locs 0 0 (MQ below (va_Qi Z (xr_po D cy xl_A q) (xw_A xl_A q s.heap.size)) ([.ref (q 4), .int a1] : List Value).toArray s 0 0 (xw_A xl_A q s.heap.size)) (F0 m 4 ls []))
    (by
    intro σ v2 v3 hB H locs ls hw hl
    unfold xb_X2_handlersOf_4 at hB
    refine lv_iload_n hx hb dX2_handlersOf_4 rfl (lv_at hl 3 rfl) ?_
    refine lv_aload_n hx hb dX2_handlersOf_5 rfl (lv_at hl 0 rfl) ?_
    refine xr_geti X hw (xf_X2_49 X) 4 xl_A_Kennel_at rfl dX2_handlersOf_6 ?_
    refine lv_icmp_ge (tgt := 38) hx hb dX2_handlersOf_9 (by decide) (fun hc => ?_) (fun hc => ?_)
    · replace hB := hB.1 hc
      refine lv_iload_n hx hb dX2_handlersOf_38 rfl (lv_at hl 2 rfl) ?_
      exact xr_iret X hw hr hk hB dX2_handlersOf_39
    · replace hB := hB.2 hc
      refine lv_iload_n hx hb dX2_handlersOf_12 rfl (lv_at hl 1 rfl) ?_
      refine lv_iload_n hx hb dX2_handlersOf_13 rfl (lv_at hl 3 rfl) ?_
      refine lv_ishr hx hb dX2_handlersOf_14 ?_
      refine lv_iconst (v := (1 : Int32)) hx hb dX2_handlersOf_15 (by decide) ?_
      refine lv_iand hx hb dX2_handlersOf_16 ?_
      refine lv_iconst (v := (1 : Int32)) hx hb dX2_handlersOf_17 (by decide) ?_
      refine lv_icmp_ne (tgt := 32) hx hb dX2_handlersOf_18 (by decide) (fun hc => ?_) (fun hc => ?_)
      · replace hB := hB.1 hc
        refine lv_iinc (v := (v3 + (1 : Int32))) (lv' := [(3, .int (v3 + (1 : Int32))), (0, .ref (q 4)), (1, .int a1), (2, .int v2)]) hx hb dX2_handlersOf_32 hl (k := 3) rfl rfl (by decide) rfl (fun ls hl => ?_)
        refine lv_goto (tgt := 4) hx hb dX2_handlersOf_35 (by decide) ?_
        exact hB _ _ _ hw (lv_sub hl [1, 2, 3, 0] rfl)
      · replace hB := hB.2 hc
        refine lv_iload_n hx hb dX2_handlersOf_21 rfl (lv_at hl 2 rfl) ?_
        refine lv_iconst (v := (1 : Int32)) hx hb dX2_handlersOf_22 (by decide) ?_
        refine lv_aload_n hx hb dX2_handlersOf_23 rfl (lv_at hl 0 rfl) ?_
        refine xr_getr X hw (xf_X2_42 X) 4 xl_A_Kennel_at rfl dX2_handlersOf_24 ?_
        refine lv_iload_n hx hb dX2_handlersOf_27 rfl (lv_at hl 3 rfl) ?_
        refine xr_iald X hw 38 xl_A_Kennel_handler_at hB.1 dX2_handlersOf_28 ?_
        replace hB := hB.2
        refine lv_ishl hx hb dX2_handlersOf_29 ?_
        refine lv_ior hx hb dX2_handlersOf_30 ?_
        refine lv_topi (fun x1 hx1 => ?_)
        replace hB := hB _ hx1
        refine lv_istore_n (lv' := [(2, .int x1), (0, .ref (q 4)), (1, .int a1), (3, .int v3)]) hx hb dX2_handlersOf_31 rfl hl (by decide) rfl (fun ls hl => ?_)
        refine lv_iinc (v := (v3 + (1 : Int32))) (lv' := [(3, .int (v3 + (1 : Int32))), (2, .int x1), (0, .ref (q 4)), (1, .int a1)]) hx hb dX2_handlersOf_32 hl (k := 3) rfl rfl (by decide) rfl (fun ls hl => ?_)
        refine lv_goto (tgt := 4) hx hb dX2_handlersOf_35 (by decide) ?_
        exact hB _ _ _ hw (lv_sub hl [2, 3, 1, 0] rfl))
  unfold xb_X2_handlersOf_e at hB
  refine lv_iconst (v := (0 : Int32)) hx hb dX2_handlersOf_0 (by decide) ?_
  refine lv_istore_n (lv' := [(2, .int (0 : Int32)), (0, .ref (q 4)), (1, .int a1)]) hx hb dX2_handlersOf_1 rfl hl (by decide) rfl (fun ls hl => ?_)
  refine lv_iconst (v := (0 : Int32)) hx hb dX2_handlersOf_2 (by decide) ?_
  refine lv_istore_n (lv' := [(3, .int (0 : Int32)), (2, .int (0 : Int32)), (0, .ref (q 4)), (1, .int a1)]) hx hb dX2_handlersOf_3 rfl hl (by decide) rfl (fun ls hl => ?_)
  exact hB _ _ _ hw (lv_sub hl [2, 3, 1, 0] rfl)
