theorem xf_X9_43 {p : Program} {s : State} {m : MethodId} {args : Array Value} {c : Code} {cc : ByteArray} {nL : Nat} {D : va_G} {cy : Nat → ClassId} {lay : List xw_E} {q : Nat → Nat} (X : xr_X p s m args c cc nL RX9 D cy lay q) : xr_F args s RX9 43 9 10 := ⟨RX9, TX9, 11, tyX9, rfl, by decide, fun w h => X.2.2.2.2.1 w (xt_inX9 w h), tyX9_ok, nmX9, Or.inl (X.2.2.2.2.1 _ xt_1_66)⟩
theorem xf_X9_30 {p : Program} {s : State} {m : MethodId} {args : Array Value} {c : Code} {cc : ByteArray} {nL : Nat} {D : va_G} {cy : Nat → ClassId} {lay : List xw_E} {q : Nat → Nat} (X : xr_X p s m args c cc nL RX9 D cy lay q) : xr_F args s RX9 30 9 6 := ⟨RX9, TX9, 11, tyX9, rfl, by decide, fun w h => X.2.2.2.2.1 w (xt_inX9 w h), tyX9_ok, nmX9, Or.inl (X.2.2.2.2.1 _ xt_1_60)⟩
theorem xf_X9_33 {p : Program} {s : State} {m : MethodId} {args : Array Value} {c : Code} {cc : ByteArray} {nL : Nat} {D : va_G} {cy : Nat → ClassId} {lay : List xw_E} {q : Nat → Nat} (X : xr_X p s m args c cc nL RX9 D cy lay q) : xr_F args s RX9 33 9 7 := ⟨RX9, TX9, 11, tyX9, rfl, by decide, fun w h => X.2.2.2.2.1 w (xt_inX9 w h), tyX9_ok, nmX9, Or.inl (X.2.2.2.2.1 _ xt_1_61)⟩
theorem xp_X9_43 {p : Program} {s : State} {m : MethodId} {args : Array Value} {c : Code} {cc : ByteArray} {nL : Nat} {D : va_G} {cy : Nat → ClassId} {lay : List xw_E} {q : Nat → Nat} (X : xr_X p s m args c cc nL RX9 D cy lay q) : xr_P args s RX9 43 9 10 := ⟨RX9, TX9, 11, tyX9, rfl, by decide, fun w h => X.2.2.2.2.1 w (xt_inX9 w h), tyX9_ok, nmX9, Or.inl (X.2.2.2.2.1 _ xt_1_66), rfl, by decide +kernel⟩
set_option maxRecDepth 100000 in
set_option maxHeartbeats 4000000 in
theorem xc_X9_addStep (l : Launch) (D : va_G) (cy : Nat → ClassId) (q : Nat → Nat) (σ : xw_M) (o0 : Nat) (a1 : Int32) (a2 : Int32) (h0 : o0 < 2) {Z : xw_M → Prop} (hU : xu_X9_addStep σ o0 a1 a2 Z) : xr_CV l yX9_addStep cX9_addStep 3 { frames := 0, cells := 0, slots := 0, locals := 0 } D cy xl_A q σ [.ref (q (9 + o0)), .int a1, .int a2] Z := by
  refine xr_CV.of RX9 rfl (by decide) (Nat.le_of_ble_eq_true rfl) (fun p e s m below meth c X hw hr hk ls hl => ?_)
  have hx := X.1
  have hb := X.2.1
  have hl : lv_has ls 3 [(0, .ref (q (9 + o0))), (1, .int a1), (2, .int a2)] := hl
  unfold xu_X9_addStep at hU
  have hB := hU
  refine lv_aload_n hx hb dX9_addStep_0 rfl (lv_at hl 0 rfl) ?_
  refine xr_geti X hw (xf_X9_43 X) (9 + o0) (xl_A_Text_at (i := o0) h0) rfl dX9_addStep_1 ?_
  refine lv_sipush (v := (400 : Int32)) hx hb dX9_addStep_4 (by decide) ?_
  refine lv_icmp_ge (tgt := 40) hx hb dX9_addStep_7 (by decide) (fun hc => ?_) (fun hc => ?_)
  · replace hB := hB.1 hc
    exact xr_vret X hw hr hk hB dX9_addStep_40
  · replace hB := hB.2 hc
    refine lv_aload_n hx hb dX9_addStep_10 rfl (lv_at hl 0 rfl) ?_
    refine xr_getr X hw (xf_X9_30 X) (9 + o0) (xl_A_Text_at (i := o0) h0) rfl dX9_addStep_11 ?_
    refine lv_aload_n hx hb dX9_addStep_14 rfl (lv_at hl 0 rfl) ?_
    refine xr_geti X hw (xf_X9_43 X) (9 + o0) (xl_A_Text_at (i := o0) h0) rfl dX9_addStep_15 ?_
    refine lv_iload_n hx hb dX9_addStep_18 rfl (lv_at hl 1 rfl) ?_
    refine xr_iast X hw (60 + o0) (xl_A_Text_steps_at (i := o0) h0) hB.1 dX9_addStep_19 hB.2 (fun σ1 H locs hB hw => ?_)
    refine lv_aload_n hx hb dX9_addStep_20 rfl (lv_at hl 0 rfl) ?_
    refine xr_getr X hw (xf_X9_33 X) (9 + o0) (xl_A_Text_at (i := o0) h0) rfl dX9_addStep_21 ?_
    refine lv_aload_n hx hb dX9_addStep_24 rfl (lv_at hl 0 rfl) ?_
    refine xr_geti X hw (xf_X9_43 X) (9 + o0) (xl_A_Text_at (i := o0) h0) rfl dX9_addStep_25 ?_
    refine lv_iload_n hx hb dX9_addStep_28 rfl (lv_at hl 2 rfl) ?_
    refine xr_iast X hw (62 + o0) (xl_A_Text_numbers_at (i := o0) h0) hB.1 dX9_addStep_29 hB.2 (fun σ2 H locs hB hw => ?_)
    refine lv_aload_n hx hb dX9_addStep_30 rfl (lv_at hl 0 rfl) ?_
    refine lv_dup hx hb dX9_addStep_31 rfl ?_
    refine xr_geti X hw (xf_X9_43 X) (9 + o0) (xl_A_Text_at (i := o0) h0) rfl dX9_addStep_32 ?_
    refine lv_iconst (v := (1 : Int32)) hx hb dX9_addStep_35 (by decide) ?_
    refine lv_iadd hx hb dX9_addStep_36 ?_
    refine xr_puti X hw (xp_X9_43 X) (9 + o0) (xl_A_Text_at (i := o0) h0) rfl dX9_addStep_37 hB (fun σ3 H locs hB hw => ?_)
    exact xr_vret X hw hr hk hB dX9_addStep_40
theorem xf_X9_39 {p : Program} {s : State} {m : MethodId} {args : Array Value} {c : Code} {cc : ByteArray} {nL : Nat} {D : va_G} {cy : Nat → ClassId} {lay : List xw_E} {q : Nat → Nat} (X : xr_X p s m args c cc nL RX9 D cy lay q) : xr_F args s RX9 39 9 9 := ⟨RX9, TX9, 11, tyX9, rfl, by decide, fun w h => X.2.2.2.2.1 w (xt_inX9 w h), tyX9_ok, nmX9, Or.inl (X.2.2.2.2.1 _ xt_1_63)⟩
theorem xf_X9_9 {p : Program} {s : State} {m : MethodId} {args : Array Value} {c : Code} {cc : ByteArray} {nL : Nat} {D : va_G} {cy : Nat → ClassId} {lay : List xw_E} {q : Nat → Nat} (X : xr_X p s m args c cc nL RX9 D cy lay q) : xr_F args s RX9 9 9 0 := ⟨RX9, TX9, 11, tyX9, rfl, by decide, fun w h => X.2.2.2.2.1 w (xt_inX9 w h), tyX9_ok, nmX9, Or.inl (X.2.2.2.2.1 _ xt_1_51)⟩
theorem xf_X9_15 {p : Program} {s : State} {m : MethodId} {args : Array Value} {c : Code} {cc : ByteArray} {nL : Nat} {D : va_G} {cy : Nat → ClassId} {lay : List xw_E} {q : Nat → Nat} (X : xr_X p s m args c cc nL RX9 D cy lay q) : xr_F args s RX9 15 9 1 := ⟨RX9, TX9, 11, tyX9, rfl, by decide, fun w h => X.2.2.2.2.1 w (xt_inX9 w h), tyX9_ok, nmX9, Or.inl (X.2.2.2.2.1 _ xt_1_52)⟩
theorem xf_X9_18 {p : Program} {s : State} {m : MethodId} {args : Array Value} {c : Code} {cc : ByteArray} {nL : Nat} {D : va_G} {cy : Nat → ClassId} {lay : List xw_E} {q : Nat → Nat} (X : xr_X p s m args c cc nL RX9 D cy lay q) : xr_F args s RX9 18 9 2 := ⟨RX9, TX9, 11, tyX9, rfl, by decide, fun w h => X.2.2.2.2.1 w (xt_inX9 w h), tyX9_ok, nmX9, Or.inl (X.2.2.2.2.1 _ xt_1_55)⟩
theorem xf_X9_21 {p : Program} {s : State} {m : MethodId} {args : Array Value} {c : Code} {cc : ByteArray} {nL : Nat} {D : va_G} {cy : Nat → ClassId} {lay : List xw_E} {q : Nat → Nat} (X : xr_X p s m args c cc nL RX9 D cy lay q) : xr_F args s RX9 21 9 3 := ⟨RX9, TX9, 11, tyX9, rfl, by decide, fun w h => X.2.2.2.2.1 w (xt_inX9 w h), tyX9_ok, nmX9, Or.inl (X.2.2.2.2.1 _ xt_1_57)⟩
theorem xf_X9_24 {p : Program} {s : State} {m : MethodId} {args : Array Value} {c : Code} {cc : ByteArray} {nL : Nat} {D : va_G} {cy : Nat → ClassId} {lay : List xw_E} {q : Nat → Nat} (X : xr_X p s m args c cc nL RX9 D cy lay q) : xr_F args s RX9 24 9 4 := ⟨RX9, TX9, 11, tyX9, rfl, by decide, fun w h => X.2.2.2.2.1 w (xt_inX9 w h), tyX9_ok, nmX9, Or.inl (X.2.2.2.2.1 _ xt_1_58)⟩
theorem xf_X9_27 {p : Program} {s : State} {m : MethodId} {args : Array Value} {c : Code} {cc : ByteArray} {nL : Nat} {D : va_G} {cy : Nat → ClassId} {lay : List xw_E} {q : Nat → Nat} (X : xr_X p s m args c cc nL RX9 D cy lay q) : xr_F args s RX9 27 9 5 := ⟨RX9, TX9, 11, tyX9, rfl, by decide, fun w h => X.2.2.2.2.1 w (xt_inX9 w h), tyX9_ok, nmX9, Or.inl (X.2.2.2.2.1 _ xt_1_59)⟩
theorem xp_X9_39 {p : Program} {s : State} {m : MethodId} {args : Array Value} {c : Code} {cc : ByteArray} {nL : Nat} {D : va_G} {cy : Nat → ClassId} {lay : List xw_E} {q : Nat → Nat} (X : xr_X p s m args c cc nL RX9 D cy lay q) : xr_P args s RX9 39 9 9 := ⟨RX9, TX9, 11, tyX9, rfl, by decide, fun w h => X.2.2.2.2.1 w (xt_inX9 w h), tyX9_ok, nmX9, Or.inl (X.2.2.2.2.1 _ xt_1_63), rfl, by decide +kernel⟩
set_option maxRecDepth 100000 in
set_option maxHeartbeats 4000000 in
theorem xc_X9_addRule (l : Launch) (D : va_G) (cy : Nat → ClassId) (q : Nat → Nat) (σ : xw_M) (o0 : Nat) (a1 : Int32) (a2 : Int32) (a3 : Int32) (a4 : Int32) (a5 : Int32) (h0 : o0 < 2) {Z : xw_M → Prop} (hU : xu_X9_addRule σ o0 a1 a2 a3 a4 a5 Z) : xr_CV l yX9_addRule cX9_addRule 6 { frames := 0, cells := 0, slots := 0, locals := 0 } D cy xl_A q σ [.ref (q (9 + o0)), .int a1, .int a2, .int a3, .int a4, .int a5] Z := by
  refine xr_CV.of RX9 rfl (by decide) (Nat.le_of_ble_eq_true rfl) (fun p e s m below meth c X hw hr hk ls hl => ?_)
  have hx := X.1
  have hb := X.2.1
  have hl : lv_has ls 6 [(0, .ref (q (9 + o0))), (1, .int a1), (2, .int a2), (3, .int a3), (4, .int a4), (5, .int a5)] := hl
  unfold xu_X9_addRule at hU
  have hB := hU
  refine lv_aload_n hx hb dX9_addRule_0 rfl (lv_at hl 0 rfl) ?_
  refine xr_geti X hw (xf_X9_39 X) (9 + o0) (xl_A_Text_at (i := o0) h0) rfl dX9_addRule_1 ?_
  refine lv_bipush (v := (16 : Int32)) hx hb dX9_addRule_4 (by decide) ?_
  refine lv_icmp_ge (tgt := 84) hx hb dX9_addRule_6 (by decide) (fun hc => ?_) (fun hc => ?_)
  · replace hB := hB.1 hc
    exact xr_vret X hw hr hk hB dX9_addRule_84
  · replace hB := hB.2 hc
    refine lv_aload_n hx hb dX9_addRule_9 rfl (lv_at hl 0 rfl) ?_
    refine xr_getr X hw (xf_X9_9 X) (9 + o0) (xl_A_Text_at (i := o0) h0) rfl dX9_addRule_10 ?_
    refine lv_aload_n hx hb dX9_addRule_13 rfl (lv_at hl 0 rfl) ?_
    refine xr_geti X hw (xf_X9_39 X) (9 + o0) (xl_A_Text_at (i := o0) h0) rfl dX9_addRule_14 ?_
    refine lv_iload_n hx hb dX9_addRule_17 rfl (lv_at hl 1 rfl) ?_
    refine xr_iast X hw (48 + o0) (xl_A_Text_kinds_at (i := o0) h0) hB.1 dX9_addRule_18 hB.2 (fun σ1 H locs hB hw => ?_)
    refine lv_aload_n hx hb dX9_addRule_19 rfl (lv_at hl 0 rfl) ?_
    refine xr_getr X hw (xf_X9_15 X) (9 + o0) (xl_A_Text_at (i := o0) h0) rfl dX9_addRule_20 ?_
    refine lv_aload_n hx hb dX9_addRule_23 rfl (lv_at hl 0 rfl) ?_
    refine xr_geti X hw (xf_X9_39 X) (9 + o0) (xl_A_Text_at (i := o0) h0) rfl dX9_addRule_24 ?_
    refine lv_iload_n hx hb dX9_addRule_27 rfl (lv_at hl 2 rfl) ?_
    refine xr_iast X hw (50 + o0) (xl_A_Text_firstInt_at (i := o0) h0) hB.1 dX9_addRule_28 hB.2 (fun σ2 H locs hB hw => ?_)
    refine lv_aload_n hx hb dX9_addRule_29 rfl (lv_at hl 0 rfl) ?_
    refine xr_getr X hw (xf_X9_18 X) (9 + o0) (xl_A_Text_at (i := o0) h0) rfl dX9_addRule_30 ?_
    refine lv_aload_n hx hb dX9_addRule_33 rfl (lv_at hl 0 rfl) ?_
    refine xr_geti X hw (xf_X9_39 X) (9 + o0) (xl_A_Text_at (i := o0) h0) rfl dX9_addRule_34 ?_
    refine lv_iload_n hx hb dX9_addRule_37 rfl (lv_at hl 3 rfl) ?_
    refine xr_iast X hw (52 + o0) (xl_A_Text_secondInt_at (i := o0) h0) hB.1 dX9_addRule_38 hB.2 (fun σ3 H locs hB hw => ?_)
    refine lv_aload_n hx hb dX9_addRule_39 rfl (lv_at hl 0 rfl) ?_
    refine xr_getr X hw (xf_X9_21 X) (9 + o0) (xl_A_Text_at (i := o0) h0) rfl dX9_addRule_40 ?_
    refine lv_aload_n hx hb dX9_addRule_43 rfl (lv_at hl 0 rfl) ?_
    refine xr_geti X hw (xf_X9_39 X) (9 + o0) (xl_A_Text_at (i := o0) h0) rfl dX9_addRule_44 ?_
    refine lv_iload hx hb dX9_addRule_47 (lv_at hl 4 rfl) ?_
    refine xr_iast X hw (54 + o0) (xl_A_Text_termFrom_at (i := o0) h0) hB.1 dX9_addRule_49 hB.2 (fun σ4 H locs hB hw => ?_)
    refine lv_aload_n hx hb dX9_addRule_50 rfl (lv_at hl 0 rfl) ?_
    refine xr_getr X hw (xf_X9_24 X) (9 + o0) (xl_A_Text_at (i := o0) h0) rfl dX9_addRule_51 ?_
    refine lv_aload_n hx hb dX9_addRule_54 rfl (lv_at hl 0 rfl) ?_
    refine xr_geti X hw (xf_X9_39 X) (9 + o0) (xl_A_Text_at (i := o0) h0) rfl dX9_addRule_55 ?_
    refine lv_iload hx hb dX9_addRule_58 (lv_at hl 5 rfl) ?_
    refine xr_iast X hw (56 + o0) (xl_A_Text_condFrom_at (i := o0) h0) hB.1 dX9_addRule_60 hB.2 (fun σ5 H locs hB hw => ?_)
    refine lv_aload_n hx hb dX9_addRule_61 rfl (lv_at hl 0 rfl) ?_
    refine xr_getr X hw (xf_X9_27 X) (9 + o0) (xl_A_Text_at (i := o0) h0) rfl dX9_addRule_62 ?_
    refine lv_aload_n hx hb dX9_addRule_65 rfl (lv_at hl 0 rfl) ?_
    refine xr_geti X hw (xf_X9_39 X) (9 + o0) (xl_A_Text_at (i := o0) h0) rfl dX9_addRule_66 ?_
    refine lv_aload_n hx hb dX9_addRule_69 rfl (lv_at hl 0 rfl) ?_
    refine xr_geti X hw (xf_X9_43 X) (9 + o0) (xl_A_Text_at (i := o0) h0) rfl dX9_addRule_70 ?_
    refine xr_iast X hw (58 + o0) (xl_A_Text_condTo_at (i := o0) h0) hB.1 dX9_addRule_73 hB.2 (fun σ6 H locs hB hw => ?_)
    refine lv_aload_n hx hb dX9_addRule_74 rfl (lv_at hl 0 rfl) ?_
    refine lv_dup hx hb dX9_addRule_75 rfl ?_
    refine xr_geti X hw (xf_X9_39 X) (9 + o0) (xl_A_Text_at (i := o0) h0) rfl dX9_addRule_76 ?_
    refine lv_iconst (v := (1 : Int32)) hx hb dX9_addRule_79 (by decide) ?_
    refine lv_iadd hx hb dX9_addRule_80 ?_
    refine xr_puti X hw (xp_X9_39 X) (9 + o0) (xl_A_Text_at (i := o0) h0) rfl dX9_addRule_81 hB (fun σ7 H locs hB hw => ?_)
    exact xr_vret X hw hr hk hB dX9_addRule_84
set_option maxRecDepth 100000 in
set_option maxHeartbeats 4000000 in
theorem xc_X6_longSignKind (l : Launch) (D : va_G) (cy : Nat → ClassId) (q : Nat → Nat) (σ : xw_M) (a0 : Int32) {Z : Int32 → xw_M → Prop} (hU : xu_X6_longSignKind σ a0 Z) : xr_CI l yX6_longSignKind cX6_longSignKind 1 .int { frames := 0, cells := 0, slots := 0, locals := 0 } D cy xl_A q σ [.int a0] Z := by
  refine xr_CI.of RX6 rfl (by decide) (Nat.le_of_ble_eq_true rfl) (fun p e s m below meth c X hw hr hk ls hl => ?_)
  have hx := X.1
  have hb := X.2.1
  have hl : lv_has ls 1 [(0, .int a0)] := hl
  unfold xu_X6_longSignKind at hU
  have hB := hU
  refine lv_iload_n hx hb dX6_longSignKind_0 rfl (lv_at hl 0 rfl) ?_
  refine lv_bipush (v := (61 : Int32)) hx hb dX6_longSignKind_1 (by decide) ?_
  refine lv_icmp_ne (tgt := 9) hx hb dX6_longSignKind_3 (by decide) (fun hc => ?_) (fun hc => ?_)
  · replace hB := hB.1 hc
    refine lv_iload_n hx hb dX6_longSignKind_9 rfl (lv_at hl 0 rfl) ?_
    refine lv_bipush (v := (33 : Int32)) hx hb dX6_longSignKind_10 (by decide) ?_
    refine lv_icmp_ne (tgt := 20) hx hb dX6_longSignKind_12 (by decide) (fun hc => ?_) (fun hc => ?_)
    · replace hB := hB.1 hc
      refine lv_bipush (v := (24 : Int32)) hx hb dX6_longSignKind_20 (by decide) ?_
      exact xr_iret X hw hr hk hB dX6_longSignKind_22
    · replace hB := hB.2 hc
      refine lv_bipush (v := (22 : Int32)) hx hb dX6_longSignKind_15 (by decide) ?_
      refine lv_goto (tgt := 22) hx hb dX6_longSignKind_17 (by decide) ?_
      exact xr_iret X hw hr hk hB dX6_longSignKind_22
  · replace hB := hB.2 hc
    refine lv_bipush (v := (21 : Int32)) hx hb dX6_longSignKind_6 (by decide) ?_
    exact xr_iret X hw hr hk hB dX6_longSignKind_8
set_option maxRecDepth 100000 in
set_option maxHeartbeats 4000000 in
theorem xc_X6_signKind (l : Launch) (D : va_G) (cy : Nat → ClassId) (q : Nat → Nat) (σ : xw_M) (a0 : Int32) {Z : Int32 → xw_M → Prop} (hU : xu_X6_signKind σ a0 Z) : xr_CI l yX6_signKind cX6_signKind 1 .int { frames := 0, cells := 0, slots := 0, locals := 0 } D cy xl_A q σ [.int a0] Z := by
  refine xr_CI.of RX6 rfl (by decide) (Nat.le_of_ble_eq_true rfl) (fun p e s m below meth c X hw hr hk ls hl => ?_)
  have hx := X.1
  have hb := X.2.1
  have hl : lv_has ls 1 [(0, .int a0)] := hl
  unfold xu_X6_signKind at hU
  have hB := hU
  refine lv_iload_n hx hb dX6_signKind_0 rfl (lv_at hl 0 rfl) ?_
  by_cases hc40 : a0 = (40 : Int32)
  · replace hB := hB.1 hc40
    refine lv_tableIn (tgt := 115) hx hb dX6_signKind_1 (by rw [hc40]; decide) (by rw [hc40]; decide) (by rw [hc40]; rfl) (by decide) ?_
    refine lv_bipush (v := (25 : Int32)) hx hb dX6_signKind_115 (by decide) ?_
    exact xr_iret X hw hr hk hB dX6_signKind_117
  replace hB := hB.2 hc40
  by_cases hc41 : a0 = (41 : Int32)
  · replace hB := hB.1 hc41
    refine lv_tableIn (tgt := 118) hx hb dX6_signKind_1 (by rw [hc41]; decide) (by rw [hc41]; decide) (by rw [hc41]; rfl) (by decide) ?_
    refine lv_bipush (v := (26 : Int32)) hx hb dX6_signKind_118 (by decide) ?_
    exact xr_iret X hw hr hk hB dX6_signKind_120
  replace hB := hB.2 hc41
  by_cases hc42 : a0 = (42 : Int32)
  · replace hB := hB.1 hc42
    refine lv_tableIn (tgt := 109) hx hb dX6_signKind_1 (by rw [hc42]; decide) (by rw [hc42]; decide) (by rw [hc42]; rfl) (by decide) ?_
    refine lv_bipush (v := (20 : Int32)) hx hb dX6_signKind_109 (by decide) ?_
    exact xr_iret X hw hr hk hB dX6_signKind_111
  replace hB := hB.2 hc42
  by_cases hc43 : a0 = (43 : Int32)
  · replace hB := hB.1 hc43
    refine lv_tableIn (tgt := 103) hx hb dX6_signKind_1 (by rw [hc43]; decide) (by rw [hc43]; decide) (by rw [hc43]; rfl) (by decide) ?_
    refine lv_bipush (v := (18 : Int32)) hx hb dX6_signKind_103 (by decide) ?_
    exact xr_iret X hw hr hk hB dX6_signKind_105
  replace hB := hB.2 hc43
  by_cases hc45 : a0 = (45 : Int32)
  · replace hB := hB.1 hc45
    refine lv_tableIn (tgt := 106) hx hb dX6_signKind_1 (by rw [hc45]; decide) (by rw [hc45]; decide) (by rw [hc45]; rfl) (by decide) ?_
    refine lv_bipush (v := (19 : Int32)) hx hb dX6_signKind_106 (by decide) ?_
    exact xr_iret X hw hr hk hB dX6_signKind_108
  replace hB := hB.2 hc45
  by_cases hc59 : a0 = (59 : Int32)
  · replace hB := hB.1 hc59
    refine lv_tableIn (tgt := 100) hx hb dX6_signKind_1 (by rw [hc59]; decide) (by rw [hc59]; decide) (by rw [hc59]; rfl) (by decide) ?_
    refine lv_bipush (v := (17 : Int32)) hx hb dX6_signKind_100 (by decide) ?_
    exact xr_iret X hw hr hk hB dX6_signKind_102
  replace hB := hB.2 hc59
  by_cases hc60 : a0 = (60 : Int32)
  · replace hB := hB.1 hc60
    refine lv_tableIn (tgt := 112) hx hb dX6_signKind_1 (by rw [hc60]; decide) (by rw [hc60]; decide) (by rw [hc60]; rfl) (by decide) ?_
    refine lv_bipush (v := (23 : Int32)) hx hb dX6_signKind_112 (by decide) ?_
    exact xr_iret X hw hr hk hB dX6_signKind_114
  replace hB := hB.2 hc60
  refine xr_tdef hx hb (tgt := 121) dX6_signKind_1 (by decide) (by decide) (by decide) ?_ ?_
  · intro j hj hx2
    match j, hj, hx2 with
    | 0, _, hx2 => exact absurd hx2 hc40
    | 1, _, hx2 => exact absurd hx2 hc41
    | 2, _, hx2 => exact absurd hx2 hc42
    | 3, _, hx2 => exact absurd hx2 hc43
    | 4, _, hx2 => exact rfl
    | 5, _, hx2 => exact absurd hx2 hc45
    | 6, _, hx2 => exact rfl
    | 7, _, hx2 => exact rfl
    | 8, _, hx2 => exact rfl
    | 9, _, hx2 => exact rfl
    | 10, _, hx2 => exact rfl
    | 11, _, hx2 => exact rfl
    | 12, _, hx2 => exact rfl
    | 13, _, hx2 => exact rfl
    | 14, _, hx2 => exact rfl
    | 15, _, hx2 => exact rfl
    | 16, _, hx2 => exact rfl
    | 17, _, hx2 => exact rfl
    | 18, _, hx2 => exact rfl
    | 19, _, hx2 => exact absurd hx2 hc59
    | 20, _, hx2 => exact absurd hx2 hc60
    | j + 21, hj, _ => exact absurd hj (by simp)
  refine lv_bipush (v := (28 : Int32)) hx hb dX6_signKind_121 (by decide) ?_
  exact xr_iret X hw hr hk hB dX6_signKind_123
set_option maxRecDepth 100000 in
set_option maxHeartbeats 4000000 in
theorem xc_X6_sortOf (l : Launch) (D : va_G) (cy : Nat → ClassId) (q : Nat → Nat) (σ : xw_M) (a0 : Int32) {Z : Int32 → xw_M → Prop} (hU : xu_X6_sortOf σ a0 Z) : xr_CI l yX6_sortOf cX6_sortOf 1 .int { frames := 0, cells := 0, slots := 0, locals := 0 } D cy xl_A q σ [.int a0] Z := by
  refine xr_CI.of RX6 rfl (by decide) (Nat.le_of_ble_eq_true rfl) (fun p e s m below meth c X hw hr hk ls hl => ?_)
  have hx := X.1
  have hb := X.2.1
  have hl : lv_has ls 1 [(0, .int a0)] := hl
  have hB := hU (fun (σ : xw_M) => ∀ (H : Heap) (locs : List Loc) (ls : Array Slot), xr_H D cy xl_A q s σ H locs → lv_has ls 1 [(0, .int a0)] → W p l e ({ frames := 0, cells := 0, slots := 0, locals := 0 } : Room) s m ([.int a0] : List Value).toArray below meth c H locs 0 0 (MQ below (va_Qi Z (xr_po D cy xl_A q) (xw_A xl_A q s.heap.size)) ([.int a0] : List Value).toArray s 0 0 (xw_A xl_A q s.heap.size)) (F0 m 40 ls []))
    (by
    intro σ hB H locs ls hw hl
    unfold xb_X6_sortOf_40 at hB
    refine lv_iload_n hx hb dX6_sortOf_40 rfl (lv_at hl 0 rfl) ?_
    refine lv_bipush (v := (48 : Int32)) hx hb dX6_sortOf_41 (by decide) ?_
    refine lv_icmp_lt (tgt := 56) hx hb dX6_sortOf_43 (by decide) (fun hc => ?_) (fun hc => ?_)
    · replace hB := hB.1 hc
      refine lv_iconst (v := (3 : Int32)) hx hb dX6_sortOf_56 (by decide) ?_
      exact xr_iret X hw hr hk hB dX6_sortOf_57
    · replace hB := hB.2 hc
      refine lv_iload_n hx hb dX6_sortOf_46 rfl (lv_at hl 0 rfl) ?_
      refine lv_bipush (v := (57 : Int32)) hx hb dX6_sortOf_47 (by decide) ?_
      refine lv_icmp_gt (tgt := 56) hx hb dX6_sortOf_49 (by decide) (fun hc => ?_) (fun hc => ?_)
      · replace hB := hB.1 hc
        refine lv_iconst (v := (3 : Int32)) hx hb dX6_sortOf_56 (by decide) ?_
        exact xr_iret X hw hr hk hB dX6_sortOf_57
      · replace hB := hB.2 hc
        refine lv_iconst (v := (2 : Int32)) hx hb dX6_sortOf_52 (by decide) ?_
        refine lv_goto (tgt := 57) hx hb dX6_sortOf_53 (by decide) ?_
        exact xr_iret X hw hr hk hB dX6_sortOf_57)
  unfold xb_X6_sortOf_e at hB
  refine lv_iload_n hx hb dX6_sortOf_0 rfl (lv_at hl 0 rfl) ?_
  refine lv_bipush (v := (9 : Int32)) hx hb dX6_sortOf_1 (by decide) ?_
  refine lv_icmp_eq (tgt := 24) hx hb dX6_sortOf_3 (by decide) (fun hc => ?_) (fun hc => ?_)
  · replace hB := hB.1 hc
    refine lv_iconst (v := (0 : Int32)) hx hb dX6_sortOf_24 (by decide) ?_
    exact xr_iret X hw hr hk hB dX6_sortOf_25
  · replace hB := hB.2 hc
    refine lv_iload_n hx hb dX6_sortOf_6 rfl (lv_at hl 0 rfl) ?_
    refine lv_bipush (v := (10 : Int32)) hx hb dX6_sortOf_7 (by decide) ?_
    refine lv_icmp_eq (tgt := 24) hx hb dX6_sortOf_9 (by decide) (fun hc => ?_) (fun hc => ?_)
    · replace hB := hB.1 hc
      refine lv_iconst (v := (0 : Int32)) hx hb dX6_sortOf_24 (by decide) ?_
      exact xr_iret X hw hr hk hB dX6_sortOf_25
    · replace hB := hB.2 hc
      refine lv_iload_n hx hb dX6_sortOf_12 rfl (lv_at hl 0 rfl) ?_
      refine lv_bipush (v := (13 : Int32)) hx hb dX6_sortOf_13 (by decide) ?_
      refine lv_icmp_eq (tgt := 24) hx hb dX6_sortOf_15 (by decide) (fun hc => ?_) (fun hc => ?_)
      · replace hB := hB.1 hc
        refine lv_iconst (v := (0 : Int32)) hx hb dX6_sortOf_24 (by decide) ?_
        exact xr_iret X hw hr hk hB dX6_sortOf_25
      · replace hB := hB.2 hc
        refine lv_iload_n hx hb dX6_sortOf_18 rfl (lv_at hl 0 rfl) ?_
        refine lv_bipush (v := (32 : Int32)) hx hb dX6_sortOf_19 (by decide) ?_
        refine lv_icmp_ne (tgt := 26) hx hb dX6_sortOf_21 (by decide) (fun hc => ?_) (fun hc => ?_)
        · replace hB := hB.1 hc
          refine lv_iload_n hx hb dX6_sortOf_26 rfl (lv_at hl 0 rfl) ?_
          refine lv_bipush (v := (97 : Int32)) hx hb dX6_sortOf_27 (by decide) ?_
          refine lv_icmp_lt (tgt := 40) hx hb dX6_sortOf_29 (by decide) (fun hc => ?_) (fun hc => ?_)
          · replace hB := hB.1 hc
            exact hB _ _ _ hw (lv_sub hl [0] rfl)
          · replace hB := hB.2 hc
            refine lv_iload_n hx hb dX6_sortOf_32 rfl (lv_at hl 0 rfl) ?_
            refine lv_bipush (v := (122 : Int32)) hx hb dX6_sortOf_33 (by decide) ?_
            refine lv_icmp_gt (tgt := 40) hx hb dX6_sortOf_35 (by decide) (fun hc => ?_) (fun hc => ?_)
            · replace hB := hB.1 hc
              exact hB _ _ _ hw (lv_sub hl [0] rfl)
            · replace hB := hB.2 hc
              refine lv_iconst (v := (1 : Int32)) hx hb dX6_sortOf_38 (by decide) ?_
              exact xr_iret X hw hr hk hB dX6_sortOf_39
        · replace hB := hB.2 hc
          refine lv_iconst (v := (0 : Int32)) hx hb dX6_sortOf_24 (by decide) ?_
          exact xr_iret X hw hr hk hB dX6_sortOf_25
set_option maxRecDepth 100000 in
set_option maxHeartbeats 4000000 in
theorem xc_X8_at (l : Launch) (D : va_G) (cy : Nat → ClassId) (q : Nat → Nat) (σ : xw_M) (a1 : Int32) {Z : Int32 → xw_M → Prop} (hU : xu_X8_at σ a1 Z) : xr_CI l yX8_at cX8_at 2 .int { frames := 0, cells := 0, slots := 0, locals := 0 } D cy xl_A q σ [.ref (q 1), .int a1] Z := by
  refine xr_CI.of RX8 rfl (by decide) (Nat.le_of_ble_eq_true rfl) (fun p e s m below meth c X hw hr hk ls hl => ?_)
  have hx := X.1
  have hb := X.2.1
  have hl : lv_has ls 2 [(0, .ref (q 1)), (1, .int a1)] := hl
  unfold xu_X8_at at hU
  have hB := hU
  refine lv_iload_n hx hb dX8_at_0 rfl (lv_at hl 1 rfl) ?_
  refine lv_if_lt (tgt := 12) hx hb dX8_at_1 (by decide) (fun hc => ?_) (fun hc => ?_)
  · replace hB := hB.1 hc
    refine lv_iconst (v := (-1 : Int32)) hx hb dX8_at_12 (by decide) ?_
    refine lv_goto (tgt := 26) hx hb dX8_at_13 (by decide) ?_
    exact xr_iret X hw hr hk hB dX8_at_26
  · replace hB := hB.2 hc
    refine lv_iload_n hx hb dX8_at_4 rfl (lv_at hl 1 rfl) ?_
    refine lv_aload_n hx hb dX8_at_5 rfl (lv_at hl 0 rfl) ?_
    refine xr_geti X hw (xf_X8_15 X) 1 xl_A_Tape_at rfl dX8_at_6 ?_
    refine lv_icmp_lt (tgt := 16) hx hb dX8_at_9 (by decide) (fun hc => ?_) (fun hc => ?_)
    · replace hB := hB.1 hc
      refine lv_aload_n hx hb dX8_at_16 rfl (lv_at hl 0 rfl) ?_
      refine xr_getr X hw (xf_X8_9 X) 1 xl_A_Tape_at rfl dX8_at_17 ?_
      refine lv_iload_n hx hb dX8_at_20 rfl (lv_at hl 1 rfl) ?_
      refine xr_bald X hw 24 xl_A_Tape_bytes_at hB.1 dX8_at_21 ?_
      replace hB := hB.2
      refine lv_sipush (v := (255 : Int32)) hx hb dX8_at_22 (by decide) ?_
      refine lv_iand hx hb dX8_at_25 ?_
      exact xr_iret X hw hr hk hB dX8_at_26
    · replace hB := hB.2 hc
      refine lv_iconst (v := (-1 : Int32)) hx hb dX8_at_12 (by decide) ?_
      refine lv_goto (tgt := 26) hx hb dX8_at_13 (by decide) ?_
      exact xr_iret X hw hr hk hB dX8_at_26
theorem xf_X6_25 {p : Program} {s : State} {m : MethodId} {args : Array Value} {c : Code} {cc : ByteArray} {nL : Nat} {D : va_G} {cy : Nat → ClassId} {lay : List xw_E} {q : Nat → Nat} (X : xr_X p s m args c cc nL RX6 D cy lay q) : xr_F args s RX6 25 6 0 := ⟨RX6, TX6, 5, tyX6, rfl, by decide, fun w h => X.2.2.2.2.1 w (xt_inX6 w h), tyX6_ok, nmX6, Or.inl (X.2.2.2.2.1 _ xt_1_100)⟩
theorem xm_X8_at : xr_MW yX8_at cX8_at 2 (some .int) 1 := ⟨xt_2_184, xt_1_2, by decide, by decide, by decide +kernel⟩
set_option maxRecDepth 100000 in
set_option maxHeartbeats 4000000 in
theorem xc_X6_numberAt (l : Launch) (D : va_G) (cy : Nat → ClassId) (q : Nat → Nat) (σ : xw_M) (a1 : Int32) (a2 : Int32) {Z : Int32 → xw_M → Prop} (hU : xu_X6_numberAt σ a1 a2 Z) : xr_CI l yX6_numberAt cX6_numberAt 5 .int { frames := 1, cells := 0, slots := 0, locals := 21 } D cy xl_A q σ [.ref (q 2), .int a1, .int a2] Z := by
  refine xr_CI.of RX6 rfl (by decide) (Nat.le_of_ble_eq_true rfl) (fun p e s m below meth c X hw hr hk ls hl => ?_)
  have hx := X.1
  have hb := X.2.1
  have hl : lv_has ls 5 [(0, .ref (q 2)), (1, .int a1), (2, .int a2)] := hl
  have hB := hU (fun (σ : xw_M) (v3 : Int32) (v4 : Int32) => ∀ (H : Heap) (locs : List Loc) (ls : Array Slot), xr_H D cy xl_A q s σ H locs → lv_has ls 5 [(0, .ref (q 2)), (2, .int a2), (3, .int v3), (4, .int v4)] → W p l e ({ frames := 1, cells := 0, slots := 0, locals := 21 } : Room) s m ([.ref (q 2), .int a1, .int a2] : List Value).toArray below meth c H locs 0 0 (MQ below (va_Qi Z (xr_po D cy xl_A q) (xw_A xl_A q s.heap.size)) ([.ref (q 2), .int a1, .int a2] : List Value).toArray s 0 0 (xw_A xl_A q s.heap.size)) (F0 m 5 ls []))
    (by
    intro σ v3 v4 hB H locs ls hw hl
    unfold xb_X6_numberAt_5 at hB
    refine lv_iload hx hb dX6_numberAt_5 (lv_at hl 3 rfl) ?_
    refine lv_iload_n hx hb dX6_numberAt_7 rfl (lv_at hl 1 rfl) ?_
    refine lv_icmp_ge (tgt := 35) hx hb dX6_numberAt_8 (by decide) (fun hc => ?_) (fun hc => ?_)
    · replace hB := hB.1 hc
      refine lv_iload_n hx hb dX6_numberAt_35 rfl (lv_at hl 2 rfl) ?_
      exact xr_iret X hw hr hk hB dX6_numberAt_36
    · replace hB := hB.2 hc
      refine lv_iload_n hx hb dX6_numberAt_11 rfl (lv_at hl 2 rfl) ?_
      refine lv_bipush (v := (10 : Int32)) hx hb dX6_numberAt_12 (by decide) ?_
      refine lv_imul hx hb dX6_numberAt_14 ?_
      refine lv_aload_n hx hb dX6_numberAt_15 rfl (lv_at hl 0 rfl) ?_
      refine xr_getr X hw (xf_X6_25 X) 2 xl_A_Scanner_at rfl dX6_numberAt_16 ?_
      refine lv_iload hx hb dX6_numberAt_19 (lv_at hl 3 rfl) ?_
      refine xr_i hw (xr_runV (As := [.int v4]) (rest := [.int (v3 * (10 : Int32))]) X hw 1 (xc_X8_at l D cy q σ v4 hB _) xm_X8_at xt_2_181 xt_2_182 xt_2_183 ⟨Nat.le_of_ble_eq_true rfl, Nat.le_of_ble_eq_true rfl⟩ xl_A_Tape_at rfl rfl rfl rfl hl.1 (Nat.le_of_ble_eq_true rfl) dX6_numberAt_21 ⟨Nat.zero_le _, Nat.zero_le _⟩) (fun r2 σ1 H locs hB hw => ?_)
      refine lv_iadd hx hb dX6_numberAt_24 ?_
      refine lv_bipush (v := (48 : Int32)) hx hb dX6_numberAt_25 (by decide) ?_
      refine lv_isub hx hb dX6_numberAt_27 ?_
      refine lv_istore_n (lv' := [(3, .int (((v3 * (10 : Int32)) + r2) - (48 : Int32))), (0, .ref (q 2)), (2, .int a2), (4, .int v4)]) hx hb dX6_numberAt_28 rfl hl (by decide) rfl (fun ls hl => ?_)
      refine lv_iinc (v := (v4 + (1 : Int32))) (lv' := [(4, .int (v4 + (1 : Int32))), (3, .int (((v3 * (10 : Int32)) + r2) - (48 : Int32))), (0, .ref (q 2)), (2, .int a2)]) hx hb dX6_numberAt_29 hl (k := 3) rfl rfl (by decide) rfl (fun ls hl => ?_)
      refine lv_goto (tgt := 5) hx hb dX6_numberAt_32 (by decide) ?_
      exact hB _ _ _ hw (lv_sub hl [2, 3, 1, 0] rfl))
  unfold xb_X6_numberAt_e at hB
  refine lv_iconst (v := (0 : Int32)) hx hb dX6_numberAt_0 (by decide) ?_
  refine lv_istore_n (lv' := [(3, .int (0 : Int32)), (0, .ref (q 2)), (1, .int a1), (2, .int a2)]) hx hb dX6_numberAt_1 rfl hl (by decide) rfl (fun ls hl => ?_)
  refine lv_iload_n hx hb dX6_numberAt_2 rfl (lv_at hl 2 rfl) ?_
  refine lv_istore (lv' := [(4, .int a1), (3, .int (0 : Int32)), (0, .ref (q 2)), (1, .int a1), (2, .int a2)]) hx hb dX6_numberAt_3 hl (by decide) rfl (fun ls hl => ?_)
  exact hB _ _ _ hw (lv_sub hl [2, 4, 1, 0] rfl)
theorem xf_X6_43 {p : Program} {s : State} {m : MethodId} {args : Array Value} {c : Code} {cc : ByteArray} {nL : Nat} {D : va_G} {cy : Nat → ClassId} {lay : List xw_E} {q : Nat → Nat} (X : xr_X p s m args c cc nL RX6 D cy lay q) : xr_F args s RX6 43 8 1 := ⟨RX8, TX8, 2, tyX8, rfl, by decide, fun w h => X.2.2.2.2.1 w (xt_inX8 w h), tyX8_ok, nmX8, Or.inr (va_Nw.use rfl (X.2.2.2.2.2.1.1 _ (List.mem_of_getElem? (i := 1) rfl)))⟩
theorem xm_X6_sortOf : xr_MW yX6_sortOf cX6_sortOf 1 (some .int) 1 := ⟨xt_2_187, xt_1_5, by decide, by decide, by decide +kernel⟩
set_option maxRecDepth 100000 in
set_option maxHeartbeats 4000000 in
theorem xc_X6_pastRun (l : Launch) (D : va_G) (cy : Nat → ClassId) (q : Nat → Nat) (σ : xw_M) (a1 : Int32) (a2 : Int32) {Z : Int32 → xw_M → Prop} (hU : xu_X6_pastRun σ a1 a2 Z) : xr_CI l yX6_pastRun cX6_pastRun 4 .int { frames := 1, cells := 0, slots := 0, locals := 21 } D cy xl_A q σ [.ref (q 2), .int a1, .int a2] Z := by
  refine xr_CI.of RX6 rfl (by decide) (Nat.le_of_ble_eq_true rfl) (fun p e s m below meth c X hw hr hk ls hl => ?_)
  have hx := X.1
  have hb := X.2.1
  have hl : lv_has ls 4 [(0, .ref (q 2)), (1, .int a1), (2, .int a2)] := hl
  have hB := hU (fun (σ : xw_M) (v3 : Int32) => ∀ (H : Heap) (locs : List Loc) (ls : Array Slot), xr_H D cy xl_A q s σ H locs → lv_has ls 4 [(0, .ref (q 2)), (2, .int a2), (3, .int v3)] → W p l e ({ frames := 1, cells := 0, slots := 0, locals := 21 } : Room) s m ([.ref (q 2), .int a1, .int a2] : List Value).toArray below meth c H locs 0 0 (MQ below (va_Qi Z (xr_po D cy xl_A q) (xw_A xl_A q s.heap.size)) ([.ref (q 2), .int a1, .int a2] : List Value).toArray s 0 0 (xw_A xl_A q s.heap.size)) (F0 m 2 ls []))
    (by
    intro σ v3 hB H locs ls hw hl
    unfold xb_X6_pastRun_2 at hB
    refine lv_iload_n hx hb dX6_pastRun_2 rfl (lv_at hl 2 rfl) ?_
    refine lv_aload_n hx hb dX6_pastRun_3 rfl (lv_at hl 0 rfl) ?_
    refine xr_getr X hw (xf_X6_25 X) 2 xl_A_Scanner_at rfl dX6_pastRun_4 ?_
    refine xr_geti X hw (xf_X6_43 X) 1 xl_A_Tape_at rfl dX6_pastRun_7 ?_
    refine lv_icmp_ge (tgt := 36) hx hb dX6_pastRun_10 (by decide) (fun hc => ?_) (fun hc => ?_)
    · replace hB := hB.1 hc
      refine lv_aload_n hx hb dX6_pastRun_36 rfl (lv_at hl 0 rfl) ?_
      refine xr_getr X hw (xf_X6_25 X) 2 xl_A_Scanner_at rfl dX6_pastRun_37 ?_
      refine xr_geti X hw (xf_X6_43 X) 1 xl_A_Tape_at rfl dX6_pastRun_40 ?_
      exact xr_iret X hw hr hk hB dX6_pastRun_43
    · replace hB := hB.2 hc
      refine lv_aload_n hx hb dX6_pastRun_13 rfl (lv_at hl 0 rfl) ?_
      refine xr_getr X hw (xf_X6_25 X) 2 xl_A_Scanner_at rfl dX6_pastRun_14 ?_
      refine lv_iload_n hx hb dX6_pastRun_17 rfl (lv_at hl 2 rfl) ?_
      refine xr_i hw (xr_runV (As := [.int v3]) (rest := []) X hw 1 (xc_X8_at l D cy q σ v3 hB _) xm_X8_at xt_2_181 xt_2_182 xt_2_183 ⟨Nat.le_of_ble_eq_true rfl, Nat.le_of_ble_eq_true rfl⟩ xl_A_Tape_at rfl rfl rfl rfl hl.1 (Nat.le_of_ble_eq_true rfl) dX6_pastRun_18 ⟨Nat.zero_le _, Nat.zero_le _⟩) (fun r2 σ1 H locs hB hw => ?_)
      refine xr_i hw (xr_runS (As := [.int r2]) (rest := []) X hw (xc_X6_sortOf l D cy q σ1 r2 hB _) xm_X6_sortOf xt_2_185 xt_2_186 ⟨Nat.le_of_ble_eq_true rfl, Nat.le_of_ble_eq_true rfl⟩ rfl rfl hl.1 (Nat.le_of_ble_eq_true rfl) dX6_pastRun_21 ⟨Nat.zero_le _, Nat.zero_le _⟩) (fun r4 σ3 H locs hB hw => ?_)
      refine lv_iload_n hx hb dX6_pastRun_24 rfl (lv_at hl 1 rfl) ?_
      refine lv_icmp_eq (tgt := 30) hx hb dX6_pastRun_25 (by decide) (fun hc => ?_) (fun hc => ?_)
      · replace hB := hB.1 hc
        refine lv_iinc (v := (v3 + (1 : Int32))) (lv' := [(3, .int (v3 + (1 : Int32))), (0, .ref (q 2)), (2, .int a2)]) hx hb dX6_pastRun_30 hl (k := 2) rfl rfl (by decide) rfl (fun ls hl => ?_)
        refine lv_goto (tgt := 2) hx hb dX6_pastRun_33 (by decide) ?_
        exact hB _ _ _ hw (lv_sub hl [1, 2, 0] rfl)
      · replace hB := hB.2 hc
        refine lv_iload_n hx hb dX6_pastRun_28 rfl (lv_at hl 2 rfl) ?_
        exact xr_iret X hw hr hk hB dX6_pastRun_29)
  unfold xb_X6_pastRun_e at hB
  refine lv_iload_n hx hb dX6_pastRun_0 rfl (lv_at hl 1 rfl) ?_
  refine lv_istore_n (lv' := [(3, .int a1), (0, .ref (q 2)), (1, .int a1), (2, .int a2)]) hx hb dX6_pastRun_1 rfl hl (by decide) rfl (fun ls hl => ?_)
  exact hB _ _ _ hw (lv_sub hl [1, 3, 0] rfl)
