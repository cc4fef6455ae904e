theorem xf_X11_89 {p : Program} {s : State} {m : MethodId} {args : Array Value} {c : Code} {cc : ByteArray} {nL : Nat} {D : va_G} {cy : Nat → ClassId} {lay : List xw_E} {q : Nat → Nat} (X : xr_X p s m args c cc nL RX11 D cy lay q) : xr_F args s RX11 89 11 9 := ⟨RX11, TX11, 12, tyX11, rfl, by decide, fun w h => X.2.2.2.2.1 w (xt_inX11 w h), tyX11_ok, nmX11, Or.inl (X.2.2.2.2.1 _ xt_2_121)⟩
theorem xf_X11_82 {p : Program} {s : State} {m : MethodId} {args : Array Value} {c : Code} {cc : ByteArray} {nL : Nat} {D : va_G} {cy : Nat → ClassId} {lay : List xw_E} {q : Nat → Nat} (X : xr_X p s m args c cc nL RX11 D cy lay q) : xr_F args s RX11 82 11 8 := ⟨RX11, TX11, 12, tyX11, rfl, by decide, fun w h => X.2.2.2.2.1 w (xt_inX11 w h), tyX11_ok, nmX11, Or.inl (X.2.2.2.2.1 _ xt_2_120)⟩
theorem xf_X11_161 {p : Program} {s : State} {m : MethodId} {args : Array Value} {c : Code} {cc : ByteArray} {nL : Nat} {D : va_G} {cy : Nat → ClassId} {lay : List xw_E} {q : Nat → Nat} (X : xr_X p s m args c cc nL RX11 D cy lay q) : xr_F args s RX11 161 7 2 := ⟨RX7, TX7, 4, tyX7, rfl, by decide, fun w h => X.2.2.2.2.1 w (xt_inX7 w h), tyX7_ok, nmX7, Or.inr (va_Nw.use rfl (X.2.2.2.2.2.1.1 _ (List.mem_of_getElem? (i := 39) rfl)))⟩
theorem xp_X11_161 {p : Program} {s : State} {m : MethodId} {args : Array Value} {c : Code} {cc : ByteArray} {nL : Nat} {D : va_G} {cy : Nat → ClassId} {lay : List xw_E} {q : Nat → Nat} (X : xr_X p s m args c cc nL RX11 D cy lay q) : xr_P args s RX11 161 7 2 := ⟨RX7, TX7, 4, tyX7, rfl, by decide, fun w h => X.2.2.2.2.1 w (xt_inX7 w h), tyX7_ok, nmX7, Or.inr (va_Nw.use rfl (X.2.2.2.2.2.1.1 _ (List.mem_of_getElem? (i := 39) rfl))), rfl, by decide +kernel⟩
theorem xp_X11_89 {p : Program} {s : State} {m : MethodId} {args : Array Value} {c : Code} {cc : ByteArray} {nL : Nat} {D : va_G} {cy : Nat → ClassId} {lay : List xw_E} {q : Nat → Nat} (X : xr_X p s m args c cc nL RX11 D cy lay q) : xr_P args s RX11 89 11 9 := ⟨RX11, TX11, 12, tyX11, rfl, by decide, fun w h => X.2.2.2.2.1 w (xt_inX11 w h), tyX11_ok, nmX11, Or.inl (X.2.2.2.2.1 _ xt_2_121), rfl, by decide +kernel⟩
set_option maxRecDepth 100000 in
set_option maxHeartbeats 4000000 in
theorem xc_X11_show (l : Launch) (D : va_G) (cy : Nat → ClassId) (q : Nat → Nat) (σ : xw_M) (a1 : Int32) {Z : Int32 → xw_M → Prop} (hU : xu_X11_show σ a1 Z) : xr_CI l yX11_show cX11_show 2 .int { frames := 2, cells := 0, slots := 0, locals := 42 } D cy xl_A q σ [.ref (q 0), .int a1] Z := by
  refine xr_CI.of RX11 rfl (by decide) (Nat.le_of_ble_eq_true rfl) (fun p e s m below meth c X hw hr hk ls hl => ?_)
  have hx := X.1
  have hb := X.2.1
  have hl : lv_has ls 2 [(0, .ref (q 0)), (1, .int a1)] := hl
  have hB := hU (fun (σ : xw_M) => ∀ (H : Heap) (locs : List Loc) (ls : Array Slot), xr_H D cy xl_A q s σ H locs → lv_has ls 2 [(0, .ref (q 0)), (1, .int a1)] → W p l e ({ frames := 2, cells := 0, slots := 0, locals := 42 } : Room) s m ([.ref (q 0), .int a1] : List Value).toArray below meth c H locs 0 0 (MQ below (va_Qi Z (xr_po D cy xl_A q) (xw_A xl_A q s.heap.size)) ([.ref (q 0), .int a1] : List Value).toArray s 0 0 (xw_A xl_A q s.heap.size)) (F0 m 44 ls []))
    (by
    intro σ hB H locs ls hw hl
    unfold xb_X11_show_44 at hB
    refine lv_aload_n hx hb dX11_show_44 rfl (lv_at hl 0 rfl) ?_
    refine xr_getr X hw (xf_X11_82 X) 0 xl_A_ShowRings_at rfl dX11_show_45 ?_
    refine lv_aload_n hx hb dX11_show_48 rfl (lv_at hl 0 rfl) ?_
    refine xr_geti X hw (xf_X11_89 X) 0 xl_A_ShowRings_at rfl dX11_show_49 ?_
    have hi4 := hB.1
    refine xr_aald X hw 23 xl_A_ShowRings_shows_at hi4 dX11_show_52 ?_
    replace hB := hB.2
    refine lv_iload_n hx hb dX11_show_53 rfl (lv_at hl 1 rfl) ?_
    refine xr_puti X hw (xp_X11_161 X) (11 + (Int32.toNatClampNeg (σ.1 0 9))) (xl_A_Show_at (i := (Int32.toNatClampNeg (σ.1 0 9))) (xr_lt hi4)) rfl dX11_show_54 hB (fun σ5 H locs hB hw => ?_)
    refine lv_aload_n hx hb dX11_show_57 rfl (lv_at hl 0 rfl) ?_
    refine lv_dup hx hb dX11_show_58 rfl ?_
    refine xr_geti X hw (xf_X11_89 X) 0 xl_A_ShowRings_at rfl dX11_show_59 ?_
    refine lv_iconst (v := (1 : Int32)) hx hb dX11_show_62 (by decide) ?_
    refine lv_iadd hx hb dX11_show_63 ?_
    refine xr_puti X hw (xp_X11_89 X) 0 xl_A_ShowRings_at rfl dX11_show_64 hB (fun σ6 H locs hB hw => ?_)
    refine lv_aload_n hx hb dX11_show_67 rfl (lv_at hl 0 rfl) ?_
    refine xr_geti X hw (xf_X11_89 X) 0 xl_A_ShowRings_at rfl dX11_show_68 ?_
    refine lv_iconst (v := (1 : Int32)) hx hb dX11_show_71 (by decide) ?_
    refine lv_isub hx hb dX11_show_72 ?_
    exact xr_iret X hw hr hk hB dX11_show_73)
  unfold xb_X11_show_e at hB
  refine lv_aload_n hx hb dX11_show_0 rfl (lv_at hl 0 rfl) ?_
  refine xr_geti X hw (xf_X11_89 X) 0 xl_A_ShowRings_at rfl dX11_show_1 ?_
  refine lv_iconst (v := (5 : Int32)) hx hb dX11_show_4 (by decide) ?_
  refine lv_icmp_ge (tgt := 15) hx hb dX11_show_5 (by decide) (fun hc => ?_) (fun hc => ?_)
  · replace hB := hB.1 hc
    refine lv_iconst (v := (-1 : Int32)) hx hb dX11_show_15 (by decide) ?_
    exact xr_iret X hw hr hk hB dX11_show_16
  · replace hB := hB.2 hc
    refine lv_iload_n hx hb dX11_show_8 rfl (lv_at hl 1 rfl) ?_
    refine xr_i hw (xr_runS (As := [.int a1]) (rest := []) X hw (xc_X11_isDay l D cy q σ a1 hB _) xm_X11_isDay xt_3_108 xt_3_109 ⟨Nat.le_of_ble_eq_true rfl, Nat.le_of_ble_eq_true rfl⟩ rfl rfl hl.1 (Nat.le_of_ble_eq_true rfl) dX11_show_9 ⟨Nat.zero_le _, Nat.zero_le _⟩) (fun r2 σ1 H locs hB hw => ?_)
    refine lv_if_ne (tgt := 17) hx hb dX11_show_12 (by decide) (fun hc => ?_) (fun hc => ?_)
    · replace hB := hB.1 hc
      refine lv_aload_n hx hb dX11_show_17 rfl (lv_at hl 0 rfl) ?_
      refine xr_geti X hw (xf_X11_89 X) 0 xl_A_ShowRings_at rfl dX11_show_18 ?_
      refine lv_if_le (tgt := 44) hx hb dX11_show_21 (by decide) (fun hc => ?_) (fun hc => ?_)
      · replace hB := hB.1 hc
        exact hB _ _ _ hw (lv_sub hl [0, 1] rfl)
      · replace hB := hB.2 hc
        refine lv_iload_n hx hb dX11_show_24 rfl (lv_at hl 1 rfl) ?_
        refine lv_aload_n hx hb dX11_show_25 rfl (lv_at hl 0 rfl) ?_
        refine xr_getr X hw (xf_X11_82 X) 0 xl_A_ShowRings_at rfl dX11_show_26 ?_
        refine lv_aload_n hx hb dX11_show_29 rfl (lv_at hl 0 rfl) ?_
        refine xr_geti X hw (xf_X11_89 X) 0 xl_A_ShowRings_at rfl dX11_show_30 ?_
        refine lv_iconst (v := (1 : Int32)) hx hb dX11_show_33 (by decide) ?_
        refine lv_isub hx hb dX11_show_34 ?_
        have hi3 := hB.1
        refine xr_aald X hw 23 xl_A_ShowRings_shows_at hi3 dX11_show_35 ?_
        replace hB := hB.2
        refine xr_geti X hw (xf_X11_161 X) (11 + (Int32.toNatClampNeg ((σ1.1 0 9) - (1 : Int32)))) (xl_A_Show_at (i := (Int32.toNatClampNeg ((σ1.1 0 9) - (1 : Int32)))) (xr_lt hi3)) rfl dX11_show_36 ?_
        refine lv_icmp_gt (tgt := 44) hx hb dX11_show_39 (by decide) (fun hc => ?_) (fun hc => ?_)
        · replace hB := hB.1 hc
          exact hB _ _ _ hw (lv_sub hl [0, 1] rfl)
        · replace hB := hB.2 hc
          refine lv_iconst (v := (-1 : Int32)) hx hb dX11_show_42 (by decide) ?_
          exact xr_iret X hw hr hk hB dX11_show_43
    · replace hB := hB.2 hc
      refine lv_iconst (v := (-1 : Int32)) hx hb dX11_show_15 (by decide) ?_
      exact xr_iret X hw hr hk hB dX11_show_16
set_option maxRecDepth 100000 in
set_option maxHeartbeats 4000000 in
theorem xc_X11_isDog (l : Launch) (D : va_G) (cy : Nat → ClassId) (q : Nat → Nat) (σ : xw_M) (a1 : Int32) {Z : Int32 → xw_M → Prop} (hU : xu_X11_isDog σ a1 Z) : xr_CI l yX11_isDog cX11_isDog 2 .boolean { frames := 1, cells := 0, slots := 0, locals := 22 } D cy xl_A q σ [.ref (q 0), .int a1] Z := by
  refine xr_CI.of RX11 rfl (by decide) (Nat.le_of_ble_eq_true rfl) (fun p e s m below meth c X hw hr hk ls hl => ?_)
  have hx := X.1
  have hb := X.2.1
  have hl : lv_has ls 2 [(0, .ref (q 0)), (1, .int a1)] := hl
  unfold xu_X11_isDog at hU
  have hB := hU
  refine lv_iload_n hx hb dX11_isDog_0 rfl (lv_at hl 1 rfl) ?_
  refine lv_iconst (v := (0 : Int32)) hx hb dX11_isDog_1 (by decide) ?_
  refine lv_aload_n hx hb dX11_isDog_2 rfl (lv_at hl 0 rfl) ?_
  refine xr_getr X hw (xf_X11_40 X) 0 xl_A_ShowRings_at rfl dX11_isDog_3 ?_
  refine xr_geti X hw (xf_X11_150 X) 4 xl_A_Kennel_at rfl dX11_isDog_6 ?_
  refine lv_iconst (v := (1 : Int32)) hx hb dX11_isDog_9 (by decide) ?_
  refine lv_isub hx hb dX11_isDog_10 ?_
  refine xr_i hw (xr_runS (As := [.int a1, .int (0 : Int32), .int ((σ.1 4 12) - (1 : Int32))]) (rest := []) X hw (xc_X11_isWithin l D cy q σ a1 (0 : Int32) ((σ.1 4 12) - (1 : Int32)) hB _) xm_X11_isWithin xt_3_80 xt_3_81 ⟨Nat.le_of_ble_eq_true rfl, Nat.le_of_ble_eq_true rfl⟩ rfl rfl hl.1 (Nat.le_of_ble_eq_true rfl) dX11_isDog_11 ⟨Nat.zero_le _, Nat.zero_le _⟩) (fun r2 σ1 H locs hB hw => ?_)
  exact xr_zret X hw hr hk hB dX11_isDog_14
set_option maxRecDepth 100000 in
set_option maxHeartbeats 4000000 in
theorem xc_X11_isShow (l : Launch) (D : va_G) (cy : Nat → ClassId) (q : Nat → Nat) (σ : xw_M) (a1 : Int32) {Z : Int32 → xw_M → Prop} (hU : xu_X11_isShow σ a1 Z) : xr_CI l yX11_isShow cX11_isShow 2 .boolean { frames := 1, cells := 0, slots := 0, locals := 22 } D cy xl_A q σ [.ref (q 0), .int a1] Z := by
  refine xr_CI.of RX11 rfl (by decide) (Nat.le_of_ble_eq_true rfl) (fun p e s m below meth c X hw hr hk ls hl => ?_)
  have hx := X.1
  have hb := X.2.1
  have hl : lv_has ls 2 [(0, .ref (q 0)), (1, .int a1)] := hl
  unfold xu_X11_isShow at hU
  have hB := hU
  refine lv_iload_n hx hb dX11_isShow_0 rfl (lv_at hl 1 rfl) ?_
  refine lv_iconst (v := (0 : Int32)) hx hb dX11_isShow_1 (by decide) ?_
  refine lv_aload_n hx hb dX11_isShow_2 rfl (lv_at hl 0 rfl) ?_
  refine xr_geti X hw (xf_X11_89 X) 0 xl_A_ShowRings_at rfl dX11_isShow_3 ?_
  refine lv_iconst (v := (1 : Int32)) hx hb dX11_isShow_6 (by decide) ?_
  refine lv_isub hx hb dX11_isShow_7 ?_
  refine xr_i hw (xr_runS (As := [.int a1, .int (0 : Int32), .int ((σ.1 0 9) - (1 : Int32))]) (rest := []) X hw (xc_X11_isWithin l D cy q σ a1 (0 : Int32) ((σ.1 0 9) - (1 : Int32)) hB _) xm_X11_isWithin xt_3_80 xt_3_81 ⟨Nat.le_of_ble_eq_true rfl, Nat.le_of_ble_eq_true rfl⟩ rfl rfl hl.1 (Nat.le_of_ble_eq_true rfl) dX11_isShow_8 ⟨Nat.zero_le _, Nat.zero_le _⟩) (fun r2 σ1 H locs hB hw => ?_)
  exact xr_zret X hw hr hk hB dX11_isShow_11
