theorem xf_X11_266 {p : Program} {s : State} {m : MethodId} {args : Array Value} {c : Code} {cc : ByteArray} {nL : Nat} {D : va_G} {cy : Nat → ClassId} {lay : List xw_E} {q : Nat → Nat} (X : xr_X p s m args c cc nL RX11 D cy lay q) : xr_F args s RX11 266 9 9 := ⟨RX9, TX9, 11, tyX9, rfl, by decide, fun w h => X.2.2.2.2.1 w (xt_inX9 w h), tyX9_ok, nmX9, Or.inr (va_Nw.use rfl (X.2.2.2.2.2.1.1 _ (List.mem_of_getElem? (i := 6) rfl)))⟩
theorem xf_X11_93 {p : Program} {s : State} {m : MethodId} {args : Array Value} {c : Code} {cc : ByteArray} {nL : Nat} {D : va_G} {cy : Nat → ClassId} {lay : List xw_E} {q : Nat → Nat} (X : xr_X p s m args c cc nL RX11 D cy lay q) : xr_F args s RX11 93 11 10 := ⟨RX11, TX11, 12, tyX11, rfl, by decide, fun w h => X.2.2.2.2.1 w (xt_inX11 w h), tyX11_ok, nmX11, Or.inl (X.2.2.2.2.1 _ xt_2_122)⟩
set_option maxRecDepth 100000 in
set_option maxHeartbeats 4000000 in
theorem xc_X11_count (l : Launch) (D : va_G) (cy : Nat → ClassId) (q : Nat → Nat) (σ : xw_M) (a1 : Int32) {Z : Int32 → xw_M → Prop} (hU : xu_X11_count σ a1 Z) : xr_CI l yX11_count cX11_count 2 .int { frames := 2, cells := 0, slots := 0, locals := 43 } D cy xl_A q σ [.ref (q 0), .int a1] Z := by
  refine xr_CI.of RX11 rfl (by decide) (Nat.le_of_ble_eq_true rfl) (fun p e s m below meth c X hw hr hk ls hl => ?_)
  have hx := X.1
  have hb := X.2.1
  have hl : lv_has ls 2 [(0, .ref (q 0)), (1, .int a1)] := hl
  have hB := hU (fun (σ : xw_M) => ∀ (H : Heap) (locs : List Loc) (ls : Array Slot), xr_H D cy xl_A q s σ H locs → lv_has ls 2 [(0, .ref (q 0)), (1, .int a1)] → W p l e ({ frames := 2, cells := 0, slots := 0, locals := 43 } : Room) s m ([.ref (q 0), .int a1] : List Value).toArray below meth c H locs 0 0 (MQ below (va_Qi Z (xr_po D cy xl_A q) (xw_A xl_A q s.heap.size)) ([.ref (q 0), .int a1] : List Value).toArray s 0 0 (xw_A xl_A q s.heap.size)) (F0 m 33 ls []))
    (by
    intro σ hB H locs ls hw hl
    unfold xb_X11_count_33 at hB
    refine lv_iload_n hx hb dX11_count_33 rfl (lv_at hl 1 rfl) ?_
    by_cases hc0 : a1 = (0 : Int32)
    · replace hB := hB.1 hc0
      refine lv_tableIn (tgt := 76) hx hb dX11_count_34 (by rw [hc0]; decide) (by rw [hc0]; decide) (by rw [hc0]; rfl) (by decide) ?_
      refine lv_aload_n hx hb dX11_count_76 rfl (lv_at hl 0 rfl) ?_
      refine xr_getr X hw (xf_X11_40 X) 0 xl_A_ShowRings_at rfl dX11_count_77 ?_
      refine xr_geti X hw (xf_X11_137 X) 4 xl_A_Kennel_at rfl dX11_count_80 ?_
      exact xr_iret X hw hr hk hB dX11_count_83
    replace hB := hB.2 hc0
    by_cases hc1 : a1 = (1 : Int32)
    · replace hB := hB.1 hc1
      refine lv_tableIn (tgt := 84) hx hb dX11_count_34 (by rw [hc1]; decide) (by rw [hc1]; decide) (by rw [hc1]; rfl) (by decide) ?_
      refine lv_aload_n hx hb dX11_count_84 rfl (lv_at hl 0 rfl) ?_
      refine xr_getr X hw (xf_X11_40 X) 0 xl_A_ShowRings_at rfl dX11_count_85 ?_
      refine xr_geti X hw (xf_X11_150 X) 4 xl_A_Kennel_at rfl dX11_count_88 ?_
      exact xr_iret X hw hr hk hB dX11_count_91
    replace hB := hB.2 hc1
    by_cases hc2 : a1 = (2 : Int32)
    · replace hB := hB.1 hc2
      refine lv_tableIn (tgt := 92) hx hb dX11_count_34 (by rw [hc2]; decide) (by rw [hc2]; decide) (by rw [hc2]; rfl) (by decide) ?_
      refine lv_aload_n hx hb dX11_count_92 rfl (lv_at hl 0 rfl) ?_
      refine xr_geti X hw (xf_X11_89 X) 0 xl_A_ShowRings_at rfl dX11_count_93 ?_
      exact xr_iret X hw hr hk hB dX11_count_96
    replace hB := hB.2 hc2
    by_cases hc3 : a1 = (3 : Int32)
    · replace hB := hB.1 hc3
      refine lv_tableIn (tgt := 97) hx hb dX11_count_34 (by rw [hc3]; decide) (by rw [hc3]; decide) (by rw [hc3]; rfl) (by decide) ?_
      refine lv_aload_n hx hb dX11_count_97 rfl (lv_at hl 0 rfl) ?_
      refine xr_getr X hw (xf_X11_49 X) 0 xl_A_ShowRings_at rfl dX11_count_98 ?_
      refine xr_geti X hw (xf_X11_195 X) 5 xl_A_Facts_at rfl dX11_count_101 ?_
      exact xr_iret X hw hr hk hB dX11_count_104
    replace hB := hB.2 hc3
    by_cases hc4 : a1 = (4 : Int32)
    · replace hB := hB.1 hc4
      refine lv_tableIn (tgt := 105) hx hb dX11_count_34 (by rw [hc4]; decide) (by rw [hc4]; decide) (by rw [hc4]; rfl) (by decide) ?_
      refine lv_aload_n hx hb dX11_count_105 rfl (lv_at hl 0 rfl) ?_
      refine xr_getr X hw (xf_X11_19 X) 0 xl_A_ShowRings_at rfl dX11_count_106 ?_
      refine xr_geti X hw (xf_X11_266 X) 9 (xl_A_Text_at (i := 0) (by decide)) rfl dX11_count_109 ?_
      exact xr_iret X hw hr hk hB dX11_count_112
    replace hB := hB.2 hc4
    by_cases hc5 : a1 = (5 : Int32)
    · replace hB := hB.1 hc5
      refine lv_tableIn (tgt := 113) hx hb dX11_count_34 (by rw [hc5]; decide) (by rw [hc5]; decide) (by rw [hc5]; rfl) (by decide) ?_
      refine lv_aload_n hx hb dX11_count_113 rfl (lv_at hl 0 rfl) ?_
      refine xr_geti X hw (xf_X11_93 X) 0 xl_A_ShowRings_at rfl dX11_count_114 ?_
      exact xr_iret X hw hr hk hB dX11_count_117
    replace hB := hB.2 hc5
    by_cases hc6 : a1 = (6 : Int32)
    · replace hB := hB.1 hc6
      refine lv_tableIn (tgt := 118) hx hb dX11_count_34 (by rw [hc6]; decide) (by rw [hc6]; decide) (by rw [hc6]; rfl) (by decide) ?_
      refine lv_aload_n hx hb dX11_count_118 rfl (lv_at hl 0 rfl) ?_
      refine xr_getr X hw (xf_X11_10 X) 0 xl_A_ShowRings_at rfl dX11_count_119 ?_
      refine xr_geti X hw (xf_X11_99 X) 1 xl_A_Tape_at rfl dX11_count_122 ?_
      exact xr_iret X hw hr hk hB dX11_count_125
    replace hB := hB.2 hc6
    refine xr_tdef hx hb (tgt := 126) dX11_count_34 (by decide) (by decide) (by decide) ?_ ?_
    · intro j hj hx2
      match j, hj, hx2 with
      | 0, _, hx2 => exact absurd hx2 hc0
      | 1, _, hx2 => exact absurd hx2 hc1
      | 2, _, hx2 => exact absurd hx2 hc2
      | 3, _, hx2 => exact absurd hx2 hc3
      | 4, _, hx2 => exact absurd hx2 hc4
      | 5, _, hx2 => exact absurd hx2 hc5
      | 6, _, hx2 => exact absurd hx2 hc6
      | j + 7, hj, _ => exact absurd hj (by simp)
    refine lv_iconst (v := (-1 : Int32)) hx hb dX11_count_126 (by decide) ?_
    exact xr_iret X hw hr hk hB dX11_count_127)
  unfold xb_X11_count_e at hB
  refine lv_iload_n hx hb dX11_count_0 rfl (lv_at hl 1 rfl) ?_
  refine lv_bipush (v := (10 : Int32)) hx hb dX11_count_1 (by decide) ?_
  refine lv_icmp_lt (tgt := 33) hx hb dX11_count_3 (by decide) (fun hc => ?_) (fun hc => ?_)
  · replace hB := hB.1 hc
    exact hB _ _ _ hw (lv_sub hl [0, 1] rfl)
  · replace hB := hB.2 hc
    refine lv_aload_n hx hb dX11_count_6 rfl (lv_at hl 0 rfl) ?_
    refine lv_iload_n hx hb dX11_count_7 rfl (lv_at hl 1 rfl) ?_
    refine lv_bipush (v := (10 : Int32)) hx hb dX11_count_8 (by decide) ?_
    refine lv_isub hx hb dX11_count_10 ?_
    refine xr_i hw (xr_runV (As := [.int (a1 - (10 : Int32))]) (rest := []) X hw 0 (xc_X11_isShow l D cy q σ (a1 - (10 : Int32)) hB _) xm_X11_isShow xt_3_131 xt_3_133 xt_p_14 ⟨Nat.le_of_ble_eq_true rfl, Nat.le_of_ble_eq_true rfl⟩ xl_A_ShowRings_at rfl rfl rfl rfl hl.1 (Nat.le_of_ble_eq_true rfl) dX11_count_11 ⟨Nat.zero_le _, Nat.zero_le _⟩) (fun r2 σ1 H locs hB hw => ?_)
    refine lv_if_eq (tgt := 33) hx hb dX11_count_14 (by decide) (fun hc => ?_) (fun hc => ?_)
    · replace hB := hB.1 hc
      exact hB _ _ _ hw (lv_sub hl [0, 1] rfl)
    · replace hB := hB.2 hc
      refine lv_aload_n hx hb dX11_count_17 rfl (lv_at hl 0 rfl) ?_
      refine xr_getr X hw (xf_X11_82 X) 0 xl_A_ShowRings_at rfl dX11_count_18 ?_
      refine lv_iload_n hx hb dX11_count_21 rfl (lv_at hl 1 rfl) ?_
      refine lv_bipush (v := (10 : Int32)) hx hb dX11_count_22 (by decide) ?_
      refine lv_isub hx hb dX11_count_24 ?_
      have hi3 := hB.1
      refine xr_aald X hw 23 xl_A_ShowRings_shows_at hi3 dX11_count_25 ?_
      replace hB := hB.2
      refine xr_geti X hw (xf_X11_263 X) (11 + (Int32.toNatClampNeg (a1 - (10 : Int32)))) (xl_A_Show_at (i := (Int32.toNatClampNeg (a1 - (10 : Int32)))) (xr_lt hi3)) rfl dX11_count_26 ?_
      refine xr_i hw (xr_runS (As := [.int (σ1.1 (11 + (Int32.toNatClampNeg (a1 - (10 : Int32)))) 3)]) (rest := []) X hw (xc_J6_bitCount_0f7a4 l D cy q σ1 (σ1.1 (11 + (Int32.toNatClampNeg (a1 - (10 : Int32)))) 3) hB _) xm_J6_bitCount_0f7a4 xt_4_142 xt_3_205 ⟨Nat.le_of_ble_eq_true rfl, Nat.le_of_ble_eq_true rfl⟩ rfl rfl hl.1 (Nat.le_of_ble_eq_true rfl) dX11_count_29 ⟨Nat.zero_le _, Nat.zero_le _⟩) (fun r5 σ4 H locs hB hw => ?_)
      exact xr_iret X hw hr hk hB dX11_count_32
