theorem xf_X11_19 {p : Program} {s : State} {m : MethodId} {args : Array Value} {c : Code} {cc : ByteArray} {nL : Nat} {D : va_G} {cy : Nat → ClassId} {lay : List xw_E} {q : Nat → Nat} (X : xr_X p s m args c cc nL RX11 D cy lay q) : xr_F args s RX11 19 11 1 := ⟨RX11, TX11, 12, tyX11, rfl, by decide, fun w h => X.2.2.2.2.1 w (xt_inX11 w h), tyX11_ok, nmX11, Or.inl (X.2.2.2.2.1 _ xt_2_113)⟩
theorem xm_X9_firstOfKind : xr_MW yX9_firstOfKind cX9_firstOfKind 3 (some .int) 1 := ⟨xt_4_141, xt_1_3, by decide, by decide, by decide +kernel⟩
theorem xf_X11_247 {p : Program} {s : State} {m : MethodId} {args : Array Value} {c : Code} {cc : ByteArray} {nL : Nat} {D : va_G} {cy : Nat → ClassId} {lay : List xw_E} {q : Nat → Nat} (X : xr_X p s m args c cc nL RX11 D cy lay q) : xr_F args s RX11 247 9 1 := ⟨RX9, TX9, 11, tyX9, rfl, by decide, fun w h => X.2.2.2.2.1 w (xt_inX9 w h), tyX9_ok, nmX9, Or.inr (va_Nw.use rfl (X.2.2.2.2.2.1.1 _ (List.mem_of_getElem? (i := 3) rfl)))⟩
theorem xf_X11_253 {p : Program} {s : State} {m : MethodId} {args : Array Value} {c : Code} {cc : ByteArray} {nL : Nat} {D : va_G} {cy : Nat → ClassId} {lay : List xw_E} {q : Nat → Nat} (X : xr_X p s m args c cc nL RX11 D cy lay q) : xr_F args s RX11 253 9 2 := ⟨RX9, TX9, 11, tyX9, rfl, by decide, fun w h => X.2.2.2.2.1 w (xt_inX9 w h), tyX9_ok, nmX9, Or.inr (va_Nw.use rfl (X.2.2.2.2.2.1.1 _ (List.mem_of_getElem? (i := 4) rfl)))⟩
set_option maxRecDepth 100000 in
set_option maxHeartbeats 4000000 in
theorem xc_X11_title (l : Launch) (D : va_G) (cy : Nat → ClassId) (q : Nat → Nat) (σ : xw_M) (a1 : Int32) (a2 : Int32) {Z : Int32 → xw_M → Prop} (hU : xu_X11_title σ a1 a2 Z) : xr_CI l yX11_title cX11_title 8 .int { frames := 6, cells := 0, slots := 0, locals := 157 } D cy xl_A q σ [.ref (q 0), .int a1, .int a2] Z := by
  refine xr_CI.of RX11 rfl (by decide) (Nat.le_of_ble_eq_true rfl) (fun p e s m below meth c X hw hr hk ls hl => ?_)
  have hx := X.1
  have hb := X.2.1
  have hl : lv_has ls 8 [(0, .ref (q 0)), (1, .int a1), (2, .int a2)] := hl
  have hB := hU (fun (σ : xw_M) (v3 : Int32) (v4 : Int32) (v5 : Int32) (v6 : Int32) (v7 : Int32) => ∀ (H : Heap) (locs : List Loc) (ls : Array Slot), xr_H D cy xl_A q s σ H locs → lv_has ls 8 [(0, .ref (q 0)), (1, .int a1), (2, .int a2), (3, .int v3), (4, .int v4), (5, .int v5), (6, .int v6), (7, .int v7)] → W p l e ({ frames := 6, cells := 0, slots := 0, locals := 157 } : Room) s m ([.ref (q 0), .int a1, .int a2] : List Value).toArray below meth c H locs 0 0 (MQ below (va_Qi Z (xr_po D cy xl_A q) (xw_A xl_A q s.heap.size)) ([.ref (q 0), .int a1, .int a2] : List Value).toArray s 0 0 (xw_A xl_A q s.heap.size)) (F0 m 58 ls []))
    (fun (σ : xw_M) (v3 : Int32) (v4 : Int32) (v5 : Int32) (v6 : Int32) (v7 : Int32) => ∀ (H : Heap) (locs : List Loc) (ls : Array Slot), xr_H D cy xl_A q s σ H locs → lv_has ls 8 [(0, .ref (q 0)), (1, .int a1), (2, .int a2), (3, .int v3), (4, .int v4), (5, .int v5), (6, .int v6), (7, .int v7)] → W p l e ({ frames := 6, cells := 0, slots := 0, locals := 157 } : Room) s m ([.ref (q 0), .int a1, .int a2] : List Value).toArray below meth c H locs 0 0 (MQ below (va_Qi Z (xr_po D cy xl_A q) (xw_A xl_A q s.heap.size)) ([.ref (q 0), .int a1, .int a2] : List Value).toArray s 0 0 (xw_A xl_A q s.heap.size)) (F0 m 132 ls []))
    (by
    intro σ v3 v4 v5 v6 v7 hB H locs ls hw hl
    unfold xb_X11_title_58 at hB
    refine lv_iload hx hb dX11_title_58 (lv_at hl 7 rfl) ?_
    refine lv_aload_n hx hb dX11_title_60 rfl (lv_at hl 0 rfl) ?_
    refine xr_geti X hw (xf_X11_89 X) 0 xl_A_ShowRings_at rfl dX11_title_61 ?_
    refine lv_icmp_ge (tgt := 172) hx hb dX11_title_64 (by decide) (fun hc => ?_) (fun hc => ?_)
    · replace hB := hB.1 hc
      refine lv_iconst (v := (-1 : Int32)) hx hb dX11_title_172 (by decide) ?_
      exact xr_iret X hw hr hk hB dX11_title_173
    · replace hB := hB.2 hc
      refine lv_aload_n hx hb dX11_title_67 rfl (lv_at hl 0 rfl) ?_
      refine xr_getr X hw (xf_X11_76 X) 0 xl_A_ShowRings_at rfl dX11_title_68 ?_
      refine lv_aload_n hx hb dX11_title_71 rfl (lv_at hl 0 rfl) ?_
      refine xr_getr X hw (xf_X11_82 X) 0 xl_A_ShowRings_at rfl dX11_title_72 ?_
      refine lv_iload hx hb dX11_title_75 (lv_at hl 7 rfl) ?_
      have hi9 := hB.1
      refine xr_aald X hw 23 xl_A_ShowRings_shows_at hi9 dX11_title_77 ?_
      replace hB := hB.2
      refine lv_iload hx hb dX11_title_78 (lv_at hl 4 rfl) ?_
      refine lv_iload_n hx hb dX11_title_80 rfl (lv_at hl 2 rfl) ?_
      refine xr_i hw (xr_runV (As := [.ref (q (11 + (Int32.toNatClampNeg v7))), .int v4, .int a2]) (rest := []) X hw 8 (xc_X5_winnerOf l D cy q σ (Int32.toNatClampNeg v7) v4 a2 (xr_lt hi9) hB _) xm_X5_winnerOf xt_4_108 xt_4_109 xt_4_110 ⟨Nat.le_of_ble_eq_true rfl, Nat.le_of_ble_eq_true rfl⟩ xl_A_Results_at rfl rfl rfl rfl hl.1 (Nat.le_of_ble_eq_true rfl) dX11_title_81 ⟨Nat.zero_le _, Nat.zero_le _⟩) (fun r11 σ10 H locs hB hw => ?_)
      refine lv_iload_n hx hb dX11_title_84 rfl (lv_at hl 1 rfl) ?_
      refine lv_icmp_ne (tgt := 132) hx hb dX11_title_85 (by decide) (fun hc => ?_) (fun hc => ?_)
      · replace hB := hB.1 hc
        exact hB _ _ _ hw (lv_sub hl [0, 1, 2, 3, 4, 5, 6, 7] rfl)
      · replace hB := hB.2 hc
        refine lv_iload hx hb dX11_title_88 (lv_at hl 5 rfl) ?_
        refine lv_aload_n hx hb dX11_title_90 rfl (lv_at hl 0 rfl) ?_
        refine xr_getr X hw (xf_X11_76 X) 0 xl_A_ShowRings_at rfl dX11_title_91 ?_
        refine lv_aload_n hx hb dX11_title_94 rfl (lv_at hl 0 rfl) ?_
        refine xr_getr X hw (xf_X11_82 X) 0 xl_A_ShowRings_at rfl dX11_title_95 ?_
        refine lv_iload hx hb dX11_title_98 (lv_at hl 7 rfl) ?_
        have hi12 := hB.1
        refine xr_aald X hw 23 xl_A_ShowRings_shows_at hi12 dX11_title_100 ?_
        replace hB := hB.2
        refine lv_iload_n hx hb dX11_title_101 rfl (lv_at hl 1 rfl) ?_
        refine lv_iload_n hx hb dX11_title_102 rfl (lv_at hl 2 rfl) ?_
        refine xr_i hw (xr_runV (As := [.ref (q (11 + (Int32.toNatClampNeg v7))), .int a1, .int a2]) (rest := [.int v5]) X hw 8 (xc_X5_pointsOfWinner l D cy q σ10 (Int32.toNatClampNeg v7) a1 a2 (xr_lt hi12) hB _) xm_X5_pointsOfWinner xt_4_122 xt_4_123 xt_4_124 ⟨Nat.le_of_ble_eq_true rfl, Nat.le_of_ble_eq_true rfl⟩ xl_A_Results_at rfl rfl rfl rfl hl.1 (Nat.le_of_ble_eq_true rfl) dX11_title_103 ⟨Nat.zero_le _, Nat.zero_le _⟩) (fun r14 σ13 H locs hB hw => ?_)
        refine lv_iadd hx hb dX11_title_106 ?_
        refine lv_istore (lv' := [(5, .int (v5 + r14)), (0, .ref (q 0)), (1, .int a1), (2, .int a2), (3, .int v3), (4, .int v4), (6, .int v6), (7, .int v7)]) hx hb dX11_title_107 hl (by decide) rfl (fun ls hl => ?_)
        refine lv_iload hx hb dX11_title_109 (lv_at hl 6 rfl) ?_
        refine lv_iconst (v := (1 : Int32)) hx hb dX11_title_111 (by decide) ?_
        refine lv_aload_n hx hb dX11_title_112 rfl (lv_at hl 1 rfl) ?_
        refine xr_getr X hw (xf_X11_82 X) 0 xl_A_ShowRings_at rfl dX11_title_113 ?_
        refine lv_iload hx hb dX11_title_116 (lv_at hl 7 rfl) ?_
        have hi15 := hB.1
        refine xr_aald X hw 23 xl_A_ShowRings_shows_at hi15 dX11_title_118 ?_
        replace hB := hB.2
        refine xr_getr X hw (xf_X11_177 X) (11 + (Int32.toNatClampNeg v7)) (xl_A_Show_at (i := (Int32.toNatClampNeg v7)) (xr_lt hi15)) rfl dX11_title_119 ?_
        refine lv_iload hx hb dX11_title_122 (lv_at hl 5 rfl) ?_
        refine lv_iconst (v := (1 : Int32)) hx hb dX11_title_124 (by decide) ?_
        refine xr_i hw (xr_runV (As := [.int v4, .int (1 : Int32)]) (rest := [.int (1 : Int32), .int v6]) X hw (16 + (Int32.toNatClampNeg v7)) (xc_X10_at l D cy q σ13 (Int32.toNatClampNeg v7) v4 (1 : Int32) (Nat.lt_of_lt_of_le (xr_lt hi15) (by decide)) hB _) xm_X10_at xt_4_48 xt_3_165 xt_3_166 ⟨Nat.le_of_ble_eq_true rfl, Nat.le_of_ble_eq_true rfl⟩ (xl_A_Timetable_at (i := (Int32.toNatClampNeg v7)) (Nat.lt_of_lt_of_le (xr_lt hi15) (by decide))) rfl rfl rfl rfl hl.1 (Nat.le_of_ble_eq_true rfl) dX11_title_125 ⟨Nat.zero_le _, Nat.zero_le _⟩) (fun r17 σ16 H locs hB hw => ?_)
        refine lv_ishl hx hb dX11_title_128 ?_
        refine lv_ior hx hb dX11_title_129 ?_
        refine lv_istore (lv' := [(6, .int (v6 ||| ((1 : Int32) <<< (r17 &&& 31)))), (5, .int (v5 + r14)), (0, .ref (q 0)), (1, .int a1), (2, .int a2), (3, .int v3), (4, .int v4), (7, .int v7)]) hx hb dX11_title_130 hl (by decide) rfl (fun ls hl => ?_)
        exact hB _ _ _ hw (lv_sub hl [2, 3, 4, 5, 6, 1, 0, 7] rfl))
    (by
    intro σ v3 v4 v5 v6 v7 hB H locs ls hw hl
    unfold xb_X11_title_132 at hB
    refine lv_iload hx hb dX11_title_132 (lv_at hl 5 rfl) ?_
    refine lv_aload_n hx hb dX11_title_134 rfl (lv_at hl 0 rfl) ?_
    refine xr_getr X hw (xf_X11_19 X) 0 xl_A_ShowRings_at rfl dX11_title_135 ?_
    refine xr_getr X hw (xf_X11_247 X) 9 (xl_A_Text_at (i := 0) (by decide)) rfl dX11_title_138 ?_
    refine lv_iload_n hx hb dX11_title_141 rfl (lv_at hl 3 rfl) ?_
    refine xr_iald X hw 50 (xl_A_Text_firstInt_at (i := 0) (by decide)) hB.1 dX11_title_142 ?_
    replace hB := hB.2
    refine lv_icmp_lt (tgt := 166) hx hb dX11_title_143 (by decide) (fun hc => ?_) (fun hc => ?_)
    · replace hB := hB.1 hc
      refine lv_iinc (v := (v7 + (1 : Int32))) (lv' := [(7, .int (v7 + (1 : Int32))), (0, .ref (q 0)), (1, .int a1), (2, .int a2), (3, .int v3), (4, .int v4), (5, .int v5), (6, .int v6)]) hx hb dX11_title_166 hl (k := 7) rfl rfl (by decide) rfl (fun ls hl => ?_)
      refine lv_goto (tgt := 58) hx hb dX11_title_169 (by decide) ?_
      exact hB _ _ _ hw (lv_sub hl [1, 2, 3, 4, 5, 6, 7, 0] rfl)
    · replace hB := hB.2 hc
      refine lv_iload hx hb dX11_title_146 (lv_at hl 6 rfl) ?_
      refine xr_i hw (xr_runS (As := [.int v6]) (rest := []) X hw (xc_J6_bitCount_0f7a4 l D cy q σ v6 hB _) xm_J6_bitCount_0f7a4 xt_4_142 xt_3_205 ⟨Nat.le_of_ble_eq_true rfl, Nat.le_of_ble_eq_true rfl⟩ rfl rfl hl.1 (Nat.le_of_ble_eq_true rfl) dX11_title_148 ⟨Nat.zero_le _, Nat.zero_le _⟩) (fun r19 σ18 H locs hB hw => ?_)
      refine lv_aload_n hx hb dX11_title_151 rfl (lv_at hl 0 rfl) ?_
      refine xr_getr X hw (xf_X11_19 X) 0 xl_A_ShowRings_at rfl dX11_title_152 ?_
      refine xr_getr X hw (xf_X11_253 X) 9 (xl_A_Text_at (i := 0) (by decide)) rfl dX11_title_155 ?_
      refine lv_iload_n hx hb dX11_title_158 rfl (lv_at hl 3 rfl) ?_
      refine xr_iald X hw 52 (xl_A_Text_secondInt_at (i := 0) (by decide)) hB.1 dX11_title_159 ?_
      replace hB := hB.2
      refine lv_icmp_lt (tgt := 166) hx hb dX11_title_160 (by decide) (fun hc => ?_) (fun hc => ?_)
      · replace hB := hB.1 hc
        refine lv_iinc (v := (v7 + (1 : Int32))) (lv' := [(7, .int (v7 + (1 : Int32))), (0, .ref (q 0)), (1, .int a1), (2, .int a2), (3, .int v3), (4, .int v4), (5, .int v5), (6, .int v6)]) hx hb dX11_title_166 hl (k := 7) rfl rfl (by decide) rfl (fun ls hl => ?_)
        refine lv_goto (tgt := 58) hx hb dX11_title_169 (by decide) ?_
        exact hB _ _ _ hw (lv_sub hl [1, 2, 3, 4, 5, 6, 7, 0] rfl)
      · replace hB := hB.2 hc
        refine lv_iload hx hb dX11_title_163 (lv_at hl 7 rfl) ?_
        exact xr_iret X hw hr hk hB dX11_title_165)
  unfold xb_X11_title_e at hB
  refine lv_aload_n hx hb dX11_title_0 rfl (lv_at hl 0 rfl) ?_
  refine xr_getr X hw (xf_X11_19 X) 0 xl_A_ShowRings_at rfl dX11_title_1 ?_
  refine lv_bipush (v := (12 : Int32)) hx hb dX11_title_4 (by decide) ?_
  refine xr_i hw (xr_runV (As := [.int (12 : Int32)]) (rest := []) X hw 9 (xc_X9_firstOfKind l D cy q σ 0 (12 : Int32) (by decide) hB _) xm_X9_firstOfKind xt_4_138 xt_4_139 xt_4_140 ⟨Nat.le_of_ble_eq_true rfl, Nat.le_of_ble_eq_true rfl⟩ (xl_A_Text_at (i := 0) (by decide)) rfl rfl rfl rfl hl.1 (Nat.le_of_ble_eq_true rfl) dX11_title_6 ⟨Nat.zero_le _, Nat.zero_le _⟩) (fun r2 σ1 H locs hB hw => ?_)
  refine lv_istore_n (lv' := [(3, .int r2), (0, .ref (q 0)), (1, .int a1), (2, .int a2)]) hx hb dX11_title_9 rfl hl (by decide) rfl (fun ls hl => ?_)
  refine lv_aload_n hx hb dX11_title_10 rfl (lv_at hl 1 rfl) ?_
  refine lv_iload_n hx hb dX11_title_11 rfl (lv_at hl 2 rfl) ?_
  refine xr_i hw (xr_runV (As := [.int a1]) (rest := []) X hw 0 (xc_X11_isDog l D cy q σ1 a1 hB _) xm_X11_isDog xt_3_135 xt_3_137 xt_p_15 ⟨Nat.le_of_ble_eq_true rfl, Nat.le_of_ble_eq_true rfl⟩ xl_A_ShowRings_at rfl rfl rfl rfl hl.1 (Nat.le_of_ble_eq_true rfl) dX11_title_12 ⟨Nat.zero_le _, Nat.zero_le _⟩) (fun r4 σ3 H locs hB hw => ?_)
  refine lv_if_eq (tgt := 36) hx hb dX11_title_15 (by decide) (fun hc => ?_) (fun hc => ?_)
  · replace hB := hB.1 hc
    refine lv_iconst (v := (-1 : Int32)) hx hb dX11_title_36 (by decide) ?_
    exact xr_iret X hw hr hk hB dX11_title_37
  · replace hB := hB.2 hc
    refine lv_aload_n hx hb dX11_title_18 rfl (lv_at hl 1 rfl) ?_
    refine lv_iload_n hx hb dX11_title_19 rfl (lv_at hl 3 rfl) ?_
    refine xr_i hw (xr_runV (As := [.int a2]) (rest := []) X hw 0 (xc_X11_isKnown l D cy q σ3 a2 hB _) xm_X11_isKnown xt_3_192 xt_3_194 xt_p_17 ⟨Nat.le_of_ble_eq_true rfl, Nat.le_of_ble_eq_true rfl⟩ xl_A_ShowRings_at rfl rfl rfl rfl hl.1 (Nat.le_of_ble_eq_true rfl) dX11_title_20 ⟨Nat.zero_le _, Nat.zero_le _⟩) (fun r6 σ5 H locs hB hw => ?_)
    refine lv_if_eq (tgt := 36) hx hb dX11_title_23 (by decide) (fun hc => ?_) (fun hc => ?_)
    · replace hB := hB.1 hc
      refine lv_iconst (v := (-1 : Int32)) hx hb dX11_title_36 (by decide) ?_
      exact xr_iret X hw hr hk hB dX11_title_37
    · replace hB := hB.2 hc
      refine lv_iload_n hx hb dX11_title_26 rfl (lv_at hl 0 rfl) ?_
      refine lv_iconst (v := (0 : Int32)) hx hb dX11_title_27 (by decide) ?_
      refine lv_bipush (v := (15 : Int32)) hx hb dX11_title_28 (by decide) ?_
      refine xr_i hw (xr_runS (As := [.int r2, .int (0 : Int32), .int (15 : Int32)]) (rest := []) X hw (xc_X11_isWithin l D cy q σ5 r2 (0 : Int32) (15 : Int32) hB _) xm_X11_isWithin xt_3_80 xt_3_81 ⟨Nat.le_of_ble_eq_true rfl, Nat.le_of_ble_eq_true rfl⟩ rfl rfl hl.1 (Nat.le_of_ble_eq_true rfl) dX11_title_30 ⟨Nat.zero_le _, Nat.zero_le _⟩) (fun r8 σ7 H locs hB hw => ?_)
      refine lv_if_ne (tgt := 38) hx hb dX11_title_33 (by decide) (fun hc => ?_) (fun hc => ?_)
      · replace hB := hB.1 hc
        refine lv_aload_n hx hb dX11_title_38 rfl (lv_at hl 1 rfl) ?_
        refine xr_getr X hw (xf_X11_40 X) 0 xl_A_ShowRings_at rfl dX11_title_39 ?_
        refine xr_getr X hw (xf_X11_181 X) 4 xl_A_Kennel_at rfl dX11_title_42 ?_
        refine lv_iload_n hx hb dX11_title_45 rfl (lv_at hl 2 rfl) ?_
        refine xr_iald X hw 34 xl_A_Kennel_breed_at hB.1 dX11_title_46 ?_
        replace hB := hB.2
        refine lv_istore (lv' := [(4, .int (σ7.1 34 (Int32.toNatClampNeg a1))), (3, .int r2), (0, .ref (q 0)), (1, .int a1), (2, .int a2)]) hx hb dX11_title_47 hl (by decide) rfl (fun ls hl => ?_)
        refine lv_iconst (v := (0 : Int32)) hx hb dX11_title_49 (by decide) ?_
        refine lv_istore (lv' := [(5, .int (0 : Int32)), (4, .int (σ7.1 34 (Int32.toNatClampNeg a1))), (3, .int r2), (0, .ref (q 0)), (1, .int a1), (2, .int a2)]) hx hb dX11_title_50 hl (by decide) rfl (fun ls hl => ?_)
        refine lv_iconst (v := (0 : Int32)) hx hb dX11_title_52 (by decide) ?_
        refine lv_istore (lv' := [(6, .int (0 : Int32)), (5, .int (0 : Int32)), (4, .int (σ7.1 34 (Int32.toNatClampNeg a1))), (3, .int r2), (0, .ref (q 0)), (1, .int a1), (2, .int a2)]) hx hb dX11_title_53 hl (by decide) rfl (fun ls hl => ?_)
        refine lv_iconst (v := (0 : Int32)) hx hb dX11_title_55 (by decide) ?_
        refine lv_istore (lv' := [(7, .int (0 : Int32)), (6, .int (0 : Int32)), (5, .int (0 : Int32)), (4, .int (σ7.1 34 (Int32.toNatClampNeg a1))), (3, .int r2), (0, .ref (q 0)), (1, .int a1), (2, .int a2)]) hx hb dX11_title_56 hl (by decide) rfl (fun ls hl => ?_)
        exact hB _ _ _ hw (lv_sub hl [5, 6, 7, 4, 3, 2, 1, 0] rfl)
      · replace hB := hB.2 hc
        refine lv_iconst (v := (-1 : Int32)) hx hb dX11_title_36 (by decide) ?_
        exact xr_iret X hw hr hk hB dX11_title_37
set_option maxRecDepth 100000 in
set_option maxHeartbeats 4000000 in
theorem xc_X11_owner (l : Launch) (D : va_G) (cy : Nat → ClassId) (q : Nat → Nat) (σ : xw_M) (a1 : Int32) (a2 : Int32) (a3 : Int32) {Z : Int32 → xw_M → Prop} (hU : xu_X11_owner σ a1 a2 a3 Z) : xr_CI l yX11_owner cX11_owner 4 .int { frames := 2, cells := 0, slots := 0, locals := 50 } D cy xl_A q σ [.ref (q 0), .int a1, .int a2, .int a3] Z := by
  refine xr_CI.of RX11 rfl (by decide) (Nat.le_of_ble_eq_true rfl) (fun p e s m below meth c X hw hr hk ls hl => ?_)
  have hx := X.1
  have hb := X.2.1
  have hl : lv_has ls 4 [(0, .ref (q 0)), (1, .int a1), (2, .int a2), (3, .int a3)] := hl
  unfold xu_X11_owner at hU
  have hB := hU
  refine lv_aload_n hx hb dX11_owner_0 rfl (lv_at hl 0 rfl) ?_
  refine lv_iload_n hx hb dX11_owner_1 rfl (lv_at hl 1 rfl) ?_
  refine xr_i hw (xr_runV (As := [.int a1]) (rest := []) X hw 0 (xc_X11_isDog l D cy q σ a1 hB _) xm_X11_isDog xt_3_135 xt_3_137 xt_p_15 ⟨Nat.le_of_ble_eq_true rfl, Nat.le_of_ble_eq_true rfl⟩ xl_A_ShowRings_at rfl rfl rfl rfl hl.1 (Nat.le_of_ble_eq_true rfl) dX11_owner_2 ⟨Nat.zero_le _, Nat.zero_le _⟩) (fun r2 σ1 H locs hB hw => ?_)
  refine lv_if_eq (tgt := 23) hx hb dX11_owner_5 (by decide) (fun hc => ?_) (fun hc => ?_)
  · replace hB := hB.1 hc
    refine lv_iconst (v := (-1 : Int32)) hx hb dX11_owner_23 (by decide) ?_
    exact xr_iret X hw hr hk hB dX11_owner_24
  · replace hB := hB.2 hc
    refine lv_iload_n hx hb dX11_owner_8 rfl (lv_at hl 2 rfl) ?_
    refine xr_i hw (xr_runS (As := [.int a2]) (rest := []) X hw (xc_X11_isDay l D cy q σ1 a2 hB _) xm_X11_isDay xt_3_108 xt_3_109 ⟨Nat.le_of_ble_eq_true rfl, Nat.le_of_ble_eq_true rfl⟩ rfl rfl hl.1 (Nat.le_of_ble_eq_true rfl) dX11_owner_9 ⟨Nat.zero_le _, Nat.zero_le _⟩) (fun r4 σ3 H locs hB hw => ?_)
    refine lv_if_eq (tgt := 23) hx hb dX11_owner_12 (by decide) (fun hc => ?_) (fun hc => ?_)
    · replace hB := hB.1 hc
      refine lv_iconst (v := (-1 : Int32)) hx hb dX11_owner_23 (by decide) ?_
      exact xr_iret X hw hr hk hB dX11_owner_24
    · replace hB := hB.2 hc
      refine lv_aload_n hx hb dX11_owner_15 rfl (lv_at hl 0 rfl) ?_
      refine lv_iload_n hx hb dX11_owner_16 rfl (lv_at hl 3 rfl) ?_
      refine xr_i hw (xr_runV (As := [.int a3]) (rest := []) X hw 0 (xc_X11_isKnown l D cy q σ3 a3 hB _) xm_X11_isKnown xt_3_192 xt_3_194 xt_p_17 ⟨Nat.le_of_ble_eq_true rfl, Nat.le_of_ble_eq_true rfl⟩ xl_A_ShowRings_at rfl rfl rfl rfl hl.1 (Nat.le_of_ble_eq_true rfl) dX11_owner_17 ⟨Nat.zero_le _, Nat.zero_le _⟩) (fun r6 σ5 H locs hB hw => ?_)
      refine lv_if_ne (tgt := 25) hx hb dX11_owner_20 (by decide) (fun hc => ?_) (fun hc => ?_)
      · replace hB := hB.1 hc
        refine lv_aload_n hx hb dX11_owner_25 rfl (lv_at hl 0 rfl) ?_
        refine xr_getr X hw (xf_X11_49 X) 0 xl_A_ShowRings_at rfl dX11_owner_26 ?_
        refine lv_iload_n hx hb dX11_owner_29 rfl (lv_at hl 1 rfl) ?_
        refine lv_iload_n hx hb dX11_owner_30 rfl (lv_at hl 2 rfl) ?_
        refine lv_iload_n hx hb dX11_owner_31 rfl (lv_at hl 3 rfl) ?_
        refine xr_i hw (xr_runV (As := [.int a1, .int a2, .int a3]) (rest := []) X hw 5 (xc_X1_ownerOn l D cy q σ5 a1 a2 a3 hB _) xm_X1_ownerOn xt_4_147 xt_3_224 xt_3_225 ⟨Nat.le_of_ble_eq_true rfl, Nat.le_of_ble_eq_true rfl⟩ xl_A_Facts_at rfl rfl rfl rfl hl.1 (Nat.le_of_ble_eq_true rfl) dX11_owner_32 ⟨Nat.zero_le _, Nat.zero_le _⟩) (fun r8 σ7 H locs hB hw => ?_)
        exact xr_iret X hw hr hk hB dX11_owner_35
      · replace hB := hB.2 hc
        refine lv_iconst (v := (-1 : Int32)) hx hb dX11_owner_23 (by decide) ?_
        exact xr_iret X hw hr hk hB dX11_owner_24
set_option maxRecDepth 100000 in
set_option maxHeartbeats 4000000 in
theorem xc_X11_parted (l : Launch) (D : va_G) (cy : Nat → ClassId) (q : Nat → Nat) (σ : xw_M) (a1 : Int32) (a2 : Int32) (a3 : Int32) (a4 : Int32) {Z : Int32 → xw_M → Prop} (hU : xu_X11_parted σ a1 a2 a3 a4 Z) : xr_CI l yX11_parted cX11_parted 5 .int { frames := 3, cells := 0, slots := 0, locals := 77 } D cy xl_A q σ [.ref (q 0), .int a1, .int a2, .int a3, .int a4] Z := by
  refine xr_CI.of RX11 rfl (by decide) (Nat.le_of_ble_eq_true rfl) (fun p e s m below meth c X hw hr hk ls hl => ?_)
  have hx := X.1
  have hb := X.2.1
  have hl : lv_has ls 5 [(0, .ref (q 0)), (1, .int a1), (2, .int a2), (3, .int a3), (4, .int a4)] := hl
  unfold xu_X11_parted at hU
  have hB := hU
  refine lv_iload_n hx hb dX11_parted_0 rfl (lv_at hl 1 rfl) ?_
  refine xr_i hw (xr_runS (As := [.int a1]) (rest := []) X hw (xc_X11_isPerson l D cy q σ a1 hB _) xm_X11_isPerson xt_3_77 xt_3_78 ⟨Nat.le_of_ble_eq_true rfl, Nat.le_of_ble_eq_true rfl⟩ rfl rfl hl.1 (Nat.le_of_ble_eq_true rfl) dX11_parted_1 ⟨Nat.zero_le _, Nat.zero_le _⟩) (fun r2 σ1 H locs hB hw => ?_)
  refine lv_if_eq (tgt := 31) hx hb dX11_parted_4 (by decide) (fun hc => ?_) (fun hc => ?_)
  · replace hB := hB.1 hc
    refine lv_bipush (v := (-2 : Int32)) hx hb dX11_parted_31 (by decide) ?_
    exact xr_iret X hw hr hk hB dX11_parted_33
  · replace hB := hB.2 hc
    refine lv_aload_n hx hb dX11_parted_7 rfl (lv_at hl 0 rfl) ?_
    refine lv_iload_n hx hb dX11_parted_8 rfl (lv_at hl 2 rfl) ?_
    refine xr_i hw (xr_runV (As := [.int a2]) (rest := []) X hw 0 (xc_X11_isDog l D cy q σ1 a2 hB _) xm_X11_isDog xt_3_135 xt_3_137 xt_p_15 ⟨Nat.le_of_ble_eq_true rfl, Nat.le_of_ble_eq_true rfl⟩ xl_A_ShowRings_at rfl rfl rfl rfl hl.1 (Nat.le_of_ble_eq_true rfl) dX11_parted_9 ⟨Nat.zero_le _, Nat.zero_le _⟩) (fun r4 σ3 H locs hB hw => ?_)
    refine lv_if_eq (tgt := 31) hx hb dX11_parted_12 (by decide) (fun hc => ?_) (fun hc => ?_)
    · replace hB := hB.1 hc
      refine lv_bipush (v := (-2 : Int32)) hx hb dX11_parted_31 (by decide) ?_
      exact xr_iret X hw hr hk hB dX11_parted_33
    · replace hB := hB.2 hc
      refine lv_iload_n hx hb dX11_parted_15 rfl (lv_at hl 3 rfl) ?_
      refine xr_i hw (xr_runS (As := [.int a3]) (rest := []) X hw (xc_X11_isDay l D cy q σ3 a3 hB _) xm_X11_isDay xt_3_108 xt_3_109 ⟨Nat.le_of_ble_eq_true rfl, Nat.le_of_ble_eq_true rfl⟩ rfl rfl hl.1 (Nat.le_of_ble_eq_true rfl) dX11_parted_16 ⟨Nat.zero_le _, Nat.zero_le _⟩) (fun r6 σ5 H locs hB hw => ?_)
      refine lv_if_eq (tgt := 31) hx hb dX11_parted_19 (by decide) (fun hc => ?_) (fun hc => ?_)
      · replace hB := hB.1 hc
        refine lv_bipush (v := (-2 : Int32)) hx hb dX11_parted_31 (by decide) ?_
        exact xr_iret X hw hr hk hB dX11_parted_33
      · replace hB := hB.2 hc
        refine lv_aload_n hx hb dX11_parted_22 rfl (lv_at hl 0 rfl) ?_
        refine lv_iload hx hb dX11_parted_23 (lv_at hl 4 rfl) ?_
        refine xr_i hw (xr_runV (As := [.int a4]) (rest := []) X hw 0 (xc_X11_isKnown l D cy q σ5 a4 hB _) xm_X11_isKnown xt_3_192 xt_3_194 xt_p_17 ⟨Nat.le_of_ble_eq_true rfl, Nat.le_of_ble_eq_true rfl⟩ xl_A_ShowRings_at rfl rfl rfl rfl hl.1 (Nat.le_of_ble_eq_true rfl) dX11_parted_25 ⟨Nat.zero_le _, Nat.zero_le _⟩) (fun r8 σ7 H locs hB hw => ?_)
        refine lv_if_ne (tgt := 34) hx hb dX11_parted_28 (by decide) (fun hc => ?_) (fun hc => ?_)
        · replace hB := hB.1 hc
          refine lv_aload_n hx hb dX11_parted_34 rfl (lv_at hl 0 rfl) ?_
          refine xr_getr X hw (xf_X11_49 X) 0 xl_A_ShowRings_at rfl dX11_parted_35 ?_
          refine lv_iload_n hx hb dX11_parted_38 rfl (lv_at hl 1 rfl) ?_
          refine lv_iload_n hx hb dX11_parted_39 rfl (lv_at hl 2 rfl) ?_
          refine lv_iload_n hx hb dX11_parted_40 rfl (lv_at hl 3 rfl) ?_
          refine lv_iload hx hb dX11_parted_41 (lv_at hl 4 rfl) ?_
          refine xr_i hw (xr_runV (As := [.int a1, .int a2, .int a3, .int a4]) (rest := []) X hw 5 (xc_X1_daysSinceOwned l D cy q σ7 a1 a2 a3 a4 hB _) xm_X1_daysSinceOwned xt_4_152 xt_3_237 xt_3_238 ⟨Nat.le_of_ble_eq_true rfl, Nat.le_of_ble_eq_true rfl⟩ xl_A_Facts_at rfl rfl rfl rfl hl.1 (Nat.le_of_ble_eq_true rfl) dX11_parted_43 ⟨Nat.zero_le _, Nat.zero_le _⟩) (fun r10 σ9 H locs hB hw => ?_)
          exact xr_iret X hw hr hk hB dX11_parted_46
        · replace hB := hB.2 hc
          refine lv_bipush (v := (-2 : Int32)) hx hb dX11_parted_31 (by decide) ?_
          exact xr_iret X hw hr hk hB dX11_parted_33
set_option maxRecDepth 100000 in
set_option maxHeartbeats 4000000 in
theorem xc_X11_changed (l : Launch) (D : va_G) (cy : Nat → ClassId) (q : Nat → Nat) (σ : xw_M) (a1 : Int32) (a2 : Int32) (a3 : Int32) {Z : Int32 → xw_M → Prop} (hU : xu_X11_changed σ a1 a2 a3 Z) : xr_CI l yX11_changed cX11_changed 5 .int { frames := 6, cells := 0, slots := 0, locals := 157 } D cy xl_A q σ [.ref (q 0), .int a1, .int a2, .int a3] Z := by
  refine xr_CI.of RX11 rfl (by decide) (Nat.le_of_ble_eq_true rfl) (fun p e s m below meth c X hw hr hk ls hl => ?_)
  have hx := X.1
  have hb := X.2.1
  have hl : lv_has ls 5 [(0, .ref (q 0)), (1, .int a1), (2, .int a2), (3, .int a3)] := hl
  have hB := hU (fun (σ : xw_M) (v4 : Int32) => ∀ (H : Heap) (locs : List Loc) (ls : Array Slot), xr_H D cy xl_A q s σ H locs → lv_has ls 5 [(0, .ref (q 0)), (1, .int a1), (2, .int a2), (3, .int a3), (4, .int v4)] → W p l e ({ frames := 6, cells := 0, slots := 0, locals := 157 } : Room) s m ([.ref (q 0), .int a1, .int a2, .int a3] : List Value).toArray below meth c H locs 0 0 (MQ below (va_Qi Z (xr_po D cy xl_A q) (xw_A xl_A q s.heap.size)) ([.ref (q 0), .int a1, .int a2, .int a3] : List Value).toArray s 0 0 (xw_A xl_A q s.heap.size)) (F0 m 29 ls []))
    (by
    intro σ v4 hB H locs ls hw hl
    unfold xb_X11_changed_29 at hB
    refine lv_iload hx hb dX11_changed_29 (lv_at hl 4 rfl) ?_
    refine lv_aload_n hx hb dX11_changed_31 rfl (lv_at hl 0 rfl) ?_
    refine xr_getr X hw (xf_X11_40 X) 0 xl_A_ShowRings_at rfl dX11_changed_32 ?_
    refine xr_geti X hw (xf_X11_137 X) 4 xl_A_Kennel_at rfl dX11_changed_35 ?_
    refine lv_icmp_ge (tgt := 85) hx hb dX11_changed_38 (by decide) (fun hc => ?_) (fun hc => ?_)
    · replace hB := hB.1 hc
      refine lv_iconst (v := (-1 : Int32)) hx hb dX11_changed_85 (by decide) ?_
      exact xr_iret X hw hr hk hB dX11_changed_86
    · replace hB := hB.2 hc
      refine lv_aload_n hx hb dX11_changed_41 rfl (lv_at hl 0 rfl) ?_
      refine xr_getr X hw (xf_X11_76 X) 0 xl_A_ShowRings_at rfl dX11_changed_42 ?_
      refine lv_aload_n hx hb dX11_changed_45 rfl (lv_at hl 0 rfl) ?_
      refine xr_getr X hw (xf_X11_82 X) 0 xl_A_ShowRings_at rfl dX11_changed_46 ?_
      refine lv_iload_n hx hb dX11_changed_49 rfl (lv_at hl 1 rfl) ?_
      have hi7 := hB.1
      refine xr_aald X hw 23 xl_A_ShowRings_shows_at hi7 dX11_changed_50 ?_
      replace hB := hB.2
      refine lv_iload hx hb dX11_changed_51 (lv_at hl 4 rfl) ?_
      refine lv_iload_n hx hb dX11_changed_53 rfl (lv_at hl 2 rfl) ?_
      refine xr_i hw (xr_runV (As := [.ref (q (11 + (Int32.toNatClampNeg a1))), .int v4, .int a2]) (rest := []) X hw 8 (xc_X5_winnerOf l D cy q σ (Int32.toNatClampNeg a1) v4 a2 (xr_lt hi7) hB _) xm_X5_winnerOf xt_4_108 xt_4_109 xt_4_110 ⟨Nat.le_of_ble_eq_true rfl, Nat.le_of_ble_eq_true rfl⟩ xl_A_Results_at rfl rfl rfl rfl hl.1 (Nat.le_of_ble_eq_true rfl) dX11_changed_54 ⟨Nat.zero_le _, Nat.zero_le _⟩) (fun r9 σ8 H locs hB hw => ?_)
      refine lv_aload_n hx hb dX11_changed_57 rfl (lv_at hl 0 rfl) ?_
      refine xr_getr X hw (xf_X11_76 X) 0 xl_A_ShowRings_at rfl dX11_changed_58 ?_
      refine lv_aload_n hx hb dX11_changed_61 rfl (lv_at hl 0 rfl) ?_
      refine xr_getr X hw (xf_X11_82 X) 0 xl_A_ShowRings_at rfl dX11_changed_62 ?_
      refine lv_iload_n hx hb dX11_changed_65 rfl (lv_at hl 1 rfl) ?_
      have hi10 := hB.1
      refine xr_aald X hw 23 xl_A_ShowRings_shows_at hi10 dX11_changed_66 ?_
      replace hB := hB.2
      refine lv_iload hx hb dX11_changed_67 (lv_at hl 4 rfl) ?_
      refine lv_iload_n hx hb dX11_changed_69 rfl (lv_at hl 3 rfl) ?_
      refine xr_i hw (xr_runV (As := [.ref (q (11 + (Int32.toNatClampNeg a1))), .int v4, .int a3]) (rest := [.int r9]) X hw 8 (xc_X5_winnerOf l D cy q σ8 (Int32.toNatClampNeg a1) v4 a3 (xr_lt hi10) hB _) xm_X5_winnerOf xt_4_108 xt_4_109 xt_4_110 ⟨Nat.le_of_ble_eq_true rfl, Nat.le_of_ble_eq_true rfl⟩ xl_A_Results_at rfl rfl rfl rfl hl.1 (Nat.le_of_ble_eq_true rfl) dX11_changed_70 ⟨Nat.zero_le _, Nat.zero_le _⟩) (fun r12 σ11 H locs hB hw => ?_)
      refine lv_icmp_eq (tgt := 79) hx hb dX11_changed_73 (by decide) (fun hc => ?_) (fun hc => ?_)
      · replace hB := hB.1 hc
        refine lv_iinc (v := (v4 + (1 : Int32))) (lv' := [(4, .int (v4 + (1 : Int32))), (0, .ref (q 0)), (1, .int a1), (2, .int a2), (3, .int a3)]) hx hb dX11_changed_79 hl (k := 4) rfl rfl (by decide) rfl (fun ls hl => ?_)
        refine lv_goto (tgt := 29) hx hb dX11_changed_82 (by decide) ?_
        exact hB _ _ _ hw (lv_sub hl [1, 2, 3, 4, 0] rfl)
      · replace hB := hB.2 hc
        refine lv_iload hx hb dX11_changed_76 (lv_at hl 4 rfl) ?_
        exact xr_iret X hw hr hk hB dX11_changed_78)
  unfold xb_X11_changed_e at hB
  refine lv_aload_n hx hb dX11_changed_0 rfl (lv_at hl 0 rfl) ?_
  refine lv_iload_n hx hb dX11_changed_1 rfl (lv_at hl 1 rfl) ?_
  refine xr_i hw (xr_runV (As := [.int a1]) (rest := []) X hw 0 (xc_X11_isShow l D cy q σ a1 hB _) xm_X11_isShow xt_3_131 xt_3_133 xt_p_14 ⟨Nat.le_of_ble_eq_true rfl, Nat.le_of_ble_eq_true rfl⟩ xl_A_ShowRings_at rfl rfl rfl rfl hl.1 (Nat.le_of_ble_eq_true rfl) dX11_changed_2 ⟨Nat.zero_le _, Nat.zero_le _⟩) (fun r2 σ1 H locs hB hw => ?_)
  refine lv_if_eq (tgt := 24) hx hb dX11_changed_5 (by decide) (fun hc => ?_) (fun hc => ?_)
  · replace hB := hB.1 hc
    refine lv_iconst (v := (-1 : Int32)) hx hb dX11_changed_24 (by decide) ?_
    exact xr_iret X hw hr hk hB dX11_changed_25
  · replace hB := hB.2 hc
    refine lv_aload_n hx hb dX11_changed_8 rfl (lv_at hl 0 rfl) ?_
    refine lv_iload_n hx hb dX11_changed_9 rfl (lv_at hl 2 rfl) ?_
    refine xr_i hw (xr_runV (As := [.int a2]) (rest := []) X hw 0 (xc_X11_isKnown l D cy q σ1 a2 hB _) xm_X11_isKnown xt_3_192 xt_3_194 xt_p_17 ⟨Nat.le_of_ble_eq_true rfl, Nat.le_of_ble_eq_true rfl⟩ xl_A_ShowRings_at rfl rfl rfl rfl hl.1 (Nat.le_of_ble_eq_true rfl) dX11_changed_10 ⟨Nat.zero_le _, Nat.zero_le _⟩) (fun r4 σ3 H locs hB hw => ?_)
    refine lv_if_eq (tgt := 24) hx hb dX11_changed_13 (by decide) (fun hc => ?_) (fun hc => ?_)
    · replace hB := hB.1 hc
      refine lv_iconst (v := (-1 : Int32)) hx hb dX11_changed_24 (by decide) ?_
      exact xr_iret X hw hr hk hB dX11_changed_25
    · replace hB := hB.2 hc
      refine lv_aload_n hx hb dX11_changed_16 rfl (lv_at hl 0 rfl) ?_
      refine lv_iload_n hx hb dX11_changed_17 rfl (lv_at hl 3 rfl) ?_
      refine xr_i hw (xr_runV (As := [.int a3]) (rest := []) X hw 0 (xc_X11_isKnown l D cy q σ3 a3 hB _) xm_X11_isKnown xt_3_192 xt_3_194 xt_p_17 ⟨Nat.le_of_ble_eq_true rfl, Nat.le_of_ble_eq_true rfl⟩ xl_A_ShowRings_at rfl rfl rfl rfl hl.1 (Nat.le_of_ble_eq_true rfl) dX11_changed_18 ⟨Nat.zero_le _, Nat.zero_le _⟩) (fun r6 σ5 H locs hB hw => ?_)
      refine lv_if_ne (tgt := 26) hx hb dX11_changed_21 (by decide) (fun hc => ?_) (fun hc => ?_)
      · replace hB := hB.1 hc
        refine lv_iconst (v := (0 : Int32)) hx hb dX11_changed_26 (by decide) ?_
        refine lv_istore (lv' := [(4, .int (0 : Int32)), (0, .ref (q 0)), (1, .int a1), (2, .int a2), (3, .int a3)]) hx hb dX11_changed_27 hl (by decide) rfl (fun ls hl => ?_)
        exact hB _ _ _ hw (lv_sub hl [1, 2, 3, 4, 0] rfl)
      · replace hB := hB.2 hc
        refine lv_iconst (v := (-1 : Int32)) hx hb dX11_changed_24 (by decide) ?_
        exact xr_iret X hw hr hk hB dX11_changed_25
