theorem xf_X11_263 {p : Program} {s : State} {m : MethodId} {args : Array Value} {c : Code} {cc : ByteArray} {nL : Nat} {D : va_G} {cy : Nat → ClassId} {lay : List xw_E} {q : Nat → Nat} (X : xr_X p s m args c cc nL RX11 D cy lay q) : xr_F args s RX11 263 7 3 := ⟨RX7, TX7, 4, tyX7, rfl, by decide, fun w h => X.2.2.2.2.1 w (xt_inX7 w h), tyX7_ok, nmX7, Or.inr (va_Nw.use rfl (X.2.2.2.2.2.1.1 _ (List.mem_of_getElem? (i := 41) rfl)))⟩
theorem xm_X2_ofBreed : xr_MW yX2_ofBreed cX2_ofBreed 5 (some .int) 2 := ⟨xt_3_203, xt_1_6, by decide, by decide, by decide +kernel⟩
theorem xm_X2_handlersOf : xr_MW yX2_handlersOf cX2_handlersOf 4 (some .int) 1 := ⟨xt_3_213, xt_1_6, by decide, by decide, by decide +kernel⟩
set_option maxRecDepth 100000 in
set_option maxHeartbeats 4000000 in
theorem xc_X11_handlersInTwoRings (l : Launch) (D : va_G) (cy : Nat → ClassId) (q : Nat → Nat) (σ : xw_M) (o1 : Nat) (a2 : Int32) (a3 : Int32) (h1 : o1 < 5) {Z : Int32 → xw_M → Prop} (hU : xu_X11_handlersInTwoRings σ o1 a2 a3 Z) : xr_CI l yX11_handlersInTwoRings cX11_handlersInTwoRings 9 .int { frames := 3, cells := 0, slots := 0, locals := 65 } D cy xl_A q σ [.ref (q 0), .ref (q (11 + o1)), .int a2, .int a3] Z := by
  refine xr_CI.of RX11 rfl (by decide) (Nat.le_of_ble_eq_true rfl) (fun p e s m below meth c X hw hr hk ls hl => ?_)
  have hx := X.1
  have hb := X.2.1
  have hl : lv_has ls 9 [(0, .ref (q 0)), (1, .ref (q (11 + o1))), (2, .int a2), (3, .int a3)] := hl
  have hB := hU (fun (σ : xw_M) (v5 : Int32) (v6 : Int32) (v7 : Int32) (v8 : Int32) => ∀ (H : Heap) (locs : List Loc) (ls : Array Slot), xr_H D cy xl_A q s σ H locs → lv_has ls 9 [(0, .ref (q 0)), (1, .ref (q (11 + o1))), (2, .int a2), (3, .int a3), (4, .ref (q (16 + o1))), (5, .int v5), (6, .int v6), (7, .int v7), (8, .int v8)] → W p l e ({ frames := 3, cells := 0, slots := 0, locals := 65 } : Room) s m ([.ref (q 0), .ref (q (11 + o1)), .int a2, .int a3] : List Value).toArray below meth c H locs 0 0 (MQ below (va_Qi Z (xr_po D cy xl_A q) (xw_A xl_A q s.heap.size)) ([.ref (q 0), .ref (q (11 + o1)), .int a2, .int a3] : List Value).toArray s 0 0 (xw_A xl_A q s.heap.size)) (F0 m 63 ls []))
    (by
    intro σ v5 v6 v7 v8 hB H locs ls hw hl
    unfold xb_X11_handlersInTwoRings_63 at hB
    refine lv_iload hx hb dX11_handlersInTwoRings_63 (lv_at hl 8 rfl) ?_
    refine lv_aload_n hx hb dX11_handlersInTwoRings_65 rfl (lv_at hl 0 rfl) ?_
    refine xr_getr X hw (xf_X11_40 X) 0 xl_A_ShowRings_at rfl dX11_handlersInTwoRings_66 ?_
    refine xr_geti X hw (xf_X11_137 X) 4 xl_A_Kennel_at rfl dX11_handlersInTwoRings_69 ?_
    refine lv_icmp_ge (tgt := 125) hx hb dX11_handlersInTwoRings_72 (by decide) (fun hc => ?_) (fun hc => ?_)
    · replace hB := hB.1 hc
      refine lv_iload hx hb dX11_handlersInTwoRings_125 (lv_at hl 6 rfl) ?_
      refine lv_iload hx hb dX11_handlersInTwoRings_127 (lv_at hl 7 rfl) ?_
      refine lv_iand hx hb dX11_handlersInTwoRings_129 ?_
      exact xr_iret X hw hr hk hB dX11_handlersInTwoRings_130
    · replace hB := hB.2 hc
      refine lv_iload hx hb dX11_handlersInTwoRings_75 (lv_at hl 8 rfl) ?_
      refine lv_iload_n hx hb dX11_handlersInTwoRings_77 rfl (lv_at hl 2 rfl) ?_
      refine lv_icmp_eq (tgt := 119) hx hb dX11_handlersInTwoRings_78 (by decide) (fun hc => ?_) (fun hc => ?_)
      · replace hB := hB.1 hc
        refine lv_iinc (v := (v8 + (1 : Int32))) (lv' := [(8, .int (v8 + (1 : Int32))), (0, .ref (q 0)), (1, .ref (q (11 + o1))), (2, .int a2), (3, .int a3), (4, .ref (q (16 + o1))), (5, .int v5), (6, .int v6), (7, .int v7)]) hx hb dX11_handlersInTwoRings_119 hl (k := 8) rfl rfl (by decide) rfl (fun ls hl => ?_)
        refine lv_goto (tgt := 63) hx hb dX11_handlersInTwoRings_122 (by decide) ?_
        exact hB _ _ _ hw (lv_sub hl [1, 2, 3, 4, 5, 6, 7, 8, 0] rfl)
      · replace hB := hB.2 hc
        refine lv_aload hx hb dX11_handlersInTwoRings_81 (lv_at hl 4 rfl) ?_
        refine lv_iload hx hb dX11_handlersInTwoRings_83 (lv_at hl 8 rfl) ?_
        refine lv_iload_n hx hb dX11_handlersInTwoRings_85 rfl (lv_at hl 3 rfl) ?_
        refine lv_iload hx hb dX11_handlersInTwoRings_86 (lv_at hl 5 rfl) ?_
        refine xr_i hw (xr_runV (As := [.int v8, .int a3, .int v5]) (rest := []) X hw (16 + o1) (xc_X10_overlaps l D cy q σ o1 v8 a3 v5 (Nat.lt_of_lt_of_le h1 (by decide)) hB _) xm_X10_overlaps xt_4_64 xt_4_26 xt_4_27 ⟨Nat.le_of_ble_eq_true rfl, Nat.le_of_ble_eq_true rfl⟩ (xl_A_Timetable_at (i := o1) (Nat.lt_of_lt_of_le h1 (by decide))) rfl rfl rfl rfl hl.1 (Nat.le_of_ble_eq_true rfl) dX11_handlersInTwoRings_88 ⟨Nat.zero_le _, Nat.zero_le _⟩) (fun r12 σ11 H locs hB hw => ?_)
        refine lv_if_eq (tgt := 119) hx hb dX11_handlersInTwoRings_91 (by decide) (fun hc => ?_) (fun hc => ?_)
        · replace hB := hB.1 hc
          refine lv_iinc (v := (v8 + (1 : Int32))) (lv' := [(8, .int (v8 + (1 : Int32))), (0, .ref (q 0)), (1, .ref (q (11 + o1))), (2, .int a2), (3, .int a3), (4, .ref (q (16 + o1))), (5, .int v5), (6, .int v6), (7, .int v7)]) hx hb dX11_handlersInTwoRings_119 hl (k := 8) rfl rfl (by decide) rfl (fun ls hl => ?_)
          refine lv_goto (tgt := 63) hx hb dX11_handlersInTwoRings_122 (by decide) ?_
          exact hB _ _ _ hw (lv_sub hl [1, 2, 3, 4, 5, 6, 7, 8, 0] rfl)
        · replace hB := hB.2 hc
          refine lv_iload hx hb dX11_handlersInTwoRings_94 (lv_at hl 7 rfl) ?_
          refine lv_aload_n hx hb dX11_handlersInTwoRings_96 rfl (lv_at hl 0 rfl) ?_
          refine xr_getr X hw (xf_X11_40 X) 0 xl_A_ShowRings_at rfl dX11_handlersInTwoRings_97 ?_
          refine lv_aload_n hx hb dX11_handlersInTwoRings_100 rfl (lv_at hl 0 rfl) ?_
          refine xr_getr X hw (xf_X11_40 X) 0 xl_A_ShowRings_at rfl dX11_handlersInTwoRings_101 ?_
          refine lv_aload_n hx hb dX11_handlersInTwoRings_104 rfl (lv_at hl 1 rfl) ?_
          refine xr_geti X hw (xf_X11_263 X) (11 + o1) (xl_A_Show_at (i := o1) h1) rfl dX11_handlersInTwoRings_105 ?_
          refine lv_iload hx hb dX11_handlersInTwoRings_108 (lv_at hl 8 rfl) ?_
          refine xr_i hw (xr_runV (As := [.int (σ11.1 (11 + o1) 3), .int v8]) (rest := [.ref (q 4), .int v7]) X hw 4 (xc_X2_ofBreed l D cy q σ11 (σ11.1 (11 + o1) 3) v8 hB _) xm_X2_ofBreed xt_4_62 xt_3_201 xt_3_202 ⟨Nat.le_of_ble_eq_true rfl, Nat.le_of_ble_eq_true rfl⟩ xl_A_Kennel_at rfl rfl rfl rfl hl.1 (Nat.le_of_ble_eq_true rfl) dX11_handlersInTwoRings_110 ⟨Nat.zero_le _, Nat.zero_le _⟩) (fun r14 σ13 H locs hB hw => ?_)
          refine xr_i hw (xr_runV (As := [.int r14]) (rest := [.int v7]) X hw 4 (xc_X2_handlersOf l D cy q σ13 r14 hB _) xm_X2_handlersOf xt_4_63 xt_3_211 xt_3_212 ⟨Nat.le_of_ble_eq_true rfl, Nat.le_of_ble_eq_true rfl⟩ xl_A_Kennel_at rfl rfl rfl rfl hl.1 (Nat.le_of_ble_eq_true rfl) dX11_handlersInTwoRings_113 ⟨Nat.zero_le _, Nat.zero_le _⟩) (fun r16 σ15 H locs hB hw => ?_)
          refine lv_ior hx hb dX11_handlersInTwoRings_116 ?_
          refine lv_istore (lv' := [(7, .int (v7 ||| r16)), (0, .ref (q 0)), (1, .ref (q (11 + o1))), (2, .int a2), (3, .int a3), (4, .ref (q (16 + o1))), (5, .int v5), (6, .int v6), (8, .int v8)]) hx hb dX11_handlersInTwoRings_117 hl (by decide) rfl (fun ls hl => ?_)
          refine lv_iinc (v := (v8 + (1 : Int32))) (lv' := [(8, .int (v8 + (1 : Int32))), (7, .int (v7 ||| r16)), (0, .ref (q 0)), (1, .ref (q (11 + o1))), (2, .int a2), (3, .int a3), (4, .ref (q (16 + o1))), (5, .int v5), (6, .int v6)]) hx hb dX11_handlersInTwoRings_119 hl (k := 8) rfl rfl (by decide) rfl (fun ls hl => ?_)
          refine lv_goto (tgt := 63) hx hb dX11_handlersInTwoRings_122 (by decide) ?_
          exact hB _ _ _ hw (lv_sub hl [2, 3, 4, 5, 6, 7, 8, 1, 0] rfl))
  unfold xb_X11_handlersInTwoRings_e at hB
  refine lv_aload_n hx hb dX11_handlersInTwoRings_0 rfl (lv_at hl 1 rfl) ?_
  refine xr_getr X hw (xf_X11_177 X) (11 + o1) (xl_A_Show_at (i := o1) h1) rfl dX11_handlersInTwoRings_1 ?_
  refine lv_astore (lv' := [(4, .ref (q (16 + o1))), (0, .ref (q 0)), (1, .ref (q (11 + o1))), (2, .int a2), (3, .int a3)]) hx hb dX11_handlersInTwoRings_4 hl (by decide) rfl (fun ls hl => ?_)
  refine lv_aload hx hb dX11_handlersInTwoRings_6 (lv_at hl 0 rfl) ?_
  refine lv_iload_n hx hb dX11_handlersInTwoRings_8 rfl (lv_at hl 3 rfl) ?_
  refine xr_i hw (xr_runV (As := [.int a2]) (rest := []) X hw (16 + o1) (xc_X10_has l D cy q σ o1 a2 (Nat.lt_of_lt_of_le h1 (by decide)) hB _) xm_X10_has xt_3_160 xt_3_161 xt_3_162 ⟨Nat.le_of_ble_eq_true rfl, Nat.le_of_ble_eq_true rfl⟩ (xl_A_Timetable_at (i := o1) (Nat.lt_of_lt_of_le h1 (by decide))) rfl rfl rfl rfl hl.1 (Nat.le_of_ble_eq_true rfl) dX11_handlersInTwoRings_9 ⟨Nat.zero_le _, Nat.zero_le _⟩) (fun r2 σ1 H locs hB hw => ?_)
  refine lv_if_ne (tgt := 17) hx hb dX11_handlersInTwoRings_12 (by decide) (fun hc => ?_) (fun hc => ?_)
  · replace hB := hB.1 hc
    refine lv_iload_n hx hb dX11_handlersInTwoRings_17 rfl (lv_at hl 4 rfl) ?_
    refine lv_aload hx hb dX11_handlersInTwoRings_18 (lv_at hl 0 rfl) ?_
    refine lv_iload_n hx hb dX11_handlersInTwoRings_20 rfl (lv_at hl 3 rfl) ?_
    refine lv_iconst (v := (3 : Int32)) hx hb dX11_handlersInTwoRings_21 (by decide) ?_
    refine xr_i hw (xr_runV (As := [.int a2, .int (3 : Int32)]) (rest := [.int a3]) X hw (16 + o1) (xc_X10_at l D cy q σ1 o1 a2 (3 : Int32) (Nat.lt_of_lt_of_le h1 (by decide)) hB _) xm_X10_at xt_4_48 xt_3_165 xt_3_166 ⟨Nat.le_of_ble_eq_true rfl, Nat.le_of_ble_eq_true rfl⟩ (xl_A_Timetable_at (i := o1) (Nat.lt_of_lt_of_le h1 (by decide))) rfl rfl rfl rfl hl.1 (Nat.le_of_ble_eq_true rfl) dX11_handlersInTwoRings_22 ⟨Nat.zero_le _, Nat.zero_le _⟩) (fun r4 σ3 H locs hB hw => ?_)
    refine lv_iadd hx hb dX11_handlersInTwoRings_25 ?_
    refine lv_aload hx hb dX11_handlersInTwoRings_26 (lv_at hl 0 rfl) ?_
    refine lv_iload_n hx hb dX11_handlersInTwoRings_28 rfl (lv_at hl 3 rfl) ?_
    refine lv_iconst (v := (2 : Int32)) hx hb dX11_handlersInTwoRings_29 (by decide) ?_
    refine xr_i hw (xr_runV (As := [.int a2, .int (2 : Int32)]) (rest := [.int (a3 + r4)]) X hw (16 + o1) (xc_X10_at l D cy q σ3 o1 a2 (2 : Int32) (Nat.lt_of_lt_of_le h1 (by decide)) hB _) xm_X10_at xt_4_48 xt_3_165 xt_3_166 ⟨Nat.le_of_ble_eq_true rfl, Nat.le_of_ble_eq_true rfl⟩ (xl_A_Timetable_at (i := o1) (Nat.lt_of_lt_of_le h1 (by decide))) rfl rfl rfl rfl hl.1 (Nat.le_of_ble_eq_true rfl) dX11_handlersInTwoRings_30 ⟨Nat.zero_le _, Nat.zero_le _⟩) (fun r6 σ5 H locs hB hw => ?_)
    refine lv_isub hx hb dX11_handlersInTwoRings_33 ?_
    refine lv_istore (lv' := [(5, .int ((a3 + r4) - r6)), (4, .ref (q (16 + o1))), (0, .ref (q 0)), (1, .ref (q (11 + o1))), (2, .int a2), (3, .int a3)]) hx hb dX11_handlersInTwoRings_34 hl (by decide) rfl (fun ls hl => ?_)
    refine lv_aload_n hx hb dX11_handlersInTwoRings_36 rfl (lv_at hl 2 rfl) ?_
    refine xr_getr X hw (xf_X11_40 X) 0 xl_A_ShowRings_at rfl dX11_handlersInTwoRings_37 ?_
    refine lv_aload_n hx hb dX11_handlersInTwoRings_40 rfl (lv_at hl 2 rfl) ?_
    refine xr_getr X hw (xf_X11_40 X) 0 xl_A_ShowRings_at rfl dX11_handlersInTwoRings_41 ?_
    refine lv_aload_n hx hb dX11_handlersInTwoRings_44 rfl (lv_at hl 3 rfl) ?_
    refine xr_geti X hw (xf_X11_263 X) (11 + o1) (xl_A_Show_at (i := o1) h1) rfl dX11_handlersInTwoRings_45 ?_
    refine lv_iload_n hx hb dX11_handlersInTwoRings_48 rfl (lv_at hl 4 rfl) ?_
    refine xr_i hw (xr_runV (As := [.int (σ5.1 (11 + o1) 3), .int a2]) (rest := [.ref (q 4)]) X hw 4 (xc_X2_ofBreed l D cy q σ5 (σ5.1 (11 + o1) 3) a2 hB _) xm_X2_ofBreed xt_4_62 xt_3_201 xt_3_202 ⟨Nat.le_of_ble_eq_true rfl, Nat.le_of_ble_eq_true rfl⟩ xl_A_Kennel_at rfl rfl rfl rfl hl.1 (Nat.le_of_ble_eq_true rfl) dX11_handlersInTwoRings_49 ⟨Nat.zero_le _, Nat.zero_le _⟩) (fun r8 σ7 H locs hB hw => ?_)
    refine xr_i hw (xr_runV (As := [.int r8]) (rest := []) X hw 4 (xc_X2_handlersOf l D cy q σ7 r8 hB _) xm_X2_handlersOf xt_4_63 xt_3_211 xt_3_212 ⟨Nat.le_of_ble_eq_true rfl, Nat.le_of_ble_eq_true rfl⟩ xl_A_Kennel_at rfl rfl rfl rfl hl.1 (Nat.le_of_ble_eq_true rfl) dX11_handlersInTwoRings_52 ⟨Nat.zero_le _, Nat.zero_le _⟩) (fun r10 σ9 H locs hB hw => ?_)
    refine lv_istore (lv' := [(6, .int r10), (5, .int ((a3 + r4) - r6)), (4, .ref (q (16 + o1))), (0, .ref (q 0)), (1, .ref (q (11 + o1))), (2, .int a2), (3, .int a3)]) hx hb dX11_handlersInTwoRings_55 hl (by decide) rfl (fun ls hl => ?_)
    refine lv_iconst (v := (0 : Int32)) hx hb dX11_handlersInTwoRings_57 (by decide) ?_
    refine lv_istore (lv' := [(7, .int (0 : Int32)), (6, .int r10), (5, .int ((a3 + r4) - r6)), (4, .ref (q (16 + o1))), (0, .ref (q 0)), (1, .ref (q (11 + o1))), (2, .int a2), (3, .int a3)]) hx hb dX11_handlersInTwoRings_58 hl (by decide) rfl (fun ls hl => ?_)
    refine lv_iconst (v := (0 : Int32)) hx hb dX11_handlersInTwoRings_60 (by decide) ?_
    refine lv_istore (lv' := [(8, .int (0 : Int32)), (7, .int (0 : Int32)), (6, .int r10), (5, .int ((a3 + r4) - r6)), (4, .ref (q (16 + o1))), (0, .ref (q 0)), (1, .ref (q (11 + o1))), (2, .int a2), (3, .int a3)]) hx hb dX11_handlersInTwoRings_61 hl (by decide) rfl (fun ls hl => ?_)
    exact hB _ _ _ hw (lv_sub hl [5, 6, 7, 8, 4, 3, 2, 1, 0] rfl)
  · replace hB := hB.2 hc
    refine lv_iconst (v := (0 : Int32)) hx hb dX11_handlersInTwoRings_15 (by decide) ?_
    exact xr_iret X hw hr hk hB dX11_handlersInTwoRings_16
theorem xm_X11_handlersInTwoRings : xr_MW yX11_handlersInTwoRings cX11_handlersInTwoRings 9 (some .int) 3 := ⟨xt_4_61, xt_1_1, by decide, by decide, by decide +kernel⟩
set_option maxRecDepth 100000 in
set_option maxHeartbeats 4000000 in
theorem xc_X11_clash (l : Launch) (D : va_G) (cy : Nat → ClassId) (q : Nat → Nat) (σ : xw_M) (a1 : Int32) (a2 : Int32) (a3 : Int32) {Z : Int32 → xw_M → Prop} (hU : xu_X11_clash σ a1 a2 a3 Z) : xr_CI l yX11_clash cX11_clash 5 .int { frames := 4, cells := 0, slots := 0, locals := 93 } D cy xl_A q σ [.ref (q 0), .int a1, .int a2, .int a3] Z := by
  refine xr_CI.of RX11 rfl (by decide) (Nat.le_of_ble_eq_true rfl) (fun p e s m below meth c X hw hr hk ls hl => ?_)
  have hx := X.1
  have hb := X.2.1
  have hl : lv_has ls 5 [(0, .ref (q 0)), (1, .int a1), (2, .int a2), (3, .int a3)] := hl
  unfold xu_X11_clash at hU
  have hB := hU
  refine lv_aload_n hx hb dX11_clash_0 rfl (lv_at hl 0 rfl) ?_
  refine lv_iload_n hx hb dX11_clash_1 rfl (lv_at hl 1 rfl) ?_
  refine xr_i hw (xr_runV (As := [.int a1]) (rest := []) X hw 0 (xc_X11_isShow l D cy q σ a1 hB _) xm_X11_isShow xt_3_131 xt_3_133 xt_p_14 ⟨Nat.le_of_ble_eq_true rfl, Nat.le_of_ble_eq_true rfl⟩ xl_A_ShowRings_at rfl rfl rfl rfl hl.1 (Nat.le_of_ble_eq_true rfl) dX11_clash_2 ⟨Nat.zero_le _, Nat.zero_le _⟩) (fun r2 σ1 H locs hB hw => ?_)
  refine lv_if_eq (tgt := 27) hx hb dX11_clash_5 (by decide) (fun hc => ?_) (fun hc => ?_)
  · replace hB := hB.1 hc
    refine lv_iconst (v := (-1 : Int32)) hx hb dX11_clash_27 (by decide) ?_
    exact xr_iret X hw hr hk hB dX11_clash_28
  · replace hB := hB.2 hc
    refine lv_aload_n hx hb dX11_clash_8 rfl (lv_at hl 0 rfl) ?_
    refine lv_iload_n hx hb dX11_clash_9 rfl (lv_at hl 2 rfl) ?_
    refine xr_i hw (xr_runV (As := [.int a2]) (rest := []) X hw 0 (xc_X11_isBreed l D cy q σ1 a2 hB _) xm_X11_isBreed xt_3_104 xt_3_106 xt_p_13 ⟨Nat.le_of_ble_eq_true rfl, Nat.le_of_ble_eq_true rfl⟩ xl_A_ShowRings_at rfl rfl rfl rfl hl.1 (Nat.le_of_ble_eq_true rfl) dX11_clash_10 ⟨Nat.zero_le _, Nat.zero_le _⟩) (fun r4 σ3 H locs hB hw => ?_)
    refine lv_if_eq (tgt := 27) hx hb dX11_clash_13 (by decide) (fun hc => ?_) (fun hc => ?_)
    · replace hB := hB.1 hc
      refine lv_iconst (v := (-1 : Int32)) hx hb dX11_clash_27 (by decide) ?_
      exact xr_iret X hw hr hk hB dX11_clash_28
    · replace hB := hB.2 hc
      refine lv_iload_n hx hb dX11_clash_16 rfl (lv_at hl 3 rfl) ?_
      refine lv_iconst (v := (0 : Int32)) hx hb dX11_clash_17 (by decide) ?_
      refine lv_sipush (v := (9999 : Int32)) hx hb dX11_clash_18 (by decide) ?_
      refine xr_i hw (xr_runS (As := [.int a3, .int (0 : Int32), .int (9999 : Int32)]) (rest := []) X hw (xc_X11_isWithin l D cy q σ3 a3 (0 : Int32) (9999 : Int32) hB _) xm_X11_isWithin xt_3_80 xt_3_81 ⟨Nat.le_of_ble_eq_true rfl, Nat.le_of_ble_eq_true rfl⟩ rfl rfl hl.1 (Nat.le_of_ble_eq_true rfl) dX11_clash_21 ⟨Nat.zero_le _, Nat.zero_le _⟩) (fun r6 σ5 H locs hB hw => ?_)
      refine lv_if_ne (tgt := 29) hx hb dX11_clash_24 (by decide) (fun hc => ?_) (fun hc => ?_)
      · replace hB := hB.1 hc
        refine lv_aload_n hx hb dX11_clash_29 rfl (lv_at hl 0 rfl) ?_
        refine lv_aload_n hx hb dX11_clash_30 rfl (lv_at hl 0 rfl) ?_
        refine xr_getr X hw (xf_X11_82 X) 0 xl_A_ShowRings_at rfl dX11_clash_31 ?_
        refine lv_iload_n hx hb dX11_clash_34 rfl (lv_at hl 1 rfl) ?_
        have hi7 := hB.1
        refine xr_aald X hw 23 xl_A_ShowRings_shows_at hi7 dX11_clash_35 ?_
        replace hB := hB.2
        refine lv_iload_n hx hb dX11_clash_36 rfl (lv_at hl 2 rfl) ?_
        refine lv_iload_n hx hb dX11_clash_37 rfl (lv_at hl 3 rfl) ?_
        refine xr_i hw (xr_runV (As := [.ref (q (11 + (Int32.toNatClampNeg a1))), .int a2, .int a3]) (rest := []) X hw 0 (xc_X11_handlersInTwoRings l D cy q σ5 (Int32.toNatClampNeg a1) a2 a3 (xr_lt hi7) hB _) xm_X11_handlersInTwoRings xt_4_58 xt_4_60 xt_p_26 ⟨Nat.le_of_ble_eq_true rfl, Nat.le_of_ble_eq_true rfl⟩ xl_A_ShowRings_at rfl rfl rfl rfl hl.1 (Nat.le_of_ble_eq_true rfl) dX11_clash_38 ⟨Nat.zero_le _, Nat.zero_le _⟩) (fun r9 σ8 H locs hB hw => ?_)
        refine lv_istore (lv' := [(4, .int r9), (0, .ref (q 0)), (1, .int a1), (2, .int a2), (3, .int a3)]) hx hb dX11_clash_41 hl (by decide) rfl (fun ls hl => ?_)
        refine lv_iload hx hb dX11_clash_43 (lv_at hl 0 rfl) ?_
        refine lv_if_ne (tgt := 52) hx hb dX11_clash_45 (by decide) (fun hc => ?_) (fun hc => ?_)
        · replace hB := hB.1 hc
          refine lv_iload hx hb dX11_clash_52 (lv_at hl 0 rfl) ?_
          refine xr_i hw (xr_runS (As := [.int r9]) (rest := []) X hw (xc_J6_numberOfTrailingZeros_0f7a4 l D cy q σ8 r9 hB _) xm_J6_numberOfTrailingZeros_0f7a4 xt_4_65 xt_4_35 ⟨Nat.le_of_ble_eq_true rfl, Nat.le_of_ble_eq_true rfl⟩ rfl rfl hl.1 (Nat.le_of_ble_eq_true rfl) dX11_clash_54 ⟨Nat.zero_le _, Nat.zero_le _⟩) (fun r11 σ10 H locs hB hw => ?_)
          exact xr_iret X hw hr hk hB dX11_clash_57
        · replace hB := hB.2 hc
          refine lv_iconst (v := (-1 : Int32)) hx hb dX11_clash_48 (by decide) ?_
          refine lv_goto (tgt := 57) hx hb dX11_clash_49 (by decide) ?_
          exact xr_iret X hw hr hk hB dX11_clash_57
      · replace hB := hB.2 hc
        refine lv_iconst (v := (-1 : Int32)) hx hb dX11_clash_27 (by decide) ?_
        exact xr_iret X hw hr hk hB dX11_clash_28
set_option maxRecDepth 100000 in
set_option maxHeartbeats 4000000 in
theorem xc_X11_classed (l : Launch) (D : va_G) (cy : Nat → ClassId) (q : Nat → Nat) (σ : xw_M) (a1 : Int32) (a2 : Int32) {Z : Int32 → xw_M → Prop} (hU : xu_X11_classed σ a1 a2 Z) : xr_CI l yX11_classed cX11_classed 3 .int { frames := 3, cells := 0, slots := 0, locals := 77 } D cy xl_A q σ [.ref (q 0), .int a1, .int a2] Z := by
  refine xr_CI.of RX11 rfl (by decide) (Nat.le_of_ble_eq_true rfl) (fun p e s m below meth c X hw hr hk ls hl => ?_)
  have hx := X.1
  have hb := X.2.1
  have hl : lv_has ls 3 [(0, .ref (q 0)), (1, .int a1), (2, .int a2)] := hl
  unfold xu_X11_classed at hU
  have hB := hU
  refine lv_aload_n hx hb dX11_classed_0 rfl (lv_at hl 0 rfl) ?_
  refine lv_iload_n hx hb dX11_classed_1 rfl (lv_at hl 1 rfl) ?_
  refine xr_i hw (xr_runV (As := [.int a1]) (rest := []) X hw 0 (xc_X11_isShow l D cy q σ a1 hB _) xm_X11_isShow xt_3_131 xt_3_133 xt_p_14 ⟨Nat.le_of_ble_eq_true rfl, Nat.le_of_ble_eq_true rfl⟩ xl_A_ShowRings_at rfl rfl rfl rfl hl.1 (Nat.le_of_ble_eq_true rfl) dX11_classed_2 ⟨Nat.zero_le _, Nat.zero_le _⟩) (fun r2 σ1 H locs hB hw => ?_)
  refine lv_if_eq (tgt := 16) hx hb dX11_classed_5 (by decide) (fun hc => ?_) (fun hc => ?_)
  · replace hB := hB.1 hc
    refine lv_bipush (v := (-2 : Int32)) hx hb dX11_classed_16 (by decide) ?_
    exact xr_iret X hw hr hk hB dX11_classed_18
  · replace hB := hB.2 hc
    refine lv_aload_n hx hb dX11_classed_8 rfl (lv_at hl 0 rfl) ?_
    refine lv_iload_n hx hb dX11_classed_9 rfl (lv_at hl 2 rfl) ?_
    refine xr_i hw (xr_runV (As := [.int a2]) (rest := []) X hw 0 (xc_X11_isDog l D cy q σ1 a2 hB _) xm_X11_isDog xt_3_135 xt_3_137 xt_p_15 ⟨Nat.le_of_ble_eq_true rfl, Nat.le_of_ble_eq_true rfl⟩ xl_A_ShowRings_at rfl rfl rfl rfl hl.1 (Nat.le_of_ble_eq_true rfl) dX11_classed_10 ⟨Nat.zero_le _, Nat.zero_le _⟩) (fun r4 σ3 H locs hB hw => ?_)
    refine lv_if_ne (tgt := 19) hx hb dX11_classed_13 (by decide) (fun hc => ?_) (fun hc => ?_)
    · replace hB := hB.1 hc
      refine lv_aload_n hx hb dX11_classed_19 rfl (lv_at hl 0 rfl) ?_
      refine xr_getr X hw (xf_X11_58 X) 0 xl_A_ShowRings_at rfl dX11_classed_20 ?_
      refine lv_aload_n hx hb dX11_classed_23 rfl (lv_at hl 0 rfl) ?_
      refine xr_getr X hw (xf_X11_82 X) 0 xl_A_ShowRings_at rfl dX11_classed_24 ?_
      refine lv_iload_n hx hb dX11_classed_27 rfl (lv_at hl 1 rfl) ?_
      have hi5 := hB.1
      refine xr_aald X hw 23 xl_A_ShowRings_shows_at hi5 dX11_classed_28 ?_
      replace hB := hB.2
      refine lv_iload_n hx hb dX11_classed_29 rfl (lv_at hl 2 rfl) ?_
      refine xr_i hw (xr_runV (As := [.ref (q (11 + (Int32.toNatClampNeg a1))), .int a2]) (rest := []) X hw 6 (xc_X0_classOf l D cy q σ3 (Int32.toNatClampNeg a1) a2 (xr_lt hi5) hB _) xm_X0_classOf xt_3_144 xt_3_145 xt_3_146 ⟨Nat.le_of_ble_eq_true rfl, Nat.le_of_ble_eq_true rfl⟩ xl_A_Club_at rfl rfl rfl rfl hl.1 (Nat.le_of_ble_eq_true rfl) dX11_classed_30 ⟨Nat.zero_le _, Nat.zero_le _⟩) (fun r7 σ6 H locs hB hw => ?_)
      exact xr_iret X hw hr hk hB dX11_classed_33
    · replace hB := hB.2 hc
      refine lv_bipush (v := (-2 : Int32)) hx hb dX11_classed_16 (by decide) ?_
      exact xr_iret X hw hr hk hB dX11_classed_18
set_option maxRecDepth 100000 in
set_option maxHeartbeats 4000000 in
theorem xc_X1_lastOf (l : Launch) (D : va_G) (cy : Nat → ClassId) (q : Nat → Nat) (σ : xw_M) (a1 : Int32) (a2 : Int32) (a3 : Int32) (a4 : Int32) {Z : Int32 → xw_M → Prop} (hU : xu_X1_lastOf σ a1 a2 a3 a4 Z) : xr_CI l yX1_lastOf cX1_lastOf 6 .int { frames := 1, cells := 0, slots := 0, locals := 40 } D cy xl_A q σ [.ref (q 5), .int a1, .int a2, .int a3, .int a4] Z := by
  refine xr_CI.of RX1 rfl (by decide) (Nat.le_of_ble_eq_true rfl) (fun p e s m below meth c X hw hr hk ls hl => ?_)
  have hx := X.1
  have hb := X.2.1
  have hl : lv_has ls 6 [(0, .ref (q 5)), (1, .int a1), (2, .int a2), (3, .int a3), (4, .int a4)] := hl
  have hB := hU (fun (σ : xw_M) (v5 : Int32) => ∀ (H : Heap) (locs : List Loc) (ls : Array Slot), xr_H D cy xl_A q s σ H locs → lv_has ls 6 [(0, .ref (q 5)), (1, .int a1), (2, .int a2), (3, .int a3), (5, .int v5)] → W p l e ({ frames := 1, cells := 0, slots := 0, locals := 40 } : Room) s m ([.ref (q 5), .int a1, .int a2, .int a3, .int a4] : List Value).toArray below meth c H locs 0 0 (MQ below (va_Qi Z (xr_po D cy xl_A q) (xw_A xl_A q s.heap.size)) ([.ref (q 5), .int a1, .int a2, .int a3, .int a4] : List Value).toArray s 0 0 (xw_A xl_A q s.heap.size)) (F0 m 13 ls []))
    (by
    intro σ v5 hB H locs ls hw hl
    unfold xb_X1_lastOf_13 at hB
    refine lv_iload hx hb dX1_lastOf_13 (lv_at hl 4 rfl) ?_
    refine lv_if_lt (tgt := 60) hx hb dX1_lastOf_15 (by decide) (fun hc => ?_) (fun hc => ?_)
    · replace hB := hB.1 hc
      refine lv_iconst (v := (-1 : Int32)) hx hb dX1_lastOf_60 (by decide) ?_
      exact xr_iret X hw hr hk hB dX1_lastOf_61
    · replace hB := hB.2 hc
      refine lv_aload_n hx hb dX1_lastOf_18 rfl (lv_at hl 0 rfl) ?_
      refine xr_getr X hw (xf_X1_9 X) 5 xl_A_Facts_at rfl dX1_lastOf_19 ?_
      refine lv_iload hx hb dX1_lastOf_22 (lv_at hl 4 rfl) ?_
      refine xr_iald X hw 39 xl_A_Facts_kinds_at hB.1 dX1_lastOf_24 ?_
      replace hB := hB.2
      refine lv_iload_n hx hb dX1_lastOf_25 rfl (lv_at hl 1 rfl) ?_
      refine lv_icmp_ne (tgt := 54) hx hb dX1_lastOf_26 (by decide) (fun hc => ?_) (fun hc => ?_)
      · replace hB := hB.1 hc
        refine lv_iinc (v := (v5 + (-1 : Int32))) (lv' := [(5, .int (v5 + (-1 : Int32))), (0, .ref (q 5)), (1, .int a1), (2, .int a2), (3, .int a3)]) hx hb dX1_lastOf_54 hl (k := 4) rfl rfl (by decide) rfl (fun ls hl => ?_)
        refine lv_goto (tgt := 13) hx hb dX1_lastOf_57 (by decide) ?_
        exact hB _ _ _ hw (lv_sub hl [1, 2, 3, 4, 0] rfl)
      · replace hB := hB.2 hc
        refine lv_aload_n hx hb dX1_lastOf_29 rfl (lv_at hl 0 rfl) ?_
        refine xr_getr X hw (xf_X1_15 X) 5 xl_A_Facts_at rfl dX1_lastOf_30 ?_
        refine lv_iload hx hb dX1_lastOf_33 (lv_at hl 4 rfl) ?_
        refine xr_iald X hw 40 xl_A_Facts_shows_at hB.1 dX1_lastOf_35 ?_
        replace hB := hB.2
        refine lv_iload_n hx hb dX1_lastOf_36 rfl (lv_at hl 2 rfl) ?_
        refine lv_icmp_ne (tgt := 54) hx hb dX1_lastOf_37 (by decide) (fun hc => ?_) (fun hc => ?_)
        · replace hB := hB.1 hc
          refine lv_iinc (v := (v5 + (-1 : Int32))) (lv' := [(5, .int (v5 + (-1 : Int32))), (0, .ref (q 5)), (1, .int a1), (2, .int a2), (3, .int a3)]) hx hb dX1_lastOf_54 hl (k := 4) rfl rfl (by decide) rfl (fun ls hl => ?_)
          refine lv_goto (tgt := 13) hx hb dX1_lastOf_57 (by decide) ?_
          exact hB _ _ _ hw (lv_sub hl [1, 2, 3, 4, 0] rfl)
        · replace hB := hB.2 hc
          refine lv_aload_n hx hb dX1_lastOf_40 rfl (lv_at hl 0 rfl) ?_
          refine xr_getr X hw (xf_X1_18 X) 5 xl_A_Facts_at rfl dX1_lastOf_41 ?_
          refine lv_iload hx hb dX1_lastOf_44 (lv_at hl 4 rfl) ?_
          refine xr_iald X hw 41 xl_A_Facts_dogs_at hB.1 dX1_lastOf_46 ?_
          replace hB := hB.2
          refine lv_iload_n hx hb dX1_lastOf_47 rfl (lv_at hl 3 rfl) ?_
          refine lv_icmp_ne (tgt := 54) hx hb dX1_lastOf_48 (by decide) (fun hc => ?_) (fun hc => ?_)
          · replace hB := hB.1 hc
            refine lv_iinc (v := (v5 + (-1 : Int32))) (lv' := [(5, .int (v5 + (-1 : Int32))), (0, .ref (q 5)), (1, .int a1), (2, .int a2), (3, .int a3)]) hx hb dX1_lastOf_54 hl (k := 4) rfl rfl (by decide) rfl (fun ls hl => ?_)
            refine lv_goto (tgt := 13) hx hb dX1_lastOf_57 (by decide) ?_
            exact hB _ _ _ hw (lv_sub hl [1, 2, 3, 4, 0] rfl)
          · replace hB := hB.2 hc
            refine lv_iload hx hb dX1_lastOf_51 (lv_at hl 4 rfl) ?_
            exact xr_iret X hw hr hk hB dX1_lastOf_53)
  unfold xb_X1_lastOf_e at hB
  refine lv_iload hx hb dX1_lastOf_0 (lv_at hl 4 rfl) ?_
  refine lv_aload_n hx hb dX1_lastOf_2 rfl (lv_at hl 0 rfl) ?_
  refine xr_geti X hw (xf_X1_27 X) 5 xl_A_Facts_at rfl dX1_lastOf_3 ?_
  refine va_mmin hx hb (X.2.2.1.trans hl.1.symm) X.2.2.2.1 (X.2.2.2.2.1 _ xt_4_83) (X.2.2.2.2.1 _ xt_4_84) (X.2.2.2.2.1 _ xt_1_19) (X.2.2.2.2.1 _ xt_4_85) (Nat.le_of_ble_eq_true rfl) (Nat.le_of_ble_eq_true rfl) (Nat.zero_le _) (Nat.zero_le _) dX1_lastOf_6 ?_
  refine lv_iconst (v := (1 : Int32)) hx hb dX1_lastOf_9 (by decide) ?_
  refine lv_isub hx hb dX1_lastOf_10 ?_
  refine lv_topi (fun x1 hx1 => ?_)
  replace hB := hB _ hx1
  refine lv_istore (lv' := [(5, .int x1), (0, .ref (q 5)), (1, .int a1), (2, .int a2), (3, .int a3), (4, .int a4)]) hx hb dX1_lastOf_11 hl (by decide) rfl (fun ls hl => ?_)
  exact hB _ _ _ hw (lv_sub hl [1, 2, 3, 4, 0] rfl)
set_option maxRecDepth 100000 in
set_option maxHeartbeats 4000000 in
theorem xc_X1_valueAt (l : Launch) (D : va_G) (cy : Nat → ClassId) (q : Nat → Nat) (σ : xw_M) (a1 : Int32) {Z : Int32 → xw_M → Prop} (hU : xu_X1_valueAt σ a1 Z) : xr_CI l yX1_valueAt cX1_valueAt 2 .int { frames := 1, cells := 0, slots := 0, locals := 22 } D cy xl_A q σ [.ref (q 5), .int a1] Z := by
  refine xr_CI.of RX1 rfl (by decide) (Nat.le_of_ble_eq_true rfl) (fun p e s m below meth c X hw hr hk ls hl => ?_)
  have hx := X.1
  have hb := X.2.1
  have hl : lv_has ls 2 [(0, .ref (q 5)), (1, .int a1)] := hl
  unfold xu_X1_valueAt at hU
  have hB := hU
  refine lv_iload_n hx hb dX1_valueAt_0 rfl (lv_at hl 1 rfl) ?_
  refine lv_iconst (v := (0 : Int32)) hx hb dX1_valueAt_1 (by decide) ?_
  refine lv_aload_n hx hb dX1_valueAt_2 rfl (lv_at hl 0 rfl) ?_
  refine xr_geti X hw (xf_X1_27 X) 5 xl_A_Facts_at rfl dX1_valueAt_3 ?_
  refine lv_iconst (v := (1 : Int32)) hx hb dX1_valueAt_6 (by decide) ?_
  refine lv_isub hx hb dX1_valueAt_7 ?_
  refine xr_i hw (xr_runSN (As := [.int a1, .int (0 : Int32), .int ((σ.1 5 6) - (1 : Int32))]) (rest := []) X hw (xc_X11_isWithin l D cy q σ a1 (0 : Int32) ((σ.1 5 6) - (1 : Int32)) hB _) xm_X11_isWithin (X.2.2.2.2.2.1.2 _ (List.mem_of_getElem? (i := 7) rfl)) xt_3_81 ⟨Nat.le_of_ble_eq_true rfl, Nat.le_of_ble_eq_true rfl⟩ rfl rfl hl.1 (Nat.le_of_ble_eq_true rfl) dX1_valueAt_8 ⟨Nat.zero_le _, Nat.zero_le _⟩) (fun r2 σ1 H locs hB hw => ?_)
  refine lv_if_eq (tgt := 23) hx hb dX1_valueAt_11 (by decide) (fun hc => ?_) (fun hc => ?_)
  · replace hB := hB.1 hc
    refine lv_iconst (v := (-1 : Int32)) hx hb dX1_valueAt_23 (by decide) ?_
    exact xr_iret X hw hr hk hB dX1_valueAt_24
  · replace hB := hB.2 hc
    refine lv_aload_n hx hb dX1_valueAt_14 rfl (lv_at hl 0 rfl) ?_
    refine xr_getr X hw (xf_X1_21 X) 5 xl_A_Facts_at rfl dX1_valueAt_15 ?_
    refine lv_iload_n hx hb dX1_valueAt_18 rfl (lv_at hl 1 rfl) ?_
    refine xr_iald X hw 42 xl_A_Facts_values_at hB.1 dX1_valueAt_19 ?_
    replace hB := hB.2
    refine lv_goto (tgt := 24) hx hb dX1_valueAt_20 (by decide) ?_
    exact xr_iret X hw hr hk hB dX1_valueAt_24
theorem xm_X1_lastOf : xr_MW yX1_lastOf cX1_lastOf 6 (some .int) 4 := ⟨xt_4_82, xt_1_7, by decide, by decide, by decide +kernel⟩
theorem xm_X1_valueAt : xr_MW yX1_valueAt cX1_valueAt 2 (some .int) 1 := ⟨xt_4_94, xt_1_7, by decide, by decide, by decide +kernel⟩
set_option maxRecDepth 100000 in
set_option maxHeartbeats 4000000 in
theorem xc_X1_heldMeasure (l : Launch) (D : va_G) (cy : Nat → ClassId) (q : Nat → Nat) (σ : xw_M) (a1 : Int32) (a2 : Int32) (a3 : Int32) {Z : Int32 → xw_M → Prop} (hU : xu_X1_heldMeasure σ a1 a2 a3 Z) : xr_CI l yX1_heldMeasure cX1_heldMeasure 10 .int { frames := 2, cells := 0, slots := 0, locals := 65 } D cy xl_A q σ [.ref (q 5), .int a1, .int a2, .int a3] Z := by
  refine xr_CI.of RX1 rfl (by decide) (Nat.le_of_ble_eq_true rfl) (fun p e s m below meth c X hw hr hk ls hl => ?_)
  have hx := X.1
  have hb := X.2.1
  have hl : lv_has ls 10 [(0, .ref (q 5)), (1, .int a1), (2, .int a2), (3, .int a3)] := hl
  unfold xu_X1_heldMeasure at hU
  have hB := hU
  refine lv_aload_n hx hb dX1_heldMeasure_0 rfl (lv_at hl 0 rfl) ?_
  refine lv_iconst (v := (3 : Int32)) hx hb dX1_heldMeasure_1 (by decide) ?_
  refine lv_iload_n hx hb dX1_heldMeasure_2 rfl (lv_at hl 1 rfl) ?_
  refine lv_iload_n hx hb dX1_heldMeasure_3 rfl (lv_at hl 2 rfl) ?_
  refine lv_iload_n hx hb dX1_heldMeasure_4 rfl (lv_at hl 3 rfl) ?_
  refine xr_i hw (xr_runV (As := [.int (3 : Int32), .int a1, .int a2, .int a3]) (rest := []) X hw 5 (xc_X1_lastOf l D cy q σ (3 : Int32) a1 a2 a3 hB _) xm_X1_lastOf xt_4_90 xt_4_80 xt_4_81 ⟨Nat.le_of_ble_eq_true rfl, Nat.le_of_ble_eq_true rfl⟩ xl_A_Facts_at rfl rfl rfl rfl hl.1 (Nat.le_of_ble_eq_true rfl) dX1_heldMeasure_5 ⟨Nat.zero_le _, Nat.zero_le _⟩) (fun r2 σ1 H locs hB hw => ?_)
  refine lv_istore (lv' := [(4, .int r2), (0, .ref (q 5)), (1, .int a1), (2, .int a2), (3, .int a3)]) hx hb dX1_heldMeasure_8 hl (by decide) rfl (fun ls hl => ?_)
  refine lv_aload_n hx hb dX1_heldMeasure_10 rfl (lv_at hl 1 rfl) ?_
  refine lv_iconst (v := (3 : Int32)) hx hb dX1_heldMeasure_11 (by decide) ?_
  refine lv_iload_n hx hb dX1_heldMeasure_12 rfl (lv_at hl 2 rfl) ?_
  refine lv_iload_n hx hb dX1_heldMeasure_13 rfl (lv_at hl 3 rfl) ?_
  refine lv_iload hx hb dX1_heldMeasure_14 (lv_at hl 0 rfl) ?_
  refine xr_i hw (xr_runV (As := [.int (3 : Int32), .int a1, .int a2, .int r2]) (rest := []) X hw 5 (xc_X1_lastOf l D cy q σ1 (3 : Int32) a1 a2 r2 hB _) xm_X1_lastOf xt_4_90 xt_4_80 xt_4_81 ⟨Nat.le_of_ble_eq_true rfl, Nat.le_of_ble_eq_true rfl⟩ xl_A_Facts_at rfl rfl rfl rfl hl.1 (Nat.le_of_ble_eq_true rfl) dX1_heldMeasure_16 ⟨Nat.zero_le _, Nat.zero_le _⟩) (fun r4 σ3 H locs hB hw => ?_)
  refine lv_istore (lv' := [(5, .int r4), (4, .int r2), (0, .ref (q 5)), (1, .int a1), (2, .int a2), (3, .int a3)]) hx hb dX1_heldMeasure_19 hl (by decide) rfl (fun ls hl => ?_)
  refine lv_aload_n hx hb dX1_heldMeasure_21 rfl (lv_at hl 2 rfl) ?_
  refine lv_iconst (v := (3 : Int32)) hx hb dX1_heldMeasure_22 (by decide) ?_
  refine lv_iload_n hx hb dX1_heldMeasure_23 rfl (lv_at hl 3 rfl) ?_
  refine lv_iload_n hx hb dX1_heldMeasure_24 rfl (lv_at hl 4 rfl) ?_
  refine lv_iload hx hb dX1_heldMeasure_25 (lv_at hl 0 rfl) ?_
  refine xr_i hw (xr_runV (As := [.int (3 : Int32), .int a1, .int a2, .int r4]) (rest := []) X hw 5 (xc_X1_lastOf l D cy q σ3 (3 : Int32) a1 a2 r4 hB _) xm_X1_lastOf xt_4_90 xt_4_80 xt_4_81 ⟨Nat.le_of_ble_eq_true rfl, Nat.le_of_ble_eq_true rfl⟩ xl_A_Facts_at rfl rfl rfl rfl hl.1 (Nat.le_of_ble_eq_true rfl) dX1_heldMeasure_27 ⟨Nat.zero_le _, Nat.zero_le _⟩) (fun r6 σ5 H locs hB hw => ?_)
  refine lv_istore (lv' := [(6, .int r6), (5, .int r4), (4, .int r2), (0, .ref (q 5)), (1, .int a1), (2, .int a2), (3, .int a3)]) hx hb dX1_heldMeasure_30 hl (by decide) rfl (fun ls hl => ?_)
  refine lv_aload_n hx hb dX1_heldMeasure_32 rfl (lv_at hl 3 rfl) ?_
  refine lv_iload hx hb dX1_heldMeasure_33 (lv_at hl 2 rfl) ?_
  refine xr_i hw (xr_runV (As := [.int r2]) (rest := []) X hw 5 (xc_X1_valueAt l D cy q σ5 r2 hB _) xm_X1_valueAt xt_4_91 xt_4_92 xt_4_93 ⟨Nat.le_of_ble_eq_true rfl, Nat.le_of_ble_eq_true rfl⟩ xl_A_Facts_at rfl rfl rfl rfl hl.1 (Nat.le_of_ble_eq_true rfl) dX1_heldMeasure_35 ⟨Nat.zero_le _, Nat.zero_le _⟩) (fun r8 σ7 H locs hB hw => ?_)
  refine lv_istore (lv' := [(7, .int r8), (6, .int r6), (5, .int r4), (4, .int r2), (0, .ref (q 5)), (1, .int a1), (2, .int a2), (3, .int a3)]) hx hb dX1_heldMeasure_38 hl (by decide) rfl (fun ls hl => ?_)
  refine lv_aload_n hx hb dX1_heldMeasure_40 rfl (lv_at hl 4 rfl) ?_
  refine lv_iload hx hb dX1_heldMeasure_41 (lv_at hl 2 rfl) ?_
  refine xr_i hw (xr_runV (As := [.int r4]) (rest := []) X hw 5 (xc_X1_valueAt l D cy q σ7 r4 hB _) xm_X1_valueAt xt_4_91 xt_4_92 xt_4_93 ⟨Nat.le_of_ble_eq_true rfl, Nat.le_of_ble_eq_true rfl⟩ xl_A_Facts_at rfl rfl rfl rfl hl.1 (Nat.le_of_ble_eq_true rfl) dX1_heldMeasure_43 ⟨Nat.zero_le _, Nat.zero_le _⟩) (fun r10 σ9 H locs hB hw => ?_)
  refine lv_istore (lv' := [(8, .int r10), (7, .int r8), (6, .int r6), (5, .int r4), (4, .int r2), (0, .ref (q 5)), (1, .int a1), (2, .int a2), (3, .int a3)]) hx hb dX1_heldMeasure_46 hl (by decide) rfl (fun ls hl => ?_)
  refine lv_aload_n hx hb dX1_heldMeasure_48 rfl (lv_at hl 5 rfl) ?_
  refine lv_iload hx hb dX1_heldMeasure_49 (lv_at hl 2 rfl) ?_
  refine xr_i hw (xr_runV (As := [.int r6]) (rest := []) X hw 5 (xc_X1_valueAt l D cy q σ9 r6 hB _) xm_X1_valueAt xt_4_91 xt_4_92 xt_4_93 ⟨Nat.le_of_ble_eq_true rfl, Nat.le_of_ble_eq_true rfl⟩ xl_A_Facts_at rfl rfl rfl rfl hl.1 (Nat.le_of_ble_eq_true rfl) dX1_heldMeasure_51 ⟨Nat.zero_le _, Nat.zero_le _⟩) (fun r12 σ11 H locs hB hw => ?_)
  refine lv_istore (lv' := [(9, .int r12), (8, .int r10), (7, .int r8), (6, .int r6), (5, .int r4), (4, .int r2), (0, .ref (q 5)), (1, .int a1), (2, .int a2), (3, .int a3)]) hx hb dX1_heldMeasure_54 hl (by decide) rfl (fun ls hl => ?_)
  refine lv_iload hx hb dX1_heldMeasure_56 (lv_at hl 4 rfl) ?_
  refine lv_iconst (v := (-1 : Int32)) hx hb dX1_heldMeasure_58 (by decide) ?_
  refine lv_icmp_ne (tgt := 65) hx hb dX1_heldMeasure_59 (by decide) (fun hc => ?_) (fun hc => ?_)
  · replace hB := hB.1 hc
    refine lv_iload hx hb dX1_heldMeasure_65 (lv_at hl 3 rfl) ?_
    refine lv_iconst (v := (-1 : Int32)) hx hb dX1_heldMeasure_67 (by decide) ?_
    refine lv_icmp_ne (tgt := 79) hx hb dX1_heldMeasure_68 (by decide) (fun hc => ?_) (fun hc => ?_)
    · replace hB := hB.1 hc
      refine lv_iload hx hb dX1_heldMeasure_79 (lv_at hl 2 rfl) ?_
      refine lv_iload hx hb dX1_heldMeasure_81 (lv_at hl 1 rfl) ?_
      refine va_mmin hx hb (X.2.2.1.trans hl.1.symm) X.2.2.2.1 (X.2.2.2.2.1 _ xt_4_83) (X.2.2.2.2.1 _ xt_4_84) (X.2.2.2.2.1 _ xt_1_19) (X.2.2.2.2.1 _ xt_4_85) (Nat.le_of_ble_eq_true rfl) (Nat.le_of_ble_eq_true rfl) (Nat.zero_le _) (Nat.zero_le _) dX1_heldMeasure_83 ?_
      refine lv_iload hx hb dX1_heldMeasure_86 (lv_at hl 2 rfl) ?_
      refine lv_iload hx hb dX1_heldMeasure_88 (lv_at hl 1 rfl) ?_
      refine va_mmax hx hb (X.2.2.1.trans hl.1.symm) X.2.2.2.1 (X.2.2.2.2.1 _ xt_4_95) (X.2.2.2.2.1 _ xt_3_150) (X.2.2.2.2.1 _ xt_1_19) (X.2.2.2.2.1 _ xt_3_151) (Nat.le_of_ble_eq_true rfl) (Nat.le_of_ble_eq_true rfl) (Nat.zero_le _) (Nat.zero_le _) dX1_heldMeasure_90 ?_
      refine lv_iload hx hb dX1_heldMeasure_93 (lv_at hl 0 rfl) ?_
      refine va_mmin hx hb (X.2.2.1.trans hl.1.symm) X.2.2.2.1 (X.2.2.2.2.1 _ xt_4_83) (X.2.2.2.2.1 _ xt_4_84) (X.2.2.2.2.1 _ xt_1_19) (X.2.2.2.2.1 _ xt_4_85) (Nat.le_of_ble_eq_true rfl) (Nat.le_of_ble_eq_true rfl) (Nat.zero_le _) (Nat.zero_le _) dX1_heldMeasure_95 ?_
      refine va_mmax hx hb (X.2.2.1.trans hl.1.symm) X.2.2.2.1 (X.2.2.2.2.1 _ xt_4_95) (X.2.2.2.2.1 _ xt_3_150) (X.2.2.2.2.1 _ xt_1_19) (X.2.2.2.2.1 _ xt_3_151) (Nat.le_of_ble_eq_true rfl) (Nat.le_of_ble_eq_true rfl) (Nat.zero_le _) (Nat.zero_le _) dX1_heldMeasure_98 ?_
      exact xr_iret X hw hr hk hB dX1_heldMeasure_101
    · replace hB := hB.2 hc
      refine lv_iload hx hb dX1_heldMeasure_71 (lv_at hl 2 rfl) ?_
      refine lv_iload hx hb dX1_heldMeasure_73 (lv_at hl 1 rfl) ?_
      refine va_mmin hx hb (X.2.2.1.trans hl.1.symm) X.2.2.2.1 (X.2.2.2.2.1 _ xt_4_83) (X.2.2.2.2.1 _ xt_4_84) (X.2.2.2.2.1 _ xt_1_19) (X.2.2.2.2.1 _ xt_4_85) (Nat.le_of_ble_eq_true rfl) (Nat.le_of_ble_eq_true rfl) (Nat.zero_le _) (Nat.zero_le _) dX1_heldMeasure_75 ?_
      exact xr_iret X hw hr hk hB dX1_heldMeasure_78
  · replace hB := hB.2 hc
    refine lv_iload hx hb dX1_heldMeasure_62 (lv_at hl 2 rfl) ?_
    exact xr_iret X hw hr hk hB dX1_heldMeasure_64
