def xb_X6_isWord_3 (a1 : Int32) (a2 : Int32) (a3 : Int32) (K3 : xw_M → Int32 → Prop) (K32 : xw_M → Int32 → Int32 → Prop) (Z : Int32 → xw_M → Prop) (σ : xw_M) (v4 : Int32) : Prop :=
  (((8 : Int32) ≤ v4 → (((1 : Int32) = 0 ∨ (1 : Int32) = 1) ∧ Z (1 : Int32) σ)) ∧ (¬ (8 : Int32) ≤ v4 → ((a3 ≤ v4 → (K32 σ (32 : Int32) v4)) ∧ (¬ a3 ≤ v4 → (xu_X8_at σ (a2 + v4) (fun r2 σ1 => (K32 σ1 r2 v4)))))))
def xb_X6_isWord_32 (a1 : Int32) (a2 : Int32) (a3 : Int32) (K3 : xw_M → Int32 → Prop) (K32 : xw_M → Int32 → Int32 → Prop) (Z : Int32 → xw_M → Prop) (σ : xw_M) (s0 : Int32) (v4 : Int32) : Prop :=
  (((128 : Int32) ≤ (a1 + v4) → (((0 : Int32) = 0 ∨ (0 : Int32) = 1) ∧ Z (0 : Int32) σ)) ∧ (¬ (128 : Int32) ≤ (a1 + v4) → (vp_in (a1 + v4) 128 ∧ (((xs_ch (a1 + v4)) = s0 → (K3 σ (v4 + (1 : Int32)))) ∧ (¬ (xs_ch (a1 + v4)) = s0 → (((0 : Int32) = 0 ∨ (0 : Int32) = 1) ∧ Z (0 : Int32) σ))))))
def xb_X6_isWord_e (a1 : Int32) (a2 : Int32) (a3 : Int32) (K3 : xw_M → Int32 → Prop) (K32 : xw_M → Int32 → Int32 → Prop) (Z : Int32 → xw_M → Prop) (σ : xw_M) : Prop :=
  (K3 σ (0 : Int32))
def xu_X6_isWord (σ : xw_M) (a1 : Int32) (a2 : Int32) (a3 : Int32) (Z : Int32 → xw_M → Prop) : Prop :=
  ∀ (K3 : xw_M → Int32 → Prop) (K32 : xw_M → Int32 → Int32 → Prop), (∀ (σ : xw_M) (v4 : Int32), xb_X6_isWord_3 a1 a2 a3 K3 K32 Z σ v4 → K3 σ v4) → (∀ (σ : xw_M) (s0 : Int32) (v4 : Int32), xb_X6_isWord_32 a1 a2 a3 K3 K32 Z σ s0 v4 → K32 σ s0 v4) → xb_X6_isWord_e a1 a2 a3 K3 K32 Z σ
def xb_X6_wordKind_2 (a1 : Int32) (a2 : Int32) (K2 : xw_M → Int32 → Prop) (Z : Int32 → xw_M → Prop) (σ : xw_M) (v3 : Int32) : Prop :=
  (((128 : Int32) < ((v3 * (8 : Int32)) + (8 : Int32)) → (Z (28 : Int32) σ)) ∧ (¬ (128 : Int32) < ((v3 * (8 : Int32)) + (8 : Int32)) → (((8 : Int32) < a2 → (K2 σ (v3 + (1 : Int32)))) ∧ (¬ (8 : Int32) < a2 → (xu_X6_isWord σ (v3 * (8 : Int32)) a1 a2 (fun r2 σ1 => ((r2 = 0 → (K2 σ1 (v3 + (1 : Int32)))) ∧ (¬ r2 = 0 → (Z v3 σ1)))))))))
def xb_X6_wordKind_e (a1 : Int32) (a2 : Int32) (K2 : xw_M → Int32 → Prop) (Z : Int32 → xw_M → Prop) (σ : xw_M) : Prop :=
  (K2 σ (0 : Int32))
def xu_X6_wordKind (σ : xw_M) (a1 : Int32) (a2 : Int32) (Z : Int32 → xw_M → Prop) : Prop :=
  ∀ (K2 : xw_M → Int32 → Prop), (∀ (σ : xw_M) (v3 : Int32), xb_X6_wordKind_2 a1 a2 K2 Z σ v3 → K2 σ v3) → xb_X6_wordKind_e a1 a2 K2 Z σ
def xu_X6_kindOf (σ : xw_M) (a1 : Int32) (a2 : Int32) (Z : Int32 → xw_M → Prop) : Prop :=
  ((a1 < (σ.1 1 1) → (xu_X8_at σ a1 (fun r2 σ1 => (xu_X6_sortOf σ1 r2 (fun r4 σ3 => ((¬ r4 = (1 : Int32) → ((¬ r4 = (2 : Int32) → ((¬ (a2 - a1) = (2 : Int32) → (xu_X6_signKind σ3 r2 (fun r6 σ5 => (Z r6 σ5)))) ∧ ((a2 - a1) = (2 : Int32) → (xu_X6_longSignKind σ3 r2 (fun r8 σ7 => (Z r8 σ7)))))) ∧ (r4 = (2 : Int32) → (((4 : Int32) < (a2 - a1) → (Z (28 : Int32) σ3)) ∧ (¬ (4 : Int32) < (a2 - a1) → (Z (16 : Int32) σ3)))))) ∧ (r4 = (1 : Int32) → (xu_X6_wordKind σ3 a1 (a2 - a1) (fun r10 σ9 => (Z r10 σ9)))))))))) ∧ (¬ a1 < (σ.1 1 1) → (Z (27 : Int32) σ)))
def xb_X6_split_11 (K11 : xw_M → Int32 → Int32 → Int32 → Prop) (K83 : xw_M → Int32 → Int32 → Int32 → Int32 → Int32 → Prop) (Z : xw_M → Prop) (σ : xw_M) (v1 : Int32) (v2 : Int32) (v3 : Int32) : Prop :=
  (((400 : Int32) < v3 → (Z σ)) ∧ (¬ (400 : Int32) < v3 → ((v2 = 0 → (Z σ)) ∧ (¬ v2 = 0 → (xu_X6_pastRun σ v1 (0 : Int32) (fun r3 σ2 => (xu_X6_tokenEnd σ2 r3 (fun r5 σ4 => (xu_X6_kindOf σ4 r3 r5 (fun r7 σ6 => (vp_in v3 401 ∧ ∀ σ8, σ8 = xw_i σ6 25 (Int32.toNatClampNeg v3) r7 → (vp_in v3 401 ∧ ∀ σ9, σ9 = xw_i σ8 26 (Int32.toNatClampNeg v3) r3 → ((¬ r7 = (16 : Int32) → (K83 σ9 v3 (0 : Int32) v3 r5 r7)) ∧ (r7 = (16 : Int32) → (xu_X6_numberAt σ9 r3 r5 (fun r11 σ10 => (K83 σ10 v3 r11 v3 r5 r7)))))))))))))))))
def xb_X6_split_83 (K11 : xw_M → Int32 → Int32 → Int32 → Prop) (K83 : xw_M → Int32 → Int32 → Int32 → Int32 → Int32 → Prop) (Z : xw_M → Prop) (σ : xw_M) (s0 : Int32) (s1 : Int32) (v3 : Int32) (v4 : Int32) (v5 : Int32) : Prop :=
  (vp_in s0 401 ∧ ∀ σ12, σ12 = xw_i σ 27 (Int32.toNatClampNeg s0) s1 → (∀ σ13, σ13 = xw_i σ12 2 4 (v3 + (1 : Int32)) → ((v5 = (27 : Int32) → (K11 σ13 v4 (0 : Int32) (v3 + (1 : Int32)))) ∧ (¬ v5 = (27 : Int32) → ((v5 = (28 : Int32) → (K11 σ13 v4 (0 : Int32) (v3 + (1 : Int32)))) ∧ (¬ v5 = (28 : Int32) → (K11 σ13 v4 (1 : Int32) (v3 + (1 : Int32)))))))))
def xb_X6_split_e (K11 : xw_M → Int32 → Int32 → Int32 → Prop) (K83 : xw_M → Int32 → Int32 → Int32 → Int32 → Int32 → Prop) (Z : xw_M → Prop) (σ : xw_M) : Prop :=
  (∀ σ1, σ1 = xw_i σ 2 4 (0 : Int32) → (K11 σ1 (0 : Int32) (1 : Int32) (0 : Int32)))
def xu_X6_split (σ : xw_M) (Z : xw_M → Prop) : Prop :=
  ∀ (K11 : xw_M → Int32 → Int32 → Int32 → Prop) (K83 : xw_M → Int32 → Int32 → Int32 → Int32 → Int32 → Prop), (∀ (σ : xw_M) (v1 : Int32) (v2 : Int32) (v3 : Int32), xb_X6_split_11 K11 K83 Z σ v1 v2 v3 → K11 σ v1 v2 v3) → (∀ (σ : xw_M) (s0 : Int32) (s1 : Int32) (v3 : Int32) (v4 : Int32) (v5 : Int32), xb_X6_split_83 K11 K83 Z σ s0 s1 v3 v4 v5 → K83 σ s0 s1 v3 v4 v5) → xb_X6_split_e K11 K83 Z σ
def xb_X3_parse_31 (K31 : xw_M → Int32 → Prop) (Z : xw_M → Prop) (σ : xw_M) (v1 : Int32) : Prop :=
  (((16 : Int32) < v1 → (Z σ)) ∧ (¬ (16 : Int32) < v1 → ((¬ (σ.1 3 3) = 0 → (Z σ)) ∧ ((σ.1 3 3) = 0 → (xu_X3_seen σ (fun r7 σ6 => ((r7 = (27 : Int32) → (Z σ6)) ∧ (¬ r7 = (27 : Int32) → (xu_X3_parseRule σ6 (fun σ8 => (K31 σ8 (v1 + (1 : Int32)))))))))))))
def xb_X3_parse_e (K31 : xw_M → Int32 → Prop) (Z : xw_M → Prop) (σ : xw_M) : Prop :=
  (xu_X9_clear σ 1 (fun σ1 => (∀ σ2, σ2 = xw_i σ1 3 2 (0 : Int32) → (∀ σ3, σ3 = xw_i σ2 3 3 (0 : Int32) → (∀ σ4, σ4 = xw_i σ3 3 4 (-1 : Int32) → (xu_X6_split σ4 (fun σ5 => (K31 σ5 (0 : Int32)))))))))
def xu_X3_parse (σ : xw_M) (Z : xw_M → Prop) : Prop :=
  ∀ (K31 : xw_M → Int32 → Prop), (∀ (σ : xw_M) (v1 : Int32), xb_X3_parse_31 K31 Z σ v1 → K31 σ v1) → xb_X3_parse_e K31 Z σ
def xu_X11_read (σ : xw_M) (Z : Int32 → xw_M → Prop) : Prop :=
  (xu_X3_parse σ (fun σ1 => (∀ σ2, σ2 = xw_i σ1 1 1 (0 : Int32) → (∀ σ3, σ3 = xw_i σ2 0 11 (σ2.1 3 4) → ((¬ (σ3.1 3 3) = 0 → (Z (σ3.1 3 3) σ3)) ∧ ((σ3.1 3 3) = 0 → (xu_X9_copyFrom σ3 0 1 (fun σ4 => (Z (σ4.1 3 3) σ4)))))))))
set_option maxRecDepth 100000 in
set_option maxHeartbeats 4000000 in
theorem xc_X6_isWord (l : Launch) (D : va_G) (cy : Nat → ClassId) (q : Nat → Nat) (ak av : Nat) (σ : xw_M) (a1 : Int32) (a2 : Int32) (a3 : Int32) {Z : Int32 → xw_M → Prop} (hU : xu_X6_isWord σ a1 a2 a3 Z) : xs_CI l yX6_isWord cX6_isWord 6 .boolean { frames := 4, cells := 0, slots := 0, locals := 90 } D cy xl_A q ak av σ [.ref (q 2), .int a1, .int a2, .int a3] Z := by
  refine xs_CI.of RX6 rfl (by decide) (Nat.le_of_ble_eq_true rfl) (fun p e s m below meth c X hG hw hr hk ls hl => ?_)
  have hx := X.1
  have hb := X.2.1
  have hG2 := hG
  obtain ⟨g1, g2, g3, g4, g5, g6, g7⟩ := hG2
  have hl : lv_has ls 6 [(0, .ref (q 2)), (1, .int a1), (2, .int a2), (3, .int a3)] := hl
  have hB := hU (fun (σ : xw_M) (v4 : Int32) => ∀ (H : Heap) (locs : List Loc) (ls : Array Slot), xr_H D cy xl_A q s σ H locs → lv_has ls 6 [(0, .ref (q 2)), (1, .int a1), (2, .int a2), (3, .int a3), (4, .int v4)] → W p l e ({ frames := 4, cells := 0, slots := 0, locals := 90 } : Room) s m ([.ref (q 2), .int a1, .int a2, .int a3] : List Value).toArray below meth c H locs 0 0 (MQ below (va_Qi Z (xr_po D cy xl_A q) (xw_A xl_A q s.heap.size)) ([.ref (q 2), .int a1, .int a2, .int a3] : List Value).toArray s 0 0 (xw_A xl_A q s.heap.size)) (F0 m 3 ls []))
    (fun (σ : xw_M) (s0 : Int32) (v4 : Int32) => ∀ (H : Heap) (locs : List Loc) (ls : Array Slot), xr_H D cy xl_A q s σ H locs → lv_has ls 6 [(0, .ref (q 2)), (1, .int a1), (2, .int a2), (3, .int a3), (4, .int v4)] → W p l e ({ frames := 4, cells := 0, slots := 0, locals := 90 } : Room) s m ([.ref (q 2), .int a1, .int a2, .int a3] : List Value).toArray below meth c H locs 0 0 (MQ below (va_Qi Z (xr_po D cy xl_A q) (xw_A xl_A q s.heap.size)) ([.ref (q 2), .int a1, .int a2, .int a3] : List Value).toArray s 0 0 (xw_A xl_A q s.heap.size)) (F0 m 32 ls [.int s0]))
    (by
    intro σ v4 hB H locs ls hw hl
    unfold xb_X6_isWord_3 at hB
    refine lv_iload hx hb dX6_isWord_3 (lv_at hl 4 rfl) ?_
    refine lv_bipush (v := (8 : Int32)) hx hb dX6_isWord_5 (by decide) ?_
    refine lv_icmp_ge (tgt := 68) hx hb dX6_isWord_7 (by decide) (fun hc => ?_) (fun hc => ?_)
    · replace hB := hB.1 hc
      refine lv_iconst (v := (1 : Int32)) hx hb dX6_isWord_68 (by decide) ?_
      exact xr_zret X hw hr hk hB dX6_isWord_69
    · replace hB := hB.2 hc
      refine lv_iload hx hb dX6_isWord_10 (lv_at hl 4 rfl) ?_
      refine lv_iload_n hx hb dX6_isWord_12 rfl (lv_at hl 3 rfl) ?_
      refine lv_icmp_ge (tgt := 30) hx hb dX6_isWord_13 (by decide) (fun hc => ?_) (fun hc => ?_)
      · replace hB := hB.1 hc
        refine lv_bipush (v := (32 : Int32)) hx hb dX6_isWord_30 (by decide) ?_
        exact hB _ _ _ hw (lv_sub hl [0, 1, 2, 3, 4] rfl)
      · replace hB := hB.2 hc
        refine lv_aload_n hx hb dX6_isWord_16 rfl (lv_at hl 0 rfl) ?_
        refine xr_getr X hw (xf_X6_25 X) 2 xl_A_Scanner_at rfl dX6_isWord_17 ?_
        refine lv_iload_n hx hb dX6_isWord_20 rfl (lv_at hl 2 rfl) ?_
        refine lv_iload hx hb dX6_isWord_21 (lv_at hl 4 rfl) ?_
        refine lv_iadd hx hb dX6_isWord_23 ?_
        refine xr_i hw (xr_runV (As := [.int (a2 + v4)]) (rest := []) X hw 1 (xc_X8_at l D cy q σ (a2 + v4) hB _) xm_X8_at xt_2_181 xt_2_182 xt_2_183 ⟨Nat.le_of_ble_eq_true rfl, Nat.le_of_ble_eq_true rfl⟩ xl_A_Tape_at rfl rfl rfl rfl hl.1 (Nat.le_of_ble_eq_true rfl) dX6_isWord_24 ⟨Nat.zero_le _, Nat.zero_le _⟩) (fun r2 σ1 H locs hB hw => ?_)
        refine lv_goto (tgt := 32) hx hb dX6_isWord_27 (by decide) ?_
        exact hB _ _ _ hw (lv_sub hl [0, 1, 2, 3, 4] rfl))
    (by
    intro σ s0 v4 hB H locs ls hw hl
    unfold xb_X6_isWord_32 at hB
    refine lv_istore (lv' := [(5, .int s0), (0, .ref (q 2)), (1, .int a1), (2, .int a2), (3, .int a3), (4, .int v4)]) hx hb dX6_isWord_32 hl (by decide) rfl (fun ls hl => ?_)
    refine lv_iload_n hx hb dX6_isWord_34 rfl (lv_at hl 2 rfl) ?_
    refine lv_iload hx hb dX6_isWord_35 (lv_at hl 5 rfl) ?_
    refine lv_iadd hx hb dX6_isWord_37 ?_
    refine va_ldcS hx hb X.2.2.2.1 g7 dX6_isWord_38 ?_
    refine xs_len X hG hw (rest := [.int (a1 + v4)]) hl.1 ⟨Nat.le_of_ble_eq_true rfl, Nat.le_of_ble_eq_true rfl⟩ (Nat.le_of_ble_eq_true rfl) dX6_isWord_40 ⟨Nat.zero_le _, Nat.zero_le _⟩ (fun H locs hw => ?_)
    refine lv_icmp_ge (tgt := 60) hx hb dX6_isWord_43 (by decide) (fun hc => ?_) (fun hc => ?_)
    · replace hB := hB.1 hc
      refine lv_iconst (v := (0 : Int32)) hx hb dX6_isWord_60 (by decide) ?_
      exact xr_zret X hw hr hk hB dX6_isWord_61
    · replace hB := hB.2 hc
      refine va_ldcS hx hb X.2.2.2.1 g7 dX6_isWord_46 ?_
      refine lv_iload_n hx hb dX6_isWord_48 rfl (lv_at hl 2 rfl) ?_
      refine lv_iload hx hb dX6_isWord_49 (lv_at hl 5 rfl) ?_
      refine lv_iadd hx hb dX6_isWord_51 ?_
      refine xs_chr X hG hw (rest := []) hB.1 hl.1 ⟨Nat.le_of_ble_eq_true rfl, Nat.le_of_ble_eq_true rfl⟩ (Nat.le_of_ble_eq_true rfl) dX6_isWord_52 ⟨Nat.zero_le _, Nat.zero_le _⟩ (fun H locs hw => ?_)
      replace hB := hB.2
      refine lv_iload hx hb dX6_isWord_55 (lv_at hl 0 rfl) ?_
      refine lv_icmp_eq (tgt := 62) hx hb dX6_isWord_57 (by decide) (fun hc => ?_) (fun hc => ?_)
      · replace hB := hB.1 hc
        refine lv_iinc (v := (v4 + (1 : Int32))) (lv' := [(4, .int (v4 + (1 : Int32))), (5, .int s0), (0, .ref (q 2)), (1, .int a1), (2, .int a2), (3, .int a3)]) hx hb dX6_isWord_62 hl (k := 5) rfl rfl (by decide) rfl (fun ls hl => ?_)
        refine lv_goto (tgt := 3) hx hb dX6_isWord_65 (by decide) ?_
        exact hB _ _ _ hw (lv_sub hl [2, 3, 4, 5, 0] rfl)
      · replace hB := hB.2 hc
        refine lv_iconst (v := (0 : Int32)) hx hb dX6_isWord_60 (by decide) ?_
        exact xr_zret X hw hr hk hB dX6_isWord_61)
  unfold xb_X6_isWord_e at hB
  refine lv_iconst (v := (0 : Int32)) hx hb dX6_isWord_0 (by decide) ?_
  refine lv_istore (lv' := [(4, .int (0 : Int32)), (0, .ref (q 2)), (1, .int a1), (2, .int a2), (3, .int a3)]) hx hb dX6_isWord_1 hl (by decide) rfl (fun ls hl => ?_)
  exact hB _ _ _ hw (lv_sub hl [1, 2, 3, 4, 0] rfl)
theorem xm_X6_isWord : xr_MW yX6_isWord cX6_isWord 6 (some .boolean) 3 := ⟨xt_2_214, xt_1_5, by decide, by decide, by decide +kernel⟩
set_option maxRecDepth 100000 in
set_option maxHeartbeats 4000000 in
theorem xc_X6_wordKind (l : Launch) (D : va_G) (cy : Nat → ClassId) (q : Nat → Nat) (ak av : Nat) (σ : xw_M) (a1 : Int32) (a2 : Int32) {Z : Int32 → xw_M → Prop} (hU : xu_X6_wordKind σ a1 a2 Z) : xs_CI l yX6_wordKind cX6_wordKind 4 .int { frames := 5, cells := 0, slots := 0, locals := 115 } D cy xl_A q ak av σ [.ref (q 2), .int a1, .int a2] Z := by
  refine xs_CI.of RX6 rfl (by decide) (Nat.le_of_ble_eq_true rfl) (fun p e s m below meth c X hG hw hr hk ls hl => ?_)
  have hx := X.1
  have hb := X.2.1
  have hG2 := hG
  obtain ⟨g1, g2, g3, g4, g5, g6, g7⟩ := hG2
  have hl : lv_has ls 4 [(0, .ref (q 2)), (1, .int a1), (2, .int a2)] := hl
  have hB := hU (fun (σ : xw_M) (v3 : Int32) => ∀ (H : Heap) (locs : List Loc) (ls : Array Slot), xr_H D cy xl_A q s σ H locs → lv_has ls 4 [(0, .ref (q 2)), (1, .int a1), (2, .int a2), (3, .int v3)] → W p l e ({ frames := 5, cells := 0, slots := 0, locals := 115 } : Room) s m ([.ref (q 2), .int a1, .int a2] : List Value).toArray below meth c H locs 0 0 (MQ below (va_Qi Z (xr_po D cy xl_A q) (xw_A xl_A q s.heap.size)) ([.ref (q 2), .int a1, .int a2] : List Value).toArray s 0 0 (xw_A xl_A q s.heap.size)) (F0 m 2 ls []))
    (by
    intro σ v3 hB H locs ls hw hl
    unfold xb_X6_wordKind_2 at hB
    refine lv_iload_n hx hb dX6_wordKind_2 rfl (lv_at hl 3 rfl) ?_
    refine lv_bipush (v := (8 : Int32)) hx hb dX6_wordKind_3 (by decide) ?_
    refine lv_imul hx hb dX6_wordKind_5 ?_
    refine lv_bipush (v := (8 : Int32)) hx hb dX6_wordKind_6 (by decide) ?_
    refine lv_iadd hx hb dX6_wordKind_8 ?_
    refine va_ldcS hx hb X.2.2.2.1 g7 dX6_wordKind_9 ?_
    refine xs_len X hG hw (rest := [.int ((v3 * (8 : Int32)) + (8 : Int32))]) hl.1 ⟨Nat.le_of_ble_eq_true rfl, Nat.le_of_ble_eq_true rfl⟩ (Nat.le_of_ble_eq_true rfl) dX6_wordKind_11 ⟨Nat.zero_le _, Nat.zero_le _⟩ (fun H locs hw => ?_)
    refine lv_icmp_gt (tgt := 44) hx hb dX6_wordKind_14 (by decide) (fun hc => ?_) (fun hc => ?_)
    · replace hB := hB.1 hc
      refine lv_bipush (v := (28 : Int32)) hx hb dX6_wordKind_44 (by decide) ?_
      exact xr_iret X hw hr hk hB dX6_wordKind_46
    · replace hB := hB.2 hc
      refine lv_iload_n hx hb dX6_wordKind_17 rfl (lv_at hl 2 rfl) ?_
      refine lv_bipush (v := (8 : Int32)) hx hb dX6_wordKind_18 (by decide) ?_
      refine lv_icmp_gt (tgt := 38) hx hb dX6_wordKind_20 (by decide) (fun hc => ?_) (fun hc => ?_)
      · replace hB := hB.1 hc
        refine lv_iinc (v := (v3 + (1 : Int32))) (lv' := [(3, .int (v3 + (1 : Int32))), (0, .ref (q 2)), (1, .int a1), (2, .int a2)]) hx hb dX6_wordKind_38 hl (k := 3) rfl rfl (by decide) rfl (fun ls hl => ?_)
        refine lv_goto (tgt := 2) hx hb dX6_wordKind_41 (by decide) ?_
        exact hB _ _ _ hw (lv_sub hl [1, 2, 3, 0] rfl)
      · replace hB := hB.2 hc
        refine lv_aload_n hx hb dX6_wordKind_23 rfl (lv_at hl 0 rfl) ?_
        refine lv_iload_n hx hb dX6_wordKind_24 rfl (lv_at hl 3 rfl) ?_
        refine lv_bipush (v := (8 : Int32)) hx hb dX6_wordKind_25 (by decide) ?_
        refine lv_imul hx hb dX6_wordKind_27 ?_
        refine lv_iload_n hx hb dX6_wordKind_28 rfl (lv_at hl 1 rfl) ?_
        refine lv_iload_n hx hb dX6_wordKind_29 rfl (lv_at hl 2 rfl) ?_
        refine xr_i hw (xs_runV (As := [.int (v3 * (8 : Int32)), .int a1, .int a2]) (rest := []) X hG hw (xc_X6_isWord l D cy q ak av σ (v3 * (8 : Int32)) a1 a2 hB _) xm_X6_isWord xt_2_211 xt_2_213 xt_p_4 ⟨Nat.le_of_ble_eq_true rfl, Nat.le_of_ble_eq_true rfl⟩ (xs_recL X hw xl_A_Scanner_at rfl rfl) rfl rfl hl.1 (Nat.le_of_ble_eq_true rfl) dX6_wordKind_30 ⟨Nat.zero_le _, Nat.zero_le _⟩) (fun r2 σ1 H locs hB hw => ?_)
        refine lv_if_eq (tgt := 38) hx hb dX6_wordKind_33 (by decide) (fun hc => ?_) (fun hc => ?_)
        · replace hB := hB.1 hc
          refine lv_iinc (v := (v3 + (1 : Int32))) (lv' := [(3, .int (v3 + (1 : Int32))), (0, .ref (q 2)), (1, .int a1), (2, .int a2)]) hx hb dX6_wordKind_38 hl (k := 3) rfl rfl (by decide) rfl (fun ls hl => ?_)
          refine lv_goto (tgt := 2) hx hb dX6_wordKind_41 (by decide) ?_
          exact hB _ _ _ hw (lv_sub hl [1, 2, 3, 0] rfl)
        · replace hB := hB.2 hc
          refine lv_iload_n hx hb dX6_wordKind_36 rfl (lv_at hl 3 rfl) ?_
          exact xr_iret X hw hr hk hB dX6_wordKind_37)
  unfold xb_X6_wordKind_e at hB
  refine lv_iconst (v := (0 : Int32)) hx hb dX6_wordKind_0 (by decide) ?_
  refine lv_istore_n (lv' := [(3, .int (0 : Int32)), (0, .ref (q 2)), (1, .int a1), (2, .int a2)]) hx hb dX6_wordKind_1 rfl hl (by decide) rfl (fun ls hl => ?_)
  exact hB _ _ _ hw (lv_sub hl [1, 2, 3, 0] rfl)
theorem xm_X6_signKind : xr_MW yX6_signKind cX6_signKind 1 (some .int) 1 := ⟨xt_3_18, xt_1_5, by decide, by decide, by decide +kernel⟩
theorem xm_X6_longSignKind : xr_MW yX6_longSignKind cX6_longSignKind 1 (some .int) 1 := ⟨xt_3_15, xt_1_5, by decide, by decide, by decide +kernel⟩
theorem xm_X6_wordKind : xr_MW yX6_wordKind cX6_wordKind 4 (some .int) 2 := ⟨xt_2_199, xt_1_5, by decide, by decide, by decide +kernel⟩
set_option maxRecDepth 100000 in
set_option maxHeartbeats 4000000 in
theorem xc_X6_kindOf (l : Launch) (D : va_G) (cy : Nat → ClassId) (q : Nat → Nat) (ak av : Nat) (σ : xw_M) (a1 : Int32) (a2 : Int32) {Z : Int32 → xw_M → Prop} (hU : xu_X6_kindOf σ a1 a2 Z) : xs_CI l yX6_kindOf cX6_kindOf 5 .int { frames := 6, cells := 0, slots := 0, locals := 138 } D cy xl_A q ak av σ [.ref (q 2), .int a1, .int a2] Z := by
  refine xs_CI.of RX6 rfl (by decide) (Nat.le_of_ble_eq_true rfl) (fun p e s m below meth c X hG hw hr hk ls hl => ?_)
  have hx := X.1
  have hb := X.2.1
  have hG2 := hG
  obtain ⟨g1, g2, g3, g4, g5, g6, g7⟩ := hG2
  have hl : lv_has ls 5 [(0, .ref (q 2)), (1, .int a1), (2, .int a2)] := hl
  unfold xu_X6_kindOf at hU
  have hB := hU
  refine lv_iload_n hx hb dX6_kindOf_0 rfl (lv_at hl 1 rfl) ?_
  refine lv_aload_n hx hb dX6_kindOf_1 rfl (lv_at hl 0 rfl) ?_
  refine xr_getr X hw (xf_X6_25 X) 2 xl_A_Scanner_at rfl dX6_kindOf_2 ?_
  refine xr_geti X hw (xf_X6_43 X) 1 xl_A_Tape_at rfl dX6_kindOf_5 ?_
  refine lv_icmp_lt (tgt := 14) hx hb dX6_kindOf_8 (by decide) (fun hc => ?_) (fun hc => ?_)
  · replace hB := hB.1 hc
    refine lv_aload_n hx hb dX6_kindOf_14 rfl (lv_at hl 0 rfl) ?_
    refine xr_getr X hw (xf_X6_25 X) 2 xl_A_Scanner_at rfl dX6_kindOf_15 ?_
    refine lv_iload_n hx hb dX6_kindOf_18 rfl (lv_at hl 1 rfl) ?_
    refine xr_i hw (xr_runV (As := [.int a1]) (rest := []) X hw 1 (xc_X8_at l D cy q σ a1 hB _) xm_X8_at xt_2_181 xt_2_182 xt_2_183 ⟨Nat.le_of_ble_eq_true rfl, Nat.le_of_ble_eq_true rfl⟩ xl_A_Tape_at rfl rfl rfl rfl hl.1 (Nat.le_of_ble_eq_true rfl) dX6_kindOf_19 ⟨Nat.zero_le _, Nat.zero_le _⟩) (fun r2 σ1 H locs hB hw => ?_)
    refine lv_istore_n (lv' := [(3, .int r2), (0, .ref (q 2)), (1, .int a1), (2, .int a2)]) hx hb dX6_kindOf_22 rfl hl (by decide) rfl (fun ls hl => ?_)
    refine lv_iload_n hx hb dX6_kindOf_23 rfl (lv_at hl 0 rfl) ?_
    refine xr_i hw (xr_runS (As := [.int r2]) (rest := []) X hw (xc_X6_sortOf l D cy q σ1 r2 hB _) xm_X6_sortOf xt_2_185 xt_2_186 ⟨Nat.le_of_ble_eq_true rfl, Nat.le_of_ble_eq_true rfl⟩ rfl rfl hl.1 (Nat.le_of_ble_eq_true rfl) dX6_kindOf_24 ⟨Nat.zero_le _, Nat.zero_le _⟩) (fun r4 σ3 H locs hB hw => ?_)
    refine lv_istore (lv' := [(4, .int r4), (3, .int r2), (0, .ref (q 2)), (1, .int a1), (2, .int a2)]) hx hb dX6_kindOf_27 hl (by decide) rfl (fun ls hl => ?_)
    refine lv_iload hx hb dX6_kindOf_29 (lv_at hl 0 rfl) ?_
    refine lv_iconst (v := (1 : Int32)) hx hb dX6_kindOf_31 (by decide) ?_
    refine lv_icmp_ne (tgt := 44) hx hb dX6_kindOf_32 (by decide) (fun hc => ?_) (fun hc => ?_)
    · replace hB := hB.1 hc
      refine lv_iload hx hb dX6_kindOf_44 (lv_at hl 0 rfl) ?_
      refine lv_iconst (v := (2 : Int32)) hx hb dX6_kindOf_46 (by decide) ?_
      refine lv_icmp_ne (tgt := 65) hx hb dX6_kindOf_47 (by decide) (fun hc => ?_) (fun hc => ?_)
      · replace hB := hB.1 hc
        refine lv_iload_n hx hb dX6_kindOf_65 rfl (lv_at hl 4 rfl) ?_
        refine lv_iload_n hx hb dX6_kindOf_66 rfl (lv_at hl 3 rfl) ?_
        refine lv_isub hx hb dX6_kindOf_67 ?_
        refine lv_iconst (v := (2 : Int32)) hx hb dX6_kindOf_68 (by decide) ?_
        refine lv_icmp_ne (tgt := 79) hx hb dX6_kindOf_69 (by decide) (fun hc => ?_) (fun hc => ?_)
        · replace hB := hB.1 hc
          refine lv_iload_n hx hb dX6_kindOf_79 rfl (lv_at hl 1 rfl) ?_
          refine xr_i hw (xr_runS (As := [.int r2]) (rest := []) X hw (xc_X6_signKind l D cy q σ3 r2 hB _) xm_X6_signKind xt_3_16 xt_3_17 ⟨Nat.le_of_ble_eq_true rfl, Nat.le_of_ble_eq_true rfl⟩ rfl rfl hl.1 (Nat.le_of_ble_eq_true rfl) dX6_kindOf_80 ⟨Nat.zero_le _, Nat.zero_le _⟩) (fun r6 σ5 H locs hB hw => ?_)
          exact xr_iret X hw hr hk hB dX6_kindOf_83
        · replace hB := hB.2 hc
          refine lv_iload_n hx hb dX6_kindOf_72 rfl (lv_at hl 1 rfl) ?_
          refine xr_i hw (xr_runS (As := [.int r2]) (rest := []) X hw (xc_X6_longSignKind l D cy q σ3 r2 hB _) xm_X6_longSignKind xt_3_13 xt_3_14 ⟨Nat.le_of_ble_eq_true rfl, Nat.le_of_ble_eq_true rfl⟩ rfl rfl hl.1 (Nat.le_of_ble_eq_true rfl) dX6_kindOf_73 ⟨Nat.zero_le _, Nat.zero_le _⟩) (fun r8 σ7 H locs hB hw => ?_)
          refine lv_goto (tgt := 83) hx hb dX6_kindOf_76 (by decide) ?_
          exact xr_iret X hw hr hk hB dX6_kindOf_83
      · replace hB := hB.2 hc
        refine lv_iload_n hx hb dX6_kindOf_50 rfl (lv_at hl 4 rfl) ?_
        refine lv_iload_n hx hb dX6_kindOf_51 rfl (lv_at hl 3 rfl) ?_
        refine lv_isub hx hb dX6_kindOf_52 ?_
        refine lv_iconst (v := (4 : Int32)) hx hb dX6_kindOf_53 (by decide) ?_
        refine lv_icmp_gt (tgt := 62) hx hb dX6_kindOf_54 (by decide) (fun hc => ?_) (fun hc => ?_)
        · replace hB := hB.1 hc
          refine lv_bipush (v := (28 : Int32)) hx hb dX6_kindOf_62 (by decide) ?_
          exact xr_iret X hw hr hk hB dX6_kindOf_64
        · replace hB := hB.2 hc
          refine lv_bipush (v := (16 : Int32)) hx hb dX6_kindOf_57 (by decide) ?_
          refine lv_goto (tgt := 64) hx hb dX6_kindOf_59 (by decide) ?_
          exact xr_iret X hw hr hk hB dX6_kindOf_64
    · replace hB := hB.2 hc
      refine lv_aload_n hx hb dX6_kindOf_35 rfl (lv_at hl 2 rfl) ?_
      refine lv_iload_n hx hb dX6_kindOf_36 rfl (lv_at hl 3 rfl) ?_
      refine lv_iload_n hx hb dX6_kindOf_37 rfl (lv_at hl 4 rfl) ?_
      refine lv_iload_n hx hb dX6_kindOf_38 rfl (lv_at hl 3 rfl) ?_
      refine lv_isub hx hb dX6_kindOf_39 ?_
      refine xr_i hw (xs_runV (As := [.int a1, .int (a2 - a1)]) (rest := []) X hG hw (xc_X6_wordKind l D cy q ak av σ3 a1 (a2 - a1) hB _) xm_X6_wordKind xt_2_196 xt_2_198 xt_p_3 ⟨Nat.le_of_ble_eq_true rfl, Nat.le_of_ble_eq_true rfl⟩ (xs_recL X hw xl_A_Scanner_at rfl rfl) rfl rfl hl.1 (Nat.le_of_ble_eq_true rfl) dX6_kindOf_40 ⟨Nat.zero_le _, Nat.zero_le _⟩) (fun r10 σ9 H locs hB hw => ?_)
      exact xr_iret X hw hr hk hB dX6_kindOf_43
  · replace hB := hB.2 hc
    refine lv_bipush (v := (27 : Int32)) hx hb dX6_kindOf_11 (by decide) ?_
    exact xr_iret X hw hr hk hB dX6_kindOf_13
theorem xp_X6_21 {p : Program} {s : State} {m : MethodId} {args : Array Value} {c : Code} {cc : ByteArray} {nL : Nat} {D : va_G} {cy : Nat → ClassId} {lay : List xw_E} {q : Nat → Nat} (X : xr_X p s m args c cc nL RX6 D cy lay q) : xr_P args s RX6 21 6 4 := ⟨RX6, TX6, 5, tyX6, rfl, by decide, fun w h => X.2.2.2.2.1 w (xt_inX6 w h), tyX6_ok, nmX6, Or.inl (X.2.2.2.2.1 _ xt_1_107), rfl, by decide +kernel⟩
theorem xm_X6_tokenEnd : xr_MW yX6_tokenEnd cX6_tokenEnd 5 (some .int) 1 := ⟨xt_2_191, xt_1_5, by decide, by decide, by decide +kernel⟩
theorem xm_X6_kindOf : xr_MW yX6_kindOf cX6_kindOf 5 (some .int) 2 := ⟨xt_2_195, xt_1_5, by decide, by decide, by decide +kernel⟩
theorem xf_X6_9 {p : Program} {s : State} {m : MethodId} {args : Array Value} {c : Code} {cc : ByteArray} {nL : Nat} {D : va_G} {cy : Nat → ClassId} {lay : List xw_E} {q : Nat → Nat} (X : xr_X p s m args c cc nL RX6 D cy lay q) : xr_F args s RX6 9 6 1 := ⟨RX6, TX6, 5, tyX6, rfl, by decide, fun w h => X.2.2.2.2.1 w (xt_inX6 w h), tyX6_ok, nmX6, Or.inl (X.2.2.2.2.1 _ xt_1_101)⟩
theorem xf_X6_15 {p : Program} {s : State} {m : MethodId} {args : Array Value} {c : Code} {cc : ByteArray} {nL : Nat} {D : va_G} {cy : Nat → ClassId} {lay : List xw_E} {q : Nat → Nat} (X : xr_X p s m args c cc nL RX6 D cy lay q) : xr_F args s RX6 15 6 2 := ⟨RX6, TX6, 5, tyX6, rfl, by decide, fun w h => X.2.2.2.2.1 w (xt_inX6 w h), tyX6_ok, nmX6, Or.inl (X.2.2.2.2.1 _ xt_1_103)⟩
theorem xf_X6_18 {p : Program} {s : State} {m : MethodId} {args : Array Value} {c : Code} {cc : ByteArray} {nL : Nat} {D : va_G} {cy : Nat → ClassId} {lay : List xw_E} {q : Nat → Nat} (X : xr_X p s m args c cc nL RX6 D cy lay q) : xr_F args s RX6 18 6 3 := ⟨RX6, TX6, 5, tyX6, rfl, by decide, fun w h => X.2.2.2.2.1 w (xt_inX6 w h), tyX6_ok, nmX6, Or.inl (X.2.2.2.2.1 _ xt_1_105)⟩
theorem xm_X6_numberAt : xr_MW yX6_numberAt cX6_numberAt 5 (some .int) 2 := ⟨xt_3_22, xt_1_5, by decide, by decide, by decide +kernel⟩
set_option maxRecDepth 100000 in
set_option maxHeartbeats 4000000 in
theorem xc_X6_split (l : Launch) (D : va_G) (cy : Nat → ClassId) (q : Nat → Nat) (ak av : Nat) (σ : xw_M)  {Z : xw_M → Prop} (hU : xu_X6_split σ Z) : xs_CV l yX6_split cX6_split 6 { frames := 7, cells := 0, slots := 0, locals := 162 } D cy xl_A q ak av σ [.ref (q 2)] Z := by
  refine xs_CV.of RX6 rfl (by decide) (Nat.le_of_ble_eq_true rfl) (fun p e s m below meth c X hG hw hr hk ls hl => ?_)
  have hx := X.1
  have hb := X.2.1
  have hG2 := hG
  obtain ⟨g1, g2, g3, g4, g5, g6, g7⟩ := hG2
  have hl : lv_has ls 6 [(0, .ref (q 2))] := hl
  have hB := hU (fun (σ : xw_M) (v1 : Int32) (v2 : Int32) (v3 : Int32) => ∀ (H : Heap) (locs : List Loc) (ls : Array Slot), xr_H D cy xl_A q s σ H locs → lv_has ls 6 [(0, .ref (q 2)), (1, .int v1), (2, .int v2), (3, .int v3)] → W p l e ({ frames := 7, cells := 0, slots := 0, locals := 162 } : Room) s m ([.ref (q 2)] : List Value).toArray below meth c H locs 0 0 (MQ below (va_Qv Z (xr_po D cy xl_A q) (xw_A xl_A q s.heap.size)) ([.ref (q 2)] : List Value).toArray s 0 0 (xw_A xl_A q s.heap.size)) (F0 m 11 ls []))
    (fun (σ : xw_M) (s0 : Int32) (s1 : Int32) (v3 : Int32) (v4 : Int32) (v5 : Int32) => ∀ (H : Heap) (locs : List Loc) (ls : Array Slot), xr_H D cy xl_A q s σ H locs → lv_has ls 6 [(0, .ref (q 2)), (3, .int v3), (4, .int v4), (5, .int v5)] → W p l e ({ frames := 7, cells := 0, slots := 0, locals := 162 } : Room) s m ([.ref (q 2)] : List Value).toArray below meth c H locs 0 0 (MQ below (va_Qv Z (xr_po D cy xl_A q) (xw_A xl_A q s.heap.size)) ([.ref (q 2)] : List Value).toArray s 0 0 (xw_A xl_A q s.heap.size)) (F0 m 83 ls [.int s1, .int s0, .ref (q 27)]))
    (by
    intro σ v1 v2 v3 hB H locs ls hw hl
    unfold xb_X6_split_11 at hB
    refine lv_iload_n hx hb dX6_split_11 rfl (lv_at hl 3 rfl) ?_
    refine lv_sipush (v := (400 : Int32)) hx hb dX6_split_12 (by decide) ?_
    refine lv_icmp_gt (tgt := 120) hx hb dX6_split_15 (by decide) (fun hc => ?_) (fun hc => ?_)
    · replace hB := hB.1 hc
      exact xr_vret X hw hr hk hB dX6_split_120
    · replace hB := hB.2 hc
      refine lv_iload_n hx hb dX6_split_18 rfl (lv_at hl 2 rfl) ?_
      refine lv_if_eq (tgt := 120) hx hb dX6_split_19 (by decide) (fun hc => ?_) (fun hc => ?_)
      · replace hB := hB.1 hc
        exact xr_vret X hw hr hk hB dX6_split_120
      · replace hB := hB.2 hc
        refine lv_aload_n hx hb dX6_split_22 rfl (lv_at hl 0 rfl) ?_
        refine lv_iload_n hx hb dX6_split_23 rfl (lv_at hl 1 rfl) ?_
        refine lv_iconst (v := (0 : Int32)) hx hb dX6_split_24 (by decide) ?_
        refine xr_i hw (xr_runV (As := [.int v1, .int (0 : Int32)]) (rest := []) X hw 2 (xc_X6_pastRun l D cy q σ v1 (0 : Int32) hB _) xm_X6_pastRun xt_2_177 xt_2_179 xt_p_0 ⟨Nat.le_of_ble_eq_true rfl, Nat.le_of_ble_eq_true rfl⟩ xl_A_Scanner_at rfl rfl rfl rfl hl.1 (Nat.le_of_ble_eq_true rfl) dX6_split_25 ⟨Nat.zero_le _, Nat.zero_le _⟩) (fun r3 σ2 H locs hB hw => ?_)
        refine lv_istore_n (lv' := [(1, .int r3), (0, .ref (q 2)), (2, .int v2), (3, .int v3)]) hx hb dX6_split_28 rfl hl (by decide) rfl (fun ls hl => ?_)
        refine lv_aload_n hx hb dX6_split_29 rfl (lv_at hl 1 rfl) ?_
        refine lv_iload_n hx hb dX6_split_30 rfl (lv_at hl 0 rfl) ?_
        refine xr_i hw (xr_runV (As := [.int r3]) (rest := []) X hw 2 (xc_X6_tokenEnd l D cy q σ2 r3 hB _) xm_X6_tokenEnd xt_2_188 xt_2_190 xt_p_1 ⟨Nat.le_of_ble_eq_true rfl, Nat.le_of_ble_eq_true rfl⟩ xl_A_Scanner_at rfl rfl rfl rfl hl.1 (Nat.le_of_ble_eq_true rfl) dX6_split_31 ⟨Nat.zero_le _, Nat.zero_le _⟩) (fun r5 σ4 H locs hB hw => ?_)
        refine lv_istore (lv' := [(4, .int r5), (1, .int r3), (0, .ref (q 2)), (2, .int v2), (3, .int v3)]) hx hb dX6_split_34 hl (by decide) rfl (fun ls hl => ?_)
        refine lv_aload_n hx hb dX6_split_36 rfl (lv_at hl 2 rfl) ?_
        refine lv_iload_n hx hb dX6_split_37 rfl (lv_at hl 1 rfl) ?_
        refine lv_iload hx hb dX6_split_38 (lv_at hl 0 rfl) ?_
        refine xr_i hw (xs_runV (As := [.int r3, .int r5]) (rest := []) X hG hw (xc_X6_kindOf l D cy q ak av σ4 r3 r5 hB _) xm_X6_kindOf xt_2_192 xt_2_194 xt_p_2 ⟨Nat.le_of_ble_eq_true rfl, Nat.le_of_ble_eq_true rfl⟩ (xs_recL X hw xl_A_Scanner_at rfl rfl) rfl rfl hl.1 (Nat.le_of_ble_eq_true rfl) dX6_split_40 ⟨Nat.zero_le _, Nat.zero_le _⟩) (fun r7 σ6 H locs hB hw => ?_)
        refine lv_istore (lv' := [(5, .int r7), (4, .int r5), (1, .int r3), (0, .ref (q 2)), (2, .int v2), (3, .int v3)]) hx hb dX6_split_43 hl (by decide) rfl (fun ls hl => ?_)
        refine lv_aload_n hx hb dX6_split_45 rfl (lv_at hl 3 rfl) ?_
        refine xr_getr X hw (xf_X6_9 X) 2 xl_A_Scanner_at rfl dX6_split_46 ?_
        refine lv_iload_n hx hb dX6_split_49 rfl (lv_at hl 5 rfl) ?_
        refine lv_iload hx hb dX6_split_50 (lv_at hl 0 rfl) ?_
        refine xr_iast X hw 25 xl_A_Scanner_kinds_at hB.1 dX6_split_52 hB.2 (fun σ8 H locs hB hw => ?_)
        refine lv_aload_n hx hb dX6_split_53 rfl (lv_at hl 3 rfl) ?_
        refine xr_getr X hw (xf_X6_15 X) 2 xl_A_Scanner_at rfl dX6_split_54 ?_
        refine lv_iload_n hx hb dX6_split_57 rfl (lv_at hl 5 rfl) ?_
        refine lv_iload_n hx hb dX6_split_58 rfl (lv_at hl 2 rfl) ?_
        refine xr_iast X hw 26 xl_A_Scanner_places_at hB.1 dX6_split_59 hB.2 (fun σ9 H locs hB hw => ?_)
        refine lv_aload_n hx hb dX6_split_60 rfl (lv_at hl 3 rfl) ?_
        refine xr_getr X hw (xf_X6_18 X) 2 xl_A_Scanner_at rfl dX6_split_61 ?_
        refine lv_iload_n hx hb dX6_split_64 rfl (lv_at hl 5 rfl) ?_
        refine lv_iload hx hb dX6_split_65 (lv_at hl 0 rfl) ?_
        refine lv_bipush (v := (16 : Int32)) hx hb dX6_split_67 (by decide) ?_
        refine lv_icmp_ne (tgt := 82) hx hb dX6_split_69 (by decide) (fun hc => ?_) (fun hc => ?_)
        · replace hB := hB.1 hc
          refine lv_iconst (v := (0 : Int32)) hx hb dX6_split_82 (by decide) ?_
          exact hB _ _ _ hw (lv_sub hl [3, 5, 1, 0] rfl)
        · replace hB := hB.2 hc
          refine lv_aload_n hx hb dX6_split_72 rfl (lv_at hl 3 rfl) ?_
          refine lv_iload_n hx hb dX6_split_73 rfl (lv_at hl 2 rfl) ?_
          refine lv_iload hx hb dX6_split_74 (lv_at hl 1 rfl) ?_
          refine xr_i hw (xr_runV (As := [.int r3, .int r5]) (rest := [.int v3, .ref (q 27)]) X hw 2 (xc_X6_numberAt l D cy q σ9 r3 r5 hB _) xm_X6_numberAt xt_3_19 xt_3_21 xt_p_5 ⟨Nat.le_of_ble_eq_true rfl, Nat.le_of_ble_eq_true rfl⟩ xl_A_Scanner_at rfl rfl rfl rfl hl.1 (Nat.le_of_ble_eq_true rfl) dX6_split_76 ⟨Nat.zero_le _, Nat.zero_le _⟩) (fun r11 σ10 H locs hB hw => ?_)
          refine lv_goto (tgt := 83) hx hb dX6_split_79 (by decide) ?_
          exact hB _ _ _ hw (lv_sub hl [3, 5, 1, 0] rfl))
    (by
    intro σ s0 s1 v3 v4 v5 hB H locs ls hw hl
    unfold xb_X6_split_83 at hB
    refine xr_iast X hw 27 xl_A_Scanner_values_at hB.1 dX6_split_83 hB.2 (fun σ12 H locs hB hw => ?_)
    refine lv_aload_n hx hb dX6_split_84 rfl (lv_at hl 0 rfl) ?_
    refine lv_iload_n hx hb dX6_split_85 rfl (lv_at hl 1 rfl) ?_
    refine lv_iconst (v := (1 : Int32)) hx hb dX6_split_86 (by decide) ?_
    refine lv_iadd hx hb dX6_split_87 ?_
    refine xr_puti X hw (xp_X6_21 X) 2 xl_A_Scanner_at rfl dX6_split_88 hB (fun σ13 H locs hB hw => ?_)
    refine lv_iload hx hb dX6_split_91 (lv_at hl 2 rfl) ?_
    refine lv_istore_n (lv' := [(1, .int v4), (0, .ref (q 2)), (3, .int v3), (4, .int v4), (5, .int v5)]) hx hb dX6_split_93 rfl hl (by decide) rfl (fun ls hl => ?_)
    refine lv_iload hx hb dX6_split_94 (lv_at hl 4 rfl) ?_
    refine lv_bipush (v := (27 : Int32)) hx hb dX6_split_96 (by decide) ?_
    refine lv_icmp_eq (tgt := 112) hx hb dX6_split_98 (by decide) (fun hc => ?_) (fun hc => ?_)
    · replace hB := hB.1 hc
      refine lv_iconst (v := (0 : Int32)) hx hb dX6_split_112 (by decide) ?_
      refine lv_istore_n (lv' := [(2, .int (0 : Int32)), (1, .int v4), (0, .ref (q 2)), (3, .int v3), (4, .int v4), (5, .int v5)]) hx hb dX6_split_113 rfl hl (by decide) rfl (fun ls hl => ?_)
      refine lv_iinc (v := (v3 + (1 : Int32))) (lv' := [(3, .int (v3 + (1 : Int32))), (2, .int (0 : Int32)), (1, .int v4), (0, .ref (q 2)), (4, .int v4), (5, .int v5)]) hx hb dX6_split_114 hl (k := 3) rfl rfl (by decide) rfl (fun ls hl => ?_)
      refine lv_goto (tgt := 11) hx hb dX6_split_117 (by decide) ?_
      exact hB _ _ _ hw (lv_sub hl [3, 2, 1, 0] rfl)
    · replace hB := hB.2 hc
      refine lv_iload hx hb dX6_split_101 (lv_at hl 4 rfl) ?_
      refine lv_bipush (v := (28 : Int32)) hx hb dX6_split_103 (by decide) ?_
      refine lv_icmp_eq (tgt := 112) hx hb dX6_split_105 (by decide) (fun hc => ?_) (fun hc => ?_)
      · replace hB := hB.1 hc
        refine lv_iconst (v := (0 : Int32)) hx hb dX6_split_112 (by decide) ?_
        refine lv_istore_n (lv' := [(2, .int (0 : Int32)), (1, .int v4), (0, .ref (q 2)), (3, .int v3), (4, .int v4), (5, .int v5)]) hx hb dX6_split_113 rfl hl (by decide) rfl (fun ls hl => ?_)
        refine lv_iinc (v := (v3 + (1 : Int32))) (lv' := [(3, .int (v3 + (1 : Int32))), (2, .int (0 : Int32)), (1, .int v4), (0, .ref (q 2)), (4, .int v4), (5, .int v5)]) hx hb dX6_split_114 hl (k := 3) rfl rfl (by decide) rfl (fun ls hl => ?_)
        refine lv_goto (tgt := 11) hx hb dX6_split_117 (by decide) ?_
        exact hB _ _ _ hw (lv_sub hl [3, 2, 1, 0] rfl)
      · replace hB := hB.2 hc
        refine lv_iconst (v := (1 : Int32)) hx hb dX6_split_108 (by decide) ?_
        refine lv_goto (tgt := 113) hx hb dX6_split_109 (by decide) ?_
        refine lv_istore_n (lv' := [(2, .int (1 : Int32)), (1, .int v4), (0, .ref (q 2)), (3, .int v3), (4, .int v4), (5, .int v5)]) hx hb dX6_split_113 rfl hl (by decide) rfl (fun ls hl => ?_)
        refine lv_iinc (v := (v3 + (1 : Int32))) (lv' := [(3, .int (v3 + (1 : Int32))), (2, .int (1 : Int32)), (1, .int v4), (0, .ref (q 2)), (4, .int v4), (5, .int v5)]) hx hb dX6_split_114 hl (k := 3) rfl rfl (by decide) rfl (fun ls hl => ?_)
        refine lv_goto (tgt := 11) hx hb dX6_split_117 (by decide) ?_
        exact hB _ _ _ hw (lv_sub hl [3, 2, 1, 0] rfl))
  unfold xb_X6_split_e at hB
  refine lv_iconst (v := (0 : Int32)) hx hb dX6_split_0 (by decide) ?_
  refine lv_istore_n (lv' := [(1, .int (0 : Int32)), (0, .ref (q 2))]) hx hb dX6_split_1 rfl hl (by decide) rfl (fun ls hl => ?_)
  refine lv_iconst (v := (1 : Int32)) hx hb dX6_split_2 (by decide) ?_
  refine lv_istore_n (lv' := [(2, .int (1 : Int32)), (1, .int (0 : Int32)), (0, .ref (q 2))]) hx hb dX6_split_3 rfl hl (by decide) rfl (fun ls hl => ?_)
  refine lv_aload_n hx hb dX6_split_4 rfl (lv_at hl 2 rfl) ?_
  refine lv_iconst (v := (0 : Int32)) hx hb dX6_split_5 (by decide) ?_
  refine xr_puti X hw (xp_X6_21 X) 2 xl_A_Scanner_at rfl dX6_split_6 hB (fun σ1 H locs hB hw => ?_)
  refine lv_iconst (v := (0 : Int32)) hx hb dX6_split_9 (by decide) ?_
  refine lv_istore_n (lv' := [(3, .int (0 : Int32)), (2, .int (1 : Int32)), (1, .int (0 : Int32)), (0, .ref (q 2))]) hx hb dX6_split_10 rfl hl (by decide) rfl (fun ls hl => ?_)
  exact hB _ _ _ hw (lv_sub hl [3, 2, 1, 0] rfl)
theorem xm_X9_clear : xr_MW yX9_clear cX9_clear 1 none 0 := ⟨xt_2_172, xt_1_3, by decide, by decide, by decide +kernel⟩
theorem xm_X6_split : xr_MW yX6_split cX6_split 6 none 0 := ⟨xt_2_176, xt_1_5, by decide, by decide, by decide +kernel⟩
theorem xm_X3_parseRule : xr_MW yX3_parseRule cX3_parseRule 6 none 0 := ⟨xt_3_30, xt_1_4, by decide, by decide, by decide +kernel⟩
set_option maxRecDepth 100000 in
set_option maxHeartbeats 4000000 in
theorem xc_X3_parse (l : Launch) (D : va_G) (cy : Nat → ClassId) (q : Nat → Nat) (ak av : Nat) (σ : xw_M)  {Z : xw_M → Prop} (hU : xu_X3_parse σ Z) : xs_CV l yX3_parse cX3_parse 2 { frames := 66, cells := 0, slots := 0, locals := 1524 } D cy xl_A q ak av σ [.ref (q 3)] Z := by
  refine xs_CV.of RX3 rfl (by decide) (Nat.le_of_ble_eq_true rfl) (fun p e s m below meth c X hG hw hr hk ls hl => ?_)
  have hx := X.1
  have hb := X.2.1
  have hG2 := hG
  obtain ⟨g1, g2, g3, g4, g5, g6, g7⟩ := hG2
  have hl : lv_has ls 2 [(0, .ref (q 3))] := hl
  have hB := hU (fun (σ : xw_M) (v1 : Int32) => ∀ (H : Heap) (locs : List Loc) (ls : Array Slot), xr_H D cy xl_A q s σ H locs → lv_has ls 2 [(0, .ref (q 3)), (1, .int v1)] → W p l e ({ frames := 66, cells := 0, slots := 0, locals := 1524 } : Room) s m ([.ref (q 3)] : List Value).toArray below meth c H locs 0 0 (MQ below (va_Qv Z (xr_po D cy xl_A q) (xw_A xl_A q s.heap.size)) ([.ref (q 3)] : List Value).toArray s 0 0 (xw_A xl_A q s.heap.size)) (F0 m 31 ls []))
    (by
    intro σ v1 hB H locs ls hw hl
    unfold xb_X3_parse_31 at hB
    refine lv_iload_n hx hb dX3_parse_31 rfl (lv_at hl 1 rfl) ?_
    refine lv_bipush (v := (16 : Int32)) hx hb dX3_parse_32 (by decide) ?_
    refine lv_icmp_gt (tgt := 63) hx hb dX3_parse_34 (by decide) (fun hc => ?_) (fun hc => ?_)
    · replace hB := hB.1 hc
      exact xr_vret X hw hr hk hB dX3_parse_63
    · replace hB := hB.2 hc
      refine lv_aload_n hx hb dX3_parse_37 rfl (lv_at hl 0 rfl) ?_
      refine xr_geti X hw (xf_X3_15 X) 3 xl_A_Parser_at rfl dX3_parse_38 ?_
      refine lv_if_ne (tgt := 63) hx hb dX3_parse_41 (by decide) (fun hc => ?_) (fun hc => ?_)
      · replace hB := hB.1 hc
        exact xr_vret X hw hr hk hB dX3_parse_63
      · replace hB := hB.2 hc
        refine lv_aload_n hx hb dX3_parse_44 rfl (lv_at hl 0 rfl) ?_
        refine xr_i hw (xr_runV (As := []) (rest := []) X hw 3 (xc_X3_seen l D cy q σ hB _) xm_X3_seen xt_3_23 xt_3_25 xt_p_6 ⟨Nat.le_of_ble_eq_true rfl, Nat.le_of_ble_eq_true rfl⟩ xl_A_Parser_at rfl rfl rfl rfl hl.1 (Nat.le_of_ble_eq_true rfl) dX3_parse_45 ⟨Nat.zero_le _, Nat.zero_le _⟩) (fun r7 σ6 H locs hB hw => ?_)
        refine lv_bipush (v := (27 : Int32)) hx hb dX3_parse_48 (by decide) ?_
        refine lv_icmp_eq (tgt := 63) hx hb dX3_parse_50 (by decide) (fun hc => ?_) (fun hc => ?_)
        · replace hB := hB.1 hc
          exact xr_vret X hw hr hk hB dX3_parse_63
        · replace hB := hB.2 hc
          refine lv_aload_n hx hb dX3_parse_53 rfl (lv_at hl 0 rfl) ?_
          refine xr_v hw (xr_runV (As := []) (rest := []) X hw 3 (xc_X3_parseRule l D cy q σ6 hB _) xm_X3_parseRule xt_3_27 xt_3_29 xt_p_7 ⟨Nat.le_of_ble_eq_true rfl, Nat.le_of_ble_eq_true rfl⟩ xl_A_Parser_at rfl rfl rfl rfl hl.1 (Nat.le_of_ble_eq_true rfl) dX3_parse_54 ⟨Nat.zero_le _, Nat.zero_le _⟩) (fun σ8 H locs hB hw => ?_)
          refine lv_iinc (v := (v1 + (1 : Int32))) (lv' := [(1, .int (v1 + (1 : Int32))), (0, .ref (q 3))]) hx hb dX3_parse_57 hl (k := 1) rfl rfl (by decide) rfl (fun ls hl => ?_)
          refine lv_goto (tgt := 31) hx hb dX3_parse_60 (by decide) ?_
          exact hB _ _ _ hw (lv_sub hl [1, 0] rfl))
  unfold xb_X3_parse_e at hB
  refine lv_aload_n hx hb dX3_parse_0 rfl (lv_at hl 0 rfl) ?_
  refine xr_getr X hw (xf_X3_25 X) 3 xl_A_Parser_at rfl dX3_parse_1 ?_
  refine xr_v hw (xr_runV (As := []) (rest := []) X hw 10 (xc_X9_clear l D cy q σ 1 (by decide) hB _) xm_X9_clear xt_2_169 xt_2_170 xt_2_171 ⟨Nat.le_of_ble_eq_true rfl, Nat.le_of_ble_eq_true rfl⟩ (xl_A_Text_at (i := 1) (by decide)) rfl rfl rfl rfl hl.1 (Nat.le_of_ble_eq_true rfl) dX3_parse_4 ⟨Nat.zero_le _, Nat.zero_le _⟩) (fun σ1 H locs hB hw => ?_)
  refine lv_aload_n hx hb dX3_parse_7 rfl (lv_at hl 0 rfl) ?_
  refine lv_iconst (v := (0 : Int32)) hx hb dX3_parse_8 (by decide) ?_
  refine xr_puti X hw (xp_X3_9 X) 3 xl_A_Parser_at rfl dX3_parse_9 hB (fun σ2 H locs hB hw => ?_)
  refine lv_aload_n hx hb dX3_parse_12 rfl (lv_at hl 0 rfl) ?_
  refine lv_iconst (v := (0 : Int32)) hx hb dX3_parse_13 (by decide) ?_
  refine xr_puti X hw (xp_X3_15 X) 3 xl_A_Parser_at rfl dX3_parse_14 hB (fun σ3 H locs hB hw => ?_)
  refine lv_aload_n hx hb dX3_parse_17 rfl (lv_at hl 0 rfl) ?_
  refine lv_iconst (v := (-1 : Int32)) hx hb dX3_parse_18 (by decide) ?_
  refine xr_puti X hw (xp_X3_18 X) 3 xl_A_Parser_at rfl dX3_parse_19 hB (fun σ4 H locs hB hw => ?_)
  refine lv_aload_n hx hb dX3_parse_22 rfl (lv_at hl 0 rfl) ?_
  refine xr_getr X hw (xf_X3_21 X) 3 xl_A_Parser_at rfl dX3_parse_23 ?_
  refine xr_v hw (xs_runV (As := []) (rest := []) X hG hw (xc_X6_split l D cy q ak av σ4 hB _) xm_X6_split xt_2_173 xt_2_174 xt_2_175 ⟨Nat.le_of_ble_eq_true rfl, Nat.le_of_ble_eq_true rfl⟩ (xs_recL X hw xl_A_Scanner_at rfl rfl) rfl rfl hl.1 (Nat.le_of_ble_eq_true rfl) dX3_parse_26 ⟨Nat.zero_le _, Nat.zero_le _⟩) (fun σ5 H locs hB hw => ?_)
  refine lv_iconst (v := (0 : Int32)) hx hb dX3_parse_29 (by decide) ?_
  refine lv_istore_n (lv' := [(1, .int (0 : Int32)), (0, .ref (q 3))]) hx hb dX3_parse_30 rfl hl (by decide) rfl (fun ls hl => ?_)
  exact hB _ _ _ hw (lv_sub hl [1, 0] rfl)
theorem xf_X11_33 {p : Program} {s : State} {m : MethodId} {args : Array Value} {c : Code} {cc : ByteArray} {nL : Nat} {D : va_G} {cy : Nat → ClassId} {lay : List xw_E} {q : Nat → Nat} (X : xr_X p s m args c cc nL RX11 D cy lay q) : xr_F args s RX11 33 11 2 := ⟨RX11, TX11, 12, tyX11, rfl, by decide, fun w h => X.2.2.2.2.1 w (xt_inX11 w h), tyX11_ok, nmX11, Or.inl (X.2.2.2.2.1 _ xt_2_114)⟩
theorem xm_X3_parse : xr_MW yX3_parse cX3_parse 2 none 0 := ⟨xt_2_168, xt_1_4, by decide, by decide, by decide +kernel⟩
theorem xf_X11_108 {p : Program} {s : State} {m : MethodId} {args : Array Value} {c : Code} {cc : ByteArray} {nL : Nat} {D : va_G} {cy : Nat → ClassId} {lay : List xw_E} {q : Nat → Nat} (X : xr_X p s m args c cc nL RX11 D cy lay q) : xr_F args s RX11 108 3 4 := ⟨RX3, TX3, 5, tyX3, rfl, by decide, fun w h => X.2.2.2.2.1 w (xt_inX3 w h), tyX3_ok, nmX3, Or.inr (va_Nw.use rfl (X.2.2.2.2.2.1.1 _ (List.mem_of_getElem? (i := 14) rfl)))⟩
theorem xp_X11_96 {p : Program} {s : State} {m : MethodId} {args : Array Value} {c : Code} {cc : ByteArray} {nL : Nat} {D : va_G} {cy : Nat → ClassId} {lay : List xw_E} {q : Nat → Nat} (X : xr_X p s m args c cc nL RX11 D cy lay q) : xr_P args s RX11 96 11 11 := ⟨RX11, TX11, 12, tyX11, rfl, by decide, fun w h => X.2.2.2.2.1 w (xt_inX11 w h), tyX11_ok, nmX11, Or.inl (X.2.2.2.2.1 _ xt_2_123), rfl, by decide +kernel⟩
theorem xf_X11_111 {p : Program} {s : State} {m : MethodId} {args : Array Value} {c : Code} {cc : ByteArray} {nL : Nat} {D : va_G} {cy : Nat → ClassId} {lay : List xw_E} {q : Nat → Nat} (X : xr_X p s m args c cc nL RX11 D cy lay q) : xr_F args s RX11 111 3 3 := ⟨RX3, TX3, 5, tyX3, rfl, by decide, fun w h => X.2.2.2.2.1 w (xt_inX3 w h), tyX3_ok, nmX3, Or.inr (va_Nw.use rfl (X.2.2.2.2.2.1.1 _ (List.mem_of_getElem? (i := 13) rfl)))⟩
theorem xf_X11_114 {p : Program} {s : State} {m : MethodId} {args : Array Value} {c : Code} {cc : ByteArray} {nL : Nat} {D : va_G} {cy : Nat → ClassId} {lay : List xw_E} {q : Nat → Nat} (X : xr_X p s m args c cc nL RX11 D cy lay q) : xr_F args s RX11 114 3 1 := ⟨RX3, TX3, 5, tyX3, rfl, by decide, fun w h => X.2.2.2.2.1 w (xt_inX3 w h), tyX3_ok, nmX3, Or.inr (va_Nw.use rfl (X.2.2.2.2.2.1.1 _ (List.mem_of_getElem? (i := 12) rfl)))⟩
theorem xm_X9_copyFrom : xr_MW yX9_copyFrom cX9_copyFrom 2 none 1 := ⟨xt_3_65, xt_1_3, by decide, by decide, by decide +kernel⟩
set_option maxRecDepth 100000 in
set_option maxHeartbeats 4000000 in
theorem xc_X11_read (l : Launch) (D : va_G) (cy : Nat → ClassId) (q : Nat → Nat) (ak av : Nat) (σ : xw_M)  {Z : Int32 → xw_M → Prop} (hU : xu_X11_read σ Z) : xs_CI l yX11_read cX11_read 1 .int { frames := 67, cells := 0, slots := 0, locals := 1545 } D cy xl_A q ak av σ [.ref (q 0)] Z := by
  refine xs_CI.of RX11 rfl (by decide) (Nat.le_of_ble_eq_true rfl) (fun p e s m below meth c X hG hw hr hk ls hl => ?_)
  have hx := X.1
  have hb := X.2.1
  have hG2 := hG
  obtain ⟨g1, g2, g3, g4, g5, g6, g7⟩ := hG2
  have hl : lv_has ls 1 [(0, .ref (q 0))] := hl
  unfold xu_X11_read at hU
  have hB := hU
  refine lv_aload_n hx hb dX11_read_0 rfl (lv_at hl 0 rfl) ?_
  refine xr_getr X hw (xf_X11_33 X) 0 xl_A_ShowRings_at rfl dX11_read_1 ?_
  refine xr_v hw (xs_runV (As := []) (rest := []) X hG hw (xc_X3_parse l D cy q ak av σ hB _) xm_X3_parse xt_2_165 xt_2_166 xt_2_167 ⟨Nat.le_of_ble_eq_true rfl, Nat.le_of_ble_eq_true rfl⟩ (xs_recL X hw xl_A_Parser_at rfl rfl) rfl rfl hl.1 (Nat.le_of_ble_eq_true rfl) dX11_read_4 ⟨Nat.zero_le _, Nat.zero_le _⟩) (fun σ1 H locs hB hw => ?_)
  refine lv_aload_n hx hb dX11_read_7 rfl (lv_at hl 0 rfl) ?_
  refine xr_getr X hw (xf_X11_10 X) 0 xl_A_ShowRings_at rfl dX11_read_8 ?_
  refine lv_iconst (v := (0 : Int32)) hx hb dX11_read_11 (by decide) ?_
  refine xr_puti X hw (xp_X11_99 X) 1 xl_A_Tape_at rfl dX11_read_12 hB (fun σ2 H locs hB hw => ?_)
  refine lv_aload_n hx hb dX11_read_15 rfl (lv_at hl 0 rfl) ?_
  refine lv_aload_n hx hb dX11_read_16 rfl (lv_at hl 0 rfl) ?_
  refine xr_getr X hw (xf_X11_33 X) 0 xl_A_ShowRings_at rfl dX11_read_17 ?_
  refine xr_geti X hw (xf_X11_108 X) 3 xl_A_Parser_at rfl dX11_read_20 ?_
  refine xr_puti X hw (xp_X11_96 X) 0 xl_A_ShowRings_at rfl dX11_read_23 hB (fun σ3 H locs hB hw => ?_)
  refine lv_aload_n hx hb dX11_read_26 rfl (lv_at hl 0 rfl) ?_
  refine xr_getr X hw (xf_X11_33 X) 0 xl_A_ShowRings_at rfl dX11_read_27 ?_
  refine xr_geti X hw (xf_X11_111 X) 3 xl_A_Parser_at rfl dX11_read_30 ?_
  refine lv_if_ne (tgt := 50) hx hb dX11_read_33 (by decide) (fun hc => ?_) (fun hc => ?_)
  · replace hB := hB.1 hc
    refine lv_aload_n hx hb dX11_read_50 rfl (lv_at hl 0 rfl) ?_
    refine xr_getr X hw (xf_X11_33 X) 0 xl_A_ShowRings_at rfl dX11_read_51 ?_
    refine xr_geti X hw (xf_X11_111 X) 3 xl_A_Parser_at rfl dX11_read_54 ?_
    exact xr_iret X hw hr hk hB dX11_read_57
  · replace hB := hB.2 hc
    refine lv_aload_n hx hb dX11_read_36 rfl (lv_at hl 0 rfl) ?_
    refine xr_getr X hw (xf_X11_19 X) 0 xl_A_ShowRings_at rfl dX11_read_37 ?_
    refine lv_aload_n hx hb dX11_read_40 rfl (lv_at hl 0 rfl) ?_
    refine xr_getr X hw (xf_X11_33 X) 0 xl_A_ShowRings_at rfl dX11_read_41 ?_
    refine xr_getr X hw (xf_X11_114 X) 3 xl_A_Parser_at rfl dX11_read_44 ?_
    refine xr_v hw (xr_runV (As := [.ref (q 10)]) (rest := []) X hw 9 (xc_X9_copyFrom l D cy q σ3 0 1 (by decide) (by decide) hB _) xm_X9_copyFrom xt_3_62 xt_3_63 xt_3_64 ⟨Nat.le_of_ble_eq_true rfl, Nat.le_of_ble_eq_true rfl⟩ (xl_A_Text_at (i := 0) (by decide)) rfl rfl rfl rfl hl.1 (Nat.le_of_ble_eq_true rfl) dX11_read_47 ⟨Nat.zero_le _, Nat.zero_le _⟩) (fun σ4 H locs hB hw => ?_)
    refine lv_aload_n hx hb dX11_read_50 rfl (lv_at hl 0 rfl) ?_
    refine xr_getr X hw (xf_X11_33 X) 0 xl_A_ShowRings_at rfl dX11_read_51 ?_
    refine xr_geti X hw (xf_X11_111 X) 3 xl_A_Parser_at rfl dX11_read_54 ?_
    exact xr_iret X hw hr hk hB dX11_read_57
