def xb_X12_init2_819 (K819 : xw_M → Int32 → Prop) (Z : xw_M → Prop) (σ : xw_M) (v1 : Int32) : Prop :=
  (((30 : Int32) ≤ v1 → (Z σ)) ∧ (¬ (30 : Int32) ≤ v1 → (vp_in v1 30 ∧ ∀ σ50, σ50 = xw_i σ 45 (Int32.toNatClampNeg v1) (-1 : Int32) → (K819 σ50 (v1 + (1 : Int32))))))
def xu_X12_init2 (σ : xw_M) (Z : xw_M → Prop) : Prop :=
  ∀ (K819 : xw_M → Int32 → Prop), (∀ (σ : xw_M) (v1 : Int32), xb_X12_init2_819 K819 Z σ v1 → K819 σ v1) → (xu_X12_word σ (98 : Int32) (97 : Int32) (114 : Int32) (0 : Int32) (0 : Int32) (0 : Int32) (0 : Int32) (fun r2 σ1 => (vp_in (0 : Int32) 16 ∧ ∀ σ3, σ3 = xw_l σ1 7 (Int32.toNatClampNeg (0 : Int32)) r2 → (xu_X12_word σ3 (105 : Int32) (102 : Int32) (0 : Int32) (0 : Int32) (0 : Int32) (0 : Int32) (0 : Int32) (fun r5 σ4 => (vp_in (1 : Int32) 16 ∧ ∀ σ6, σ6 = xw_l σ4 7 (Int32.toNatClampNeg (1 : Int32)) r5 → (xu_X12_word σ6 (112 : Int32) (111 : Int32) (105 : Int32) (110 : Int32) (116 : Int32) (115 : Int32) (0 : Int32) (fun r8 σ7 => (vp_in (2 : Int32) 16 ∧ ∀ σ9, σ9 = xw_l σ7 7 (Int32.toNatClampNeg (2 : Int32)) r8 → (xu_X12_word σ9 (116 : Int32) (105 : Int32) (116 : Int32) (108 : Int32) (101 : Int32) (0 : Int32) (0 : Int32) (fun r11 σ10 => (vp_in (3 : Int32) 16 ∧ ∀ σ12, σ12 = xw_l σ10 7 (Int32.toNatClampNeg (3 : Int32)) r11 → (xu_X12_word σ12 (117 : Int32) (110 : Int32) (100 : Int32) (101 : Int32) (114 : Int32) (0 : Int32) (0 : Int32) (fun r14 σ13 => (vp_in (4 : Int32) 16 ∧ ∀ σ15, σ15 = xw_l σ13 7 (Int32.toNatClampNeg (4 : Int32)) r14 → (xu_X12_word σ15 (111 : Int32) (114 : Int32) (0 : Int32) (0 : Int32) (0 : Int32) (0 : Int32) (0 : Int32) (fun r17 σ16 => (vp_in (5 : Int32) 16 ∧ ∀ σ18, σ18 = xw_l σ16 7 (Int32.toNatClampNeg (5 : Int32)) r17 → (xu_X12_word σ18 (97 : Int32) (110 : Int32) (100 : Int32) (0 : Int32) (0 : Int32) (0 : Int32) (0 : Int32) (fun r20 σ19 => (vp_in (6 : Int32) 16 ∧ ∀ σ21, σ21 = xw_l σ19 7 (Int32.toNatClampNeg (6 : Int32)) r20 → (xu_X12_word σ21 (97 : Int32) (103 : Int32) (101 : Int32) (0 : Int32) (0 : Int32) (0 : Int32) (0 : Int32) (fun r23 σ22 => (vp_in (7 : Int32) 16 ∧ ∀ σ24, σ24 = xw_l σ22 7 (Int32.toNatClampNeg (7 : Int32)) r23 → (xu_X12_word σ24 (115 : Int32) (101 : Int32) (120 : Int32) (0 : Int32) (0 : Int32) (0 : Int32) (0 : Int32) (fun r26 σ25 => (vp_in (8 : Int32) 16 ∧ ∀ σ27, σ27 = xw_l σ25 7 (Int32.toNatClampNeg (8 : Int32)) r26 → (xu_X12_word σ27 (98 : Int32) (114 : Int32) (101 : Int32) (101 : Int32) (100 : Int32) (0 : Int32) (0 : Int32) (fun r29 σ28 => (vp_in (9 : Int32) 16 ∧ ∀ σ30, σ30 = xw_l σ28 7 (Int32.toNatClampNeg (9 : Int32)) r29 → (xu_X12_word σ30 (103 : Int32) (114 : Int32) (111 : Int32) (117 : Int32) (112 : Int32) (0 : Int32) (0 : Int32) (fun r32 σ31 => (vp_in (10 : Int32) 16 ∧ ∀ σ33, σ33 = xw_l σ31 7 (Int32.toNatClampNeg (10 : Int32)) r32 → (xu_X12_word σ33 (99 : Int32) (108 : Int32) (97 : Int32) (115 : Int32) (115 : Int32) (0 : Int32) (0 : Int32) (fun r35 σ34 => (vp_in (11 : Int32) 16 ∧ ∀ σ36, σ36 = xw_l σ34 7 (Int32.toNatClampNeg (11 : Int32)) r35 → (xu_X12_word σ36 (111 : Int32) (119 : Int32) (110 : Int32) (0 : Int32) (0 : Int32) (0 : Int32) (0 : Int32) (fun r38 σ37 => (vp_in (12 : Int32) 16 ∧ ∀ σ39, σ39 = xw_l σ37 7 (Int32.toNatClampNeg (12 : Int32)) r38 → (xu_X12_word σ39 (107 : Int32) (105 : Int32) (110 : Int32) (0 : Int32) (0 : Int32) (0 : Int32) (0 : Int32) (fun r41 σ40 => (vp_in (13 : Int32) 16 ∧ ∀ σ42, σ42 = xw_l σ40 7 (Int32.toNatClampNeg (13 : Int32)) r41 → (xu_X12_word σ42 (112 : Int32) (97 : Int32) (114 : Int32) (116 : Int32) (101 : Int32) (100 : Int32) (0 : Int32) (fun r44 σ43 => (vp_in (14 : Int32) 16 ∧ ∀ σ45, σ45 = xw_l σ43 7 (Int32.toNatClampNeg (14 : Int32)) r44 → (xu_X12_word σ45 (98 : Int32) (101 : Int32) (97 : Int32) (116 : Int32) (101 : Int32) (110 : Int32) (0 : Int32) (fun r47 σ46 => (vp_in (15 : Int32) 16 ∧ ∀ σ48, σ48 = xw_l σ46 7 (Int32.toNatClampNeg (15 : Int32)) r47 → (∀ σ49, σ49 = xw_i σ48 0 41 (1 : Int32) → (K819 σ49 (0 : Int32)))))))))))))))))))))))))))))))))))))))))))))))))))
theorem xm_X12_word : xr_MW yX12_word cX12_word 7 (some .long) 7 := ⟨xt_4_169, xt_1_13, by decide, by decide, by decide +kernel⟩
set_option maxRecDepth 100000 in
set_option maxHeartbeats 4000000 in
theorem xc_X12_init2 {p : Program} {l : Launch} {e : Env} {R : Room} {s : State} {m : MethodId} {args : Array Value} {below : List Frame} {meth : Method} {c : Code} {H : Heap} {locs : List Loc} {cells slots : Nat} {Q : State → Prop} {D : va_G} {cy : Nat → ClassId} {q : Nat → Nat} {σ : xw_M} {ls : Array Slot} {Z : xw_M → Prop} (X : xr_X p s m args c cX12_init 2 RX12 D cy xl_B q) (hw : xr_H D cy xl_B q s σ H locs) (hl : lv_has ls 2 [(0, .ref (q 0))]) (hR : xr_Rm R 1 22 7) (hcs : cells ≤ R.cells ∧ slots ≤ R.slots) (hU : xu_X12_init2 σ Z)
    (kk : ∀ σ1 H1 locs1 ls1, Z σ1 → xr_H D cy xl_B q s σ1 H1 locs1 → W p l e R s m args below meth c H1 locs1 cells slots Q (F0 m 838 ls1 [])) : W p l e R s m args below meth c H locs cells slots Q (F0 m 481 ls []) := by
  have hx := X.1
  have hb := X.2.1
  have hB := hU (fun (σ : xw_M) (v1 : Int32) => ∀ (H : Heap) (locs : List Loc) (ls : Array Slot), xr_H D cy xl_B q s σ H locs → lv_has ls 2 [(0, .ref (q 0)), (1, .int v1)] → W p l e R s m args below meth c H locs cells slots Q (F0 m 819 ls []))
    (by
    intro σ v1 hB H locs ls hw hl
    unfold xb_X12_init2_819 at hB
    refine lv_iload_n hx hb dX12_init_819 rfl (lv_at hl 1 rfl) ?_
    refine lv_bipush (v := (30 : Int32)) hx hb dX12_init_820 (by decide) ?_
    refine lv_icmp_ge (tgt := 838) hx hb dX12_init_822 (by decide) (fun hc => ?_) (fun hc => ?_)
    · replace hB := hB.1 hc
      exact kk _ _ _ _ hB hw
    · replace hB := hB.2 hc
      refine lv_aload_n hx hb dX12_init_825 rfl (lv_at hl 0 rfl) ?_
      refine xr_getr X hw (xf_X12_152 X) 0 xl_B_ShowRingsModel_at rfl dX12_init_826 ?_
      refine lv_iload_n hx hb dX12_init_829 rfl (lv_at hl 1 rfl) ?_
      refine lv_iconst (v := (-1 : Int32)) hx hb dX12_init_830 (by decide) ?_
      refine xr_iast X hw 45 xl_B_ShowRingsModel_plannedJudge_at hB.1 dX12_init_831 hB.2 (fun σ50 H locs hB hw => ?_)
      refine lv_iinc (v := (v1 + (1 : Int32))) (lv' := [(1, .int (v1 + (1 : Int32))), (0, .ref (q 0))]) hx hb dX12_init_832 hl (k := 1) rfl rfl (by decide) rfl (fun ls hl => ?_)
      refine lv_goto (tgt := 819) hx hb dX12_init_835 (by decide) ?_
      exact hB _ _ _ hw (lv_sub hl [1, 0] rfl))
  refine lv_aload_n hx hb dX12_init_481 rfl (lv_at hl 0 rfl) ?_
  refine xr_getr X hw (xf_X12_34 X) 0 xl_B_ShowRingsModel_at rfl dX12_init_482 ?_
  refine lv_iconst (v := (0 : Int32)) hx hb dX12_init_485 (by decide) ?_
  refine lv_bipush (v := (98 : Int32)) hx hb dX12_init_486 (by decide) ?_
  refine lv_bipush (v := (97 : Int32)) hx hb dX12_init_488 (by decide) ?_
  refine lv_bipush (v := (114 : Int32)) hx hb dX12_init_490 (by decide) ?_
  refine lv_iconst (v := (0 : Int32)) hx hb dX12_init_492 (by decide) ?_
  refine lv_iconst (v := (0 : Int32)) hx hb dX12_init_493 (by decide) ?_
  refine lv_iconst (v := (0 : Int32)) hx hb dX12_init_494 (by decide) ?_
  refine lv_iconst (v := (0 : Int32)) hx hb dX12_init_495 (by decide) ?_
  refine xr_l hw (xr_runS (As := [.int (98 : Int32), .int (97 : Int32), .int (114 : Int32), .int (0 : Int32), .int (0 : Int32), .int (0 : Int32), .int (0 : Int32)]) (rest := [.int (0 : Int32), .ref (q 7)]) X hw (xc_X12_word l D cy q σ (98 : Int32) (97 : Int32) (114 : Int32) (0 : Int32) (0 : Int32) (0 : Int32) (0 : Int32) hB _) xm_X12_word xt_4_167 xt_4_168 hR rfl rfl hl.1 (Nat.le_of_ble_eq_true rfl) dX12_init_496 hcs) (fun r2 σ1 H locs hB hw => ?_)
  refine xr_last X hw 7 xl_B_ShowRingsModel_keys_at hB.1 dX12_init_499 hB.2 (fun σ3 H locs hB hw => ?_)
  refine lv_aload_n hx hb dX12_init_500 rfl (lv_at hl 0 rfl) ?_
  refine xr_getr X hw (xf_X12_34 X) 0 xl_B_ShowRingsModel_at rfl dX12_init_501 ?_
  refine lv_iconst (v := (1 : Int32)) hx hb dX12_init_504 (by decide) ?_
  refine lv_bipush (v := (105 : Int32)) hx hb dX12_init_505 (by decide) ?_
  refine lv_bipush (v := (102 : Int32)) hx hb dX12_init_507 (by decide) ?_
  refine lv_iconst (v := (0 : Int32)) hx hb dX12_init_509 (by decide) ?_
  refine lv_iconst (v := (0 : Int32)) hx hb dX12_init_510 (by decide) ?_
  refine lv_iconst (v := (0 : Int32)) hx hb dX12_init_511 (by decide) ?_
  refine lv_iconst (v := (0 : Int32)) hx hb dX12_init_512 (by decide) ?_
  refine lv_iconst (v := (0 : Int32)) hx hb dX12_init_513 (by decide) ?_
  refine xr_l hw (xr_runS (As := [.int (105 : Int32), .int (102 : Int32), .int (0 : Int32), .int (0 : Int32), .int (0 : Int32), .int (0 : Int32), .int (0 : Int32)]) (rest := [.int (1 : Int32), .ref (q 7)]) X hw (xc_X12_word l D cy q σ3 (105 : Int32) (102 : Int32) (0 : Int32) (0 : Int32) (0 : Int32) (0 : Int32) (0 : Int32) hB _) xm_X12_word xt_4_167 xt_4_168 hR rfl rfl hl.1 (Nat.le_of_ble_eq_true rfl) dX12_init_514 hcs) (fun r5 σ4 H locs hB hw => ?_)
  refine xr_last X hw 7 xl_B_ShowRingsModel_keys_at hB.1 dX12_init_517 hB.2 (fun σ6 H locs hB hw => ?_)
  refine lv_aload_n hx hb dX12_init_518 rfl (lv_at hl 0 rfl) ?_
  refine xr_getr X hw (xf_X12_34 X) 0 xl_B_ShowRingsModel_at rfl dX12_init_519 ?_
  refine lv_iconst (v := (2 : Int32)) hx hb dX12_init_522 (by decide) ?_
  refine lv_bipush (v := (112 : Int32)) hx hb dX12_init_523 (by decide) ?_
  refine lv_bipush (v := (111 : Int32)) hx hb dX12_init_525 (by decide) ?_
  refine lv_bipush (v := (105 : Int32)) hx hb dX12_init_527 (by decide) ?_
  refine lv_bipush (v := (110 : Int32)) hx hb dX12_init_529 (by decide) ?_
  refine lv_bipush (v := (116 : Int32)) hx hb dX12_init_531 (by decide) ?_
  refine lv_bipush (v := (115 : Int32)) hx hb dX12_init_533 (by decide) ?_
  refine lv_iconst (v := (0 : Int32)) hx hb dX12_init_535 (by decide) ?_
  refine xr_l hw (xr_runS (As := [.int (112 : Int32), .int (111 : Int32), .int (105 : Int32), .int (110 : Int32), .int (116 : Int32), .int (115 : Int32), .int (0 : Int32)]) (rest := [.int (2 : Int32), .ref (q 7)]) X hw (xc_X12_word l D cy q σ6 (112 : Int32) (111 : Int32) (105 : Int32) (110 : Int32) (116 : Int32) (115 : Int32) (0 : Int32) hB _) xm_X12_word xt_4_167 xt_4_168 hR rfl rfl hl.1 (Nat.le_of_ble_eq_true rfl) dX12_init_536 hcs) (fun r8 σ7 H locs hB hw => ?_)
  refine xr_last X hw 7 xl_B_ShowRingsModel_keys_at hB.1 dX12_init_539 hB.2 (fun σ9 H locs hB hw => ?_)
  refine lv_aload_n hx hb dX12_init_540 rfl (lv_at hl 0 rfl) ?_
  refine xr_getr X hw (xf_X12_34 X) 0 xl_B_ShowRingsModel_at rfl dX12_init_541 ?_
  refine lv_iconst (v := (3 : Int32)) hx hb dX12_init_544 (by decide) ?_
  refine lv_bipush (v := (116 : Int32)) hx hb dX12_init_545 (by decide) ?_
  refine lv_bipush (v := (105 : Int32)) hx hb dX12_init_547 (by decide) ?_
  refine lv_bipush (v := (116 : Int32)) hx hb dX12_init_549 (by decide) ?_
  refine lv_bipush (v := (108 : Int32)) hx hb dX12_init_551 (by decide) ?_
  refine lv_bipush (v := (101 : Int32)) hx hb dX12_init_553 (by decide) ?_
  refine lv_iconst (v := (0 : Int32)) hx hb dX12_init_555 (by decide) ?_
  refine lv_iconst (v := (0 : Int32)) hx hb dX12_init_556 (by decide) ?_
  refine xr_l hw (xr_runS (As := [.int (116 : Int32), .int (105 : Int32), .int (116 : Int32), .int (108 : Int32), .int (101 : Int32), .int (0 : Int32), .int (0 : Int32)]) (rest := [.int (3 : Int32), .ref (q 7)]) X hw (xc_X12_word l D cy q σ9 (116 : Int32) (105 : Int32) (116 : Int32) (108 : Int32) (101 : Int32) (0 : Int32) (0 : Int32) hB _) xm_X12_word xt_4_167 xt_4_168 hR rfl rfl hl.1 (Nat.le_of_ble_eq_true rfl) dX12_init_557 hcs) (fun r11 σ10 H locs hB hw => ?_)
  refine xr_last X hw 7 xl_B_ShowRingsModel_keys_at hB.1 dX12_init_560 hB.2 (fun σ12 H locs hB hw => ?_)
  refine lv_aload_n hx hb dX12_init_561 rfl (lv_at hl 0 rfl) ?_
  refine xr_getr X hw (xf_X12_34 X) 0 xl_B_ShowRingsModel_at rfl dX12_init_562 ?_
  refine lv_iconst (v := (4 : Int32)) hx hb dX12_init_565 (by decide) ?_
  refine lv_bipush (v := (117 : Int32)) hx hb dX12_init_566 (by decide) ?_
  refine lv_bipush (v := (110 : Int32)) hx hb dX12_init_568 (by decide) ?_
  refine lv_bipush (v := (100 : Int32)) hx hb dX12_init_570 (by decide) ?_
  refine lv_bipush (v := (101 : Int32)) hx hb dX12_init_572 (by decide) ?_
  refine lv_bipush (v := (114 : Int32)) hx hb dX12_init_574 (by decide) ?_
  refine lv_iconst (v := (0 : Int32)) hx hb dX12_init_576 (by decide) ?_
  refine lv_iconst (v := (0 : Int32)) hx hb dX12_init_577 (by decide) ?_
  refine xr_l hw (xr_runS (As := [.int (117 : Int32), .int (110 : Int32), .int (100 : Int32), .int (101 : Int32), .int (114 : Int32), .int (0 : Int32), .int (0 : Int32)]) (rest := [.int (4 : Int32), .ref (q 7)]) X hw (xc_X12_word l D cy q σ12 (117 : Int32) (110 : Int32) (100 : Int32) (101 : Int32) (114 : Int32) (0 : Int32) (0 : Int32) hB _) xm_X12_word xt_4_167 xt_4_168 hR rfl rfl hl.1 (Nat.le_of_ble_eq_true rfl) dX12_init_578 hcs) (fun r14 σ13 H locs hB hw => ?_)
  refine xr_last X hw 7 xl_B_ShowRingsModel_keys_at hB.1 dX12_init_581 hB.2 (fun σ15 H locs hB hw => ?_)
  refine lv_aload_n hx hb dX12_init_582 rfl (lv_at hl 0 rfl) ?_
  refine xr_getr X hw (xf_X12_34 X) 0 xl_B_ShowRingsModel_at rfl dX12_init_583 ?_
  refine lv_iconst (v := (5 : Int32)) hx hb dX12_init_586 (by decide) ?_
  refine lv_bipush (v := (111 : Int32)) hx hb dX12_init_587 (by decide) ?_
  refine lv_bipush (v := (114 : Int32)) hx hb dX12_init_589 (by decide) ?_
  refine lv_iconst (v := (0 : Int32)) hx hb dX12_init_591 (by decide) ?_
  refine lv_iconst (v := (0 : Int32)) hx hb dX12_init_592 (by decide) ?_
  refine lv_iconst (v := (0 : Int32)) hx hb dX12_init_593 (by decide) ?_
  refine lv_iconst (v := (0 : Int32)) hx hb dX12_init_594 (by decide) ?_
  refine lv_iconst (v := (0 : Int32)) hx hb dX12_init_595 (by decide) ?_
  refine xr_l hw (xr_runS (As := [.int (111 : Int32), .int (114 : Int32), .int (0 : Int32), .int (0 : Int32), .int (0 : Int32), .int (0 : Int32), .int (0 : Int32)]) (rest := [.int (5 : Int32), .ref (q 7)]) X hw (xc_X12_word l D cy q σ15 (111 : Int32) (114 : Int32) (0 : Int32) (0 : Int32) (0 : Int32) (0 : Int32) (0 : Int32) hB _) xm_X12_word xt_4_167 xt_4_168 hR rfl rfl hl.1 (Nat.le_of_ble_eq_true rfl) dX12_init_596 hcs) (fun r17 σ16 H locs hB hw => ?_)
  refine xr_last X hw 7 xl_B_ShowRingsModel_keys_at hB.1 dX12_init_599 hB.2 (fun σ18 H locs hB hw => ?_)
  refine lv_aload_n hx hb dX12_init_600 rfl (lv_at hl 0 rfl) ?_
  refine xr_getr X hw (xf_X12_34 X) 0 xl_B_ShowRingsModel_at rfl dX12_init_601 ?_
  refine lv_bipush (v := (6 : Int32)) hx hb dX12_init_604 (by decide) ?_
  refine lv_bipush (v := (97 : Int32)) hx hb dX12_init_606 (by decide) ?_
  refine lv_bipush (v := (110 : Int32)) hx hb dX12_init_608 (by decide) ?_
  refine lv_bipush (v := (100 : Int32)) hx hb dX12_init_610 (by decide) ?_
  refine lv_iconst (v := (0 : Int32)) hx hb dX12_init_612 (by decide) ?_
  refine lv_iconst (v := (0 : Int32)) hx hb dX12_init_613 (by decide) ?_
  refine lv_iconst (v := (0 : Int32)) hx hb dX12_init_614 (by decide) ?_
  refine lv_iconst (v := (0 : Int32)) hx hb dX12_init_615 (by decide) ?_
  refine xr_l hw (xr_runS (As := [.int (97 : Int32), .int (110 : Int32), .int (100 : Int32), .int (0 : Int32), .int (0 : Int32), .int (0 : Int32), .int (0 : Int32)]) (rest := [.int (6 : Int32), .ref (q 7)]) X hw (xc_X12_word l D cy q σ18 (97 : Int32) (110 : Int32) (100 : Int32) (0 : Int32) (0 : Int32) (0 : Int32) (0 : Int32) hB _) xm_X12_word xt_4_167 xt_4_168 hR rfl rfl hl.1 (Nat.le_of_ble_eq_true rfl) dX12_init_616 hcs) (fun r20 σ19 H locs hB hw => ?_)
  refine xr_last X hw 7 xl_B_ShowRingsModel_keys_at hB.1 dX12_init_619 hB.2 (fun σ21 H locs hB hw => ?_)
  refine lv_aload_n hx hb dX12_init_620 rfl (lv_at hl 0 rfl) ?_
  refine xr_getr X hw (xf_X12_34 X) 0 xl_B_ShowRingsModel_at rfl dX12_init_621 ?_
  refine lv_bipush (v := (7 : Int32)) hx hb dX12_init_624 (by decide) ?_
  refine lv_bipush (v := (97 : Int32)) hx hb dX12_init_626 (by decide) ?_
  refine lv_bipush (v := (103 : Int32)) hx hb dX12_init_628 (by decide) ?_
  refine lv_bipush (v := (101 : Int32)) hx hb dX12_init_630 (by decide) ?_
  refine lv_iconst (v := (0 : Int32)) hx hb dX12_init_632 (by decide) ?_
  refine lv_iconst (v := (0 : Int32)) hx hb dX12_init_633 (by decide) ?_
  refine lv_iconst (v := (0 : Int32)) hx hb dX12_init_634 (by decide) ?_
  refine lv_iconst (v := (0 : Int32)) hx hb dX12_init_635 (by decide) ?_
  refine xr_l hw (xr_runS (As := [.int (97 : Int32), .int (103 : Int32), .int (101 : Int32), .int (0 : Int32), .int (0 : Int32), .int (0 : Int32), .int (0 : Int32)]) (rest := [.int (7 : Int32), .ref (q 7)]) X hw (xc_X12_word l D cy q σ21 (97 : Int32) (103 : Int32) (101 : Int32) (0 : Int32) (0 : Int32) (0 : Int32) (0 : Int32) hB _) xm_X12_word xt_4_167 xt_4_168 hR rfl rfl hl.1 (Nat.le_of_ble_eq_true rfl) dX12_init_636 hcs) (fun r23 σ22 H locs hB hw => ?_)
  refine xr_last X hw 7 xl_B_ShowRingsModel_keys_at hB.1 dX12_init_639 hB.2 (fun σ24 H locs hB hw => ?_)
  refine lv_aload_n hx hb dX12_init_640 rfl (lv_at hl 0 rfl) ?_
  refine xr_getr X hw (xf_X12_34 X) 0 xl_B_ShowRingsModel_at rfl dX12_init_641 ?_
  refine lv_bipush (v := (8 : Int32)) hx hb dX12_init_644 (by decide) ?_
  refine lv_bipush (v := (115 : Int32)) hx hb dX12_init_646 (by decide) ?_
  refine lv_bipush (v := (101 : Int32)) hx hb dX12_init_648 (by decide) ?_
  refine lv_bipush (v := (120 : Int32)) hx hb dX12_init_650 (by decide) ?_
  refine lv_iconst (v := (0 : Int32)) hx hb dX12_init_652 (by decide) ?_
  refine lv_iconst (v := (0 : Int32)) hx hb dX12_init_653 (by decide) ?_
  refine lv_iconst (v := (0 : Int32)) hx hb dX12_init_654 (by decide) ?_
  refine lv_iconst (v := (0 : Int32)) hx hb dX12_init_655 (by decide) ?_
  refine xr_l hw (xr_runS (As := [.int (115 : Int32), .int (101 : Int32), .int (120 : Int32), .int (0 : Int32), .int (0 : Int32), .int (0 : Int32), .int (0 : Int32)]) (rest := [.int (8 : Int32), .ref (q 7)]) X hw (xc_X12_word l D cy q σ24 (115 : Int32) (101 : Int32) (120 : Int32) (0 : Int32) (0 : Int32) (0 : Int32) (0 : Int32) hB _) xm_X12_word xt_4_167 xt_4_168 hR rfl rfl hl.1 (Nat.le_of_ble_eq_true rfl) dX12_init_656 hcs) (fun r26 σ25 H locs hB hw => ?_)
  refine xr_last X hw 7 xl_B_ShowRingsModel_keys_at hB.1 dX12_init_659 hB.2 (fun σ27 H locs hB hw => ?_)
  refine lv_aload_n hx hb dX12_init_660 rfl (lv_at hl 0 rfl) ?_
  refine xr_getr X hw (xf_X12_34 X) 0 xl_B_ShowRingsModel_at rfl dX12_init_661 ?_
  refine lv_bipush (v := (9 : Int32)) hx hb dX12_init_664 (by decide) ?_
  refine lv_bipush (v := (98 : Int32)) hx hb dX12_init_666 (by decide) ?_
  refine lv_bipush (v := (114 : Int32)) hx hb dX12_init_668 (by decide) ?_
  refine lv_bipush (v := (101 : Int32)) hx hb dX12_init_670 (by decide) ?_
  refine lv_bipush (v := (101 : Int32)) hx hb dX12_init_672 (by decide) ?_
  refine lv_bipush (v := (100 : Int32)) hx hb dX12_init_674 (by decide) ?_
  refine lv_iconst (v := (0 : Int32)) hx hb dX12_init_676 (by decide) ?_
  refine lv_iconst (v := (0 : Int32)) hx hb dX12_init_677 (by decide) ?_
  refine xr_l hw (xr_runS (As := [.int (98 : Int32), .int (114 : Int32), .int (101 : Int32), .int (101 : Int32), .int (100 : Int32), .int (0 : Int32), .int (0 : Int32)]) (rest := [.int (9 : Int32), .ref (q 7)]) X hw (xc_X12_word l D cy q σ27 (98 : Int32) (114 : Int32) (101 : Int32) (101 : Int32) (100 : Int32) (0 : Int32) (0 : Int32) hB _) xm_X12_word xt_4_167 xt_4_168 hR rfl rfl hl.1 (Nat.le_of_ble_eq_true rfl) dX12_init_678 hcs) (fun r29 σ28 H locs hB hw => ?_)
  refine xr_last X hw 7 xl_B_ShowRingsModel_keys_at hB.1 dX12_init_681 hB.2 (fun σ30 H locs hB hw => ?_)
  refine lv_aload_n hx hb dX12_init_682 rfl (lv_at hl 0 rfl) ?_
  refine xr_getr X hw (xf_X12_34 X) 0 xl_B_ShowRingsModel_at rfl dX12_init_683 ?_
  refine lv_bipush (v := (10 : Int32)) hx hb dX12_init_686 (by decide) ?_
  refine lv_bipush (v := (103 : Int32)) hx hb dX12_init_688 (by decide) ?_
  refine lv_bipush (v := (114 : Int32)) hx hb dX12_init_690 (by decide) ?_
  refine lv_bipush (v := (111 : Int32)) hx hb dX12_init_692 (by decide) ?_
  refine lv_bipush (v := (117 : Int32)) hx hb dX12_init_694 (by decide) ?_
  refine lv_bipush (v := (112 : Int32)) hx hb dX12_init_696 (by decide) ?_
  refine lv_iconst (v := (0 : Int32)) hx hb dX12_init_698 (by decide) ?_
  refine lv_iconst (v := (0 : Int32)) hx hb dX12_init_699 (by decide) ?_
  refine xr_l hw (xr_runS (As := [.int (103 : Int32), .int (114 : Int32), .int (111 : Int32), .int (117 : Int32), .int (112 : Int32), .int (0 : Int32), .int (0 : Int32)]) (rest := [.int (10 : Int32), .ref (q 7)]) X hw (xc_X12_word l D cy q σ30 (103 : Int32) (114 : Int32) (111 : Int32) (117 : Int32) (112 : Int32) (0 : Int32) (0 : Int32) hB _) xm_X12_word xt_4_167 xt_4_168 hR rfl rfl hl.1 (Nat.le_of_ble_eq_true rfl) dX12_init_700 hcs) (fun r32 σ31 H locs hB hw => ?_)
  refine xr_last X hw 7 xl_B_ShowRingsModel_keys_at hB.1 dX12_init_703 hB.2 (fun σ33 H locs hB hw => ?_)
  refine lv_aload_n hx hb dX12_init_704 rfl (lv_at hl 0 rfl) ?_
  refine xr_getr X hw (xf_X12_34 X) 0 xl_B_ShowRingsModel_at rfl dX12_init_705 ?_
  refine lv_bipush (v := (11 : Int32)) hx hb dX12_init_708 (by decide) ?_
  refine lv_bipush (v := (99 : Int32)) hx hb dX12_init_710 (by decide) ?_
  refine lv_bipush (v := (108 : Int32)) hx hb dX12_init_712 (by decide) ?_
  refine lv_bipush (v := (97 : Int32)) hx hb dX12_init_714 (by decide) ?_
  refine lv_bipush (v := (115 : Int32)) hx hb dX12_init_716 (by decide) ?_
  refine lv_bipush (v := (115 : Int32)) hx hb dX12_init_718 (by decide) ?_
  refine lv_iconst (v := (0 : Int32)) hx hb dX12_init_720 (by decide) ?_
  refine lv_iconst (v := (0 : Int32)) hx hb dX12_init_721 (by decide) ?_
  refine xr_l hw (xr_runS (As := [.int (99 : Int32), .int (108 : Int32), .int (97 : Int32), .int (115 : Int32), .int (115 : Int32), .int (0 : Int32), .int (0 : Int32)]) (rest := [.int (11 : Int32), .ref (q 7)]) X hw (xc_X12_word l D cy q σ33 (99 : Int32) (108 : Int32) (97 : Int32) (115 : Int32) (115 : Int32) (0 : Int32) (0 : Int32) hB _) xm_X12_word xt_4_167 xt_4_168 hR rfl rfl hl.1 (Nat.le_of_ble_eq_true rfl) dX12_init_722 hcs) (fun r35 σ34 H locs hB hw => ?_)
  refine xr_last X hw 7 xl_B_ShowRingsModel_keys_at hB.1 dX12_init_725 hB.2 (fun σ36 H locs hB hw => ?_)
  refine lv_aload_n hx hb dX12_init_726 rfl (lv_at hl 0 rfl) ?_
  refine xr_getr X hw (xf_X12_34 X) 0 xl_B_ShowRingsModel_at rfl dX12_init_727 ?_
  refine lv_bipush (v := (12 : Int32)) hx hb dX12_init_730 (by decide) ?_
  refine lv_bipush (v := (111 : Int32)) hx hb dX12_init_732 (by decide) ?_
  refine lv_bipush (v := (119 : Int32)) hx hb dX12_init_734 (by decide) ?_
  refine lv_bipush (v := (110 : Int32)) hx hb dX12_init_736 (by decide) ?_
  refine lv_iconst (v := (0 : Int32)) hx hb dX12_init_738 (by decide) ?_
  refine lv_iconst (v := (0 : Int32)) hx hb dX12_init_739 (by decide) ?_
  refine lv_iconst (v := (0 : Int32)) hx hb dX12_init_740 (by decide) ?_
  refine lv_iconst (v := (0 : Int32)) hx hb dX12_init_741 (by decide) ?_
  refine xr_l hw (xr_runS (As := [.int (111 : Int32), .int (119 : Int32), .int (110 : Int32), .int (0 : Int32), .int (0 : Int32), .int (0 : Int32), .int (0 : Int32)]) (rest := [.int (12 : Int32), .ref (q 7)]) X hw (xc_X12_word l D cy q σ36 (111 : Int32) (119 : Int32) (110 : Int32) (0 : Int32) (0 : Int32) (0 : Int32) (0 : Int32) hB _) xm_X12_word xt_4_167 xt_4_168 hR rfl rfl hl.1 (Nat.le_of_ble_eq_true rfl) dX12_init_742 hcs) (fun r38 σ37 H locs hB hw => ?_)
  refine xr_last X hw 7 xl_B_ShowRingsModel_keys_at hB.1 dX12_init_745 hB.2 (fun σ39 H locs hB hw => ?_)
  refine lv_aload_n hx hb dX12_init_746 rfl (lv_at hl 0 rfl) ?_
  refine xr_getr X hw (xf_X12_34 X) 0 xl_B_ShowRingsModel_at rfl dX12_init_747 ?_
  refine lv_bipush (v := (13 : Int32)) hx hb dX12_init_750 (by decide) ?_
  refine lv_bipush (v := (107 : Int32)) hx hb dX12_init_752 (by decide) ?_
  refine lv_bipush (v := (105 : Int32)) hx hb dX12_init_754 (by decide) ?_
  refine lv_bipush (v := (110 : Int32)) hx hb dX12_init_756 (by decide) ?_
  refine lv_iconst (v := (0 : Int32)) hx hb dX12_init_758 (by decide) ?_
  refine lv_iconst (v := (0 : Int32)) hx hb dX12_init_759 (by decide) ?_
  refine lv_iconst (v := (0 : Int32)) hx hb dX12_init_760 (by decide) ?_
  refine lv_iconst (v := (0 : Int32)) hx hb dX12_init_761 (by decide) ?_
  refine xr_l hw (xr_runS (As := [.int (107 : Int32), .int (105 : Int32), .int (110 : Int32), .int (0 : Int32), .int (0 : Int32), .int (0 : Int32), .int (0 : Int32)]) (rest := [.int (13 : Int32), .ref (q 7)]) X hw (xc_X12_word l D cy q σ39 (107 : Int32) (105 : Int32) (110 : Int32) (0 : Int32) (0 : Int32) (0 : Int32) (0 : Int32) hB _) xm_X12_word xt_4_167 xt_4_168 hR rfl rfl hl.1 (Nat.le_of_ble_eq_true rfl) dX12_init_762 hcs) (fun r41 σ40 H locs hB hw => ?_)
  refine xr_last X hw 7 xl_B_ShowRingsModel_keys_at hB.1 dX12_init_765 hB.2 (fun σ42 H locs hB hw => ?_)
  refine lv_aload_n hx hb dX12_init_766 rfl (lv_at hl 0 rfl) ?_
  refine xr_getr X hw (xf_X12_34 X) 0 xl_B_ShowRingsModel_at rfl dX12_init_767 ?_
  refine lv_bipush (v := (14 : Int32)) hx hb dX12_init_770 (by decide) ?_
  refine lv_bipush (v := (112 : Int32)) hx hb dX12_init_772 (by decide) ?_
  refine lv_bipush (v := (97 : Int32)) hx hb dX12_init_774 (by decide) ?_
  refine lv_bipush (v := (114 : Int32)) hx hb dX12_init_776 (by decide) ?_
  refine lv_bipush (v := (116 : Int32)) hx hb dX12_init_778 (by decide) ?_
  refine lv_bipush (v := (101 : Int32)) hx hb dX12_init_780 (by decide) ?_
  refine lv_bipush (v := (100 : Int32)) hx hb dX12_init_782 (by decide) ?_
  refine lv_iconst (v := (0 : Int32)) hx hb dX12_init_784 (by decide) ?_
  refine xr_l hw (xr_runS (As := [.int (112 : Int32), .int (97 : Int32), .int (114 : Int32), .int (116 : Int32), .int (101 : Int32), .int (100 : Int32), .int (0 : Int32)]) (rest := [.int (14 : Int32), .ref (q 7)]) X hw (xc_X12_word l D cy q σ42 (112 : Int32) (97 : Int32) (114 : Int32) (116 : Int32) (101 : Int32) (100 : Int32) (0 : Int32) hB _) xm_X12_word xt_4_167 xt_4_168 hR rfl rfl hl.1 (Nat.le_of_ble_eq_true rfl) dX12_init_785 hcs) (fun r44 σ43 H locs hB hw => ?_)
  refine xr_last X hw 7 xl_B_ShowRingsModel_keys_at hB.1 dX12_init_788 hB.2 (fun σ45 H locs hB hw => ?_)
  refine lv_aload_n hx hb dX12_init_789 rfl (lv_at hl 0 rfl) ?_
  refine xr_getr X hw (xf_X12_34 X) 0 xl_B_ShowRingsModel_at rfl dX12_init_790 ?_
  refine lv_bipush (v := (15 : Int32)) hx hb dX12_init_793 (by decide) ?_
  refine lv_bipush (v := (98 : Int32)) hx hb dX12_init_795 (by decide) ?_
  refine lv_bipush (v := (101 : Int32)) hx hb dX12_init_797 (by decide) ?_
  refine lv_bipush (v := (97 : Int32)) hx hb dX12_init_799 (by decide) ?_
  refine lv_bipush (v := (116 : Int32)) hx hb dX12_init_801 (by decide) ?_
  refine lv_bipush (v := (101 : Int32)) hx hb dX12_init_803 (by decide) ?_
  refine lv_bipush (v := (110 : Int32)) hx hb dX12_init_805 (by decide) ?_
  refine lv_iconst (v := (0 : Int32)) hx hb dX12_init_807 (by decide) ?_
  refine xr_l hw (xr_runS (As := [.int (98 : Int32), .int (101 : Int32), .int (97 : Int32), .int (116 : Int32), .int (101 : Int32), .int (110 : Int32), .int (0 : Int32)]) (rest := [.int (15 : Int32), .ref (q 7)]) X hw (xc_X12_word l D cy q σ45 (98 : Int32) (101 : Int32) (97 : Int32) (116 : Int32) (101 : Int32) (110 : Int32) (0 : Int32) hB _) xm_X12_word xt_4_167 xt_4_168 hR rfl rfl hl.1 (Nat.le_of_ble_eq_true rfl) dX12_init_808 hcs) (fun r47 σ46 H locs hB hw => ?_)
  refine xr_last X hw 7 xl_B_ShowRingsModel_keys_at hB.1 dX12_init_811 hB.2 (fun σ48 H locs hB hw => ?_)
  refine lv_aload_n hx hb dX12_init_812 rfl (lv_at hl 0 rfl) ?_
  refine lv_iconst (v := (1 : Int32)) hx hb dX12_init_813 (by decide) ?_
  refine xr_puti X hw (xp_X12_195 X) 0 xl_B_ShowRingsModel_at rfl dX12_init_814 hB (fun σ49 H locs hB hw => ?_)
  refine lv_iconst (v := (0 : Int32)) hx hb dX12_init_817 (by decide) ?_
  refine lv_istore_n (lv' := [(1, .int (0 : Int32)), (0, .ref (q 0))]) hx hb dX12_init_818 rfl hl (by decide) rfl (fun ls hl => ?_)
  exact hB _ _ _ hw (lv_sub hl [1, 0] rfl)
def xq_keys : List Int64 := [1503, 249, 237742039, 10820876, 11438892, 423, 1111, 923, 14010, 1420960, 4085899, 1831780, 11570, 8276, 230482966, 31389431]
def xq_B1 : xw_M := (fun c j => if c = 0 then (if j = 17 then -1 else 0) else 0, fun _ _ => 0)
/-- a new ShowRingsModel -/
def xq_B0 : xw_M := (fun c j => if c = 0 then (if j = 17 then -1 else if j = 41 then 1 else 0) else if c = 45 then (if j < 30 then -1 else 0) else 0, fun c j => if c = 7 then xq_keys.getD j 0 else 0)

theorem xh_more {σ : xw_M} {n : Int64} {c : Int32} {Z : Int64 → xw_M → Prop} (h : Z (if c = 0 then n else 27 * n + (c - 97 + 1).toInt64) σ) : xu_X12_more σ n c Z := by
  refine ⟨fun hc => ?_, fun hc => ?_⟩
  · rw [if_neg hc] at h; exact h
  · rw [if_pos hc] at h; exact h
def xq_wd (a b c d e f g : Int32) : Int64 :=
  let m := fun (n : Int64) (c : Int32) => if c = 0 then n else 27 * n + (c - 97 + 1).toInt64
  m (m (m (m (m (m (m 0 a) b) c) d) e) f) g
theorem xh_word {σ : xw_M} {a b c d e f g : Int32} {Z : Int64 → xw_M → Prop} {v : Int64} (hv : xq_wd a b c d e f g = v) (h : Z v σ) : xu_X12_word σ a b c d e f g Z := by
  subst hv
  exact xh_more (xh_more (xh_more (xh_more (xh_more (xh_more (xh_more h))))))
theorem xh_in {i : Int32} {n : Nat} (k : Nat) (hi : i = nI k) (h : k < n) (hn : n < 2 ^ 31) : vp_in i n := by rw [hi]; exact vp_in_nI h hn
theorem xq_init2 : xu_X12_init2 xq_B1 (fun σ1 => σ1 = xq_B0) := by
  intro K hK
  refine xh_word (v := 1503) (by decide) ⟨xh_in 0 (by decide) (by decide) (by decide), fun σ0 e0 => ?_⟩
  refine xh_word (v := 249) (by decide) ⟨xh_in 1 (by decide) (by decide) (by decide), fun σ1 e1 => ?_⟩
  refine xh_word (v := 237742039) (by decide) ⟨xh_in 2 (by decide) (by decide) (by decide), fun σ2 e2 => ?_⟩
  refine xh_word (v := 10820876) (by decide) ⟨xh_in 3 (by decide) (by decide) (by decide), fun σ3 e3 => ?_⟩
  refine xh_word (v := 11438892) (by decide) ⟨xh_in 4 (by decide) (by decide) (by decide), fun σ4 e4 => ?_⟩
  refine xh_word (v := 423) (by decide) ⟨xh_in 5 (by decide) (by decide) (by decide), fun σ5 e5 => ?_⟩
  refine xh_word (v := 1111) (by decide) ⟨xh_in 6 (by decide) (by decide) (by decide), fun σ6 e6 => ?_⟩
  refine xh_word (v := 923) (by decide) ⟨xh_in 7 (by decide) (by decide) (by decide), fun σ7 e7 => ?_⟩
  refine xh_word (v := 14010) (by decide) ⟨xh_in 8 (by decide) (by decide) (by decide), fun σ8 e8 => ?_⟩
  refine xh_word (v := 1420960) (by decide) ⟨xh_in 9 (by decide) (by decide) (by decide), fun σ9 e9 => ?_⟩
  refine xh_word (v := 4085899) (by decide) ⟨xh_in 10 (by decide) (by decide) (by decide), fun σ10 e10 => ?_⟩
  refine xh_word (v := 1831780) (by decide) ⟨xh_in 11 (by decide) (by decide) (by decide), fun σ11 e11 => ?_⟩
  refine xh_word (v := 11570) (by decide) ⟨xh_in 12 (by decide) (by decide) (by decide), fun σ12 e12 => ?_⟩
  refine xh_word (v := 8276) (by decide) ⟨xh_in 13 (by decide) (by decide) (by decide), fun σ13 e13 => ?_⟩
  refine xh_word (v := 230482966) (by decide) ⟨xh_in 14 (by decide) (by decide) (by decide), fun σ14 e14 => ?_⟩
  refine xh_word (v := 31389431) (by decide) ⟨xh_in 15 (by decide) (by decide) (by decide), fun σ15 e15 => ?_⟩
  intro σ16 e16
  have hl : ∀ c j, σ16.2 c j = if c = 7 then xq_keys.getD j 0 else 0 := by
    intro c j
    rw [e16, show ∀ (τ : xw_M), (xw_i τ 0 41 1).2 = τ.2 from fun _ => rfl, e15, e14, e13, e12, e11, e10, e9, e8, e7, e6, e5, e4, e3, e2, e1, e0]
    simp only [xw_l, xq_B1]
    by_cases hc : c = 7
    · subst hc
      simp only [true_and, if_true]
      by_cases hj : j < 16
      · match j, hj with
        | 0, _ => rfl
        | 1, _ => rfl
        | 2, _ => rfl
        | 3, _ => rfl
        | 4, _ => rfl
        | 5, _ => rfl
        | 6, _ => rfl
        | 7, _ => rfl
        | 8, _ => rfl
        | 9, _ => rfl
        | 10, _ => rfl
        | 11, _ => rfl
        | 12, _ => rfl
        | 13, _ => rfl
        | 14, _ => rfl
        | 15, _ => rfl
        | j + 16, h => exact absurd h (by omega)
      · rw [show xq_keys.getD j 0 = 0 from by
          unfold List.getD
          rw [List.getElem?_eq_none (show xq_keys.length ≤ j by show 16 ≤ j; omega)]
          rfl]
        repeat rw [if_neg (by intro h; rw [h] at hj; exact hj (by decide))]
    · simp only [hc, false_and, if_false]
  have hi : ∀ c j, σ16.1 c j = if c = 0 then (if j = 17 then -1 else if j = 41 then 1 else 0) else 0 := by
    intro c j
    rw [e16]
    have : σ15.1 = xq_B1.1 := by rw [e15, e14, e13, e12, e11, e10, e9, e8, e7, e6, e5, e4, e3, e2, e1, e0]; rfl
    simp only [xw_i, this, xq_B1]
    by_cases hc : c = 0
    · subst hc
      by_cases hj : j = 41
      · subst hj; simp
      · simp [hj]
    · simp [hc]
  clear e0 e1 e2 e3 e4 e5 e6 e7 e8 e9 e10 e11 e12 e13 e14 e15 e16
  have key : ∀ (n : Nat) (τ : xw_M), n ≤ 30 → τ.2 = σ16.2 → (∀ c j, τ.1 c j = if c = 45 then (if j < 30 - n then -1 else 0) else σ16.1 c j) → K τ (nI (30 - n)) := by
    intro n
    induction n with
    | zero =>
      intro τ _ h2 h1
      apply hK
      refine ⟨fun _ => ?_, fun hc => absurd (by decide) hc⟩
      show τ = xq_B0
      refine Prod.ext (funext fun c => funext fun j => ?_) (h2.trans (funext fun c => funext fun j => hl c j))
      rw [h1]
      simp only [hi, xq_B0]
      by_cases hc : c = 45
      · subst hc; simp
      · simp [hc]
    | succ n ih =>
      intro τ hn h2 h1
      apply hK
      refine ⟨fun hc => absurd ((nI_leI (a := 30) (by decide) (by omega)).mp hc) (by omega), fun _ => ⟨vp_in_nI (by omega) (by decide), fun σ1 hσ => ?_⟩⟩
      rw [nI_1, show 30 - (n + 1) + 1 = 30 - n by omega]
      refine ih σ1 (by omega) (by rw [hσ]; exact h2) (fun c j => ?_)
      rw [hσ, nI_clamp (by omega)]
      simp only [xw_i]
      by_cases hc : c = 45
      · subst hc
        simp only [true_and, if_true]
        by_cases hj : j = 30 - (n + 1)
        · rw [if_pos hj, if_pos (by omega)]
        · rw [if_neg hj, h1]
          simp only [if_true]
          by_cases h3 : j < 30 - (n + 1)
          · rw [if_pos h3, if_pos (by omega)]
          · rw [if_neg h3, if_neg (by omega)]
      · simp only [hc, false_and, if_false]
        rw [h1]
        simp [hc]
  have h30 := key 30 σ16 (Nat.le_refl _) rfl (fun c j => by
    by_cases hc : c = 45
    · subst hc; simp [hi]
    · simp [hc])
  exact h30
def xn_EB (cy : Nat → ClassId) (u : Nat → Nat) : va_W := [((u 0), .inr (12, [.int 0, .ref (u 1), .int 0, .ref (u 2), .int 0, .ref (u 3), .ref (u 4), .ref (u 5), .ref (u 6), .ref (u 7), .int 0, .int 0, .int 0, .int 0, .int 0, .int 0, .int 0, .int (-1 : Int32), .int 0, .int 0, .ref (u 8), .ref (u 9), .ref (u 10), .ref (u 11), .ref (u 12), .ref (u 13), .ref (u 14), .ref (u 15), .ref (u 16), .ref (u 17), .ref (u 18), .ref (u 19), .ref (u 20), .ref (u 21), .int 0, .ref (u 22), .ref (u 23), .ref (u 24), .int 0, .ref (u 25), .ref (u 26), .int 0, .int 0, .ref (u 27), .ref (u 28), .ref (u 29), .ref (u 30), .int 0, .ref (u 31), .ref (u 32), .ref (u 33), .ref (u 34), .ref (u 35), .int 0, .ref (u 36), .ref (u 37), .int 0, .ref (u 38), .ref (u 39), .ref (u 40), .ref (u 41), .ref (u 42), .ref (u 43), .ref (u 44), .ref (u 45), .ref (u 46), .ref (u 47), .ref (u 48), .ref (u 49), .ref (u 50), .ref (u 51), .ref (u 52), .ref (u 53), .ref (u 54), .ref (u 55), .ref (u 56), .ref (u 57)])), ((u 1), .inl (cy 0, 2000, .inl (fun _ => 0))), ((u 2), .inl (cy 0, 2000, .inl (fun _ => 0))), ((u 3), .inl (cy 1, 403, .inl (fun _ => 0))), ((u 4), .inl (cy 1, 403, .inl (fun _ => 0))), ((u 5), .inl (cy 1, 403, .inl (fun _ => 0))), ((u 6), .inl (cy 2, 403, .inr (.inl (fun _ => 0)))), ((u 7), .inl (cy 2, 16, .inr (.inl (fun _ => 0)))), ((u 8), .inl (cy 1, 2, .inl (fun _ => 0))), ((u 9), .inl (cy 1, 32, .inl (fun _ => 0))), ((u 10), .inl (cy 1, 32, .inl (fun _ => 0))), ((u 11), .inl (cy 1, 32, .inl (fun _ => 0))), ((u 12), .inl (cy 1, 32, .inl (fun _ => 0))), ((u 13), .inl (cy 1, 32, .inl (fun _ => 0))), ((u 14), .inl (cy 1, 32, .inl (fun _ => 0))), ((u 15), .inl (cy 1, 32, .inl (fun _ => 0))), ((u 16), .inl (cy 1, 2, .inl (fun _ => 0))), ((u 17), .inl (cy 1, 400, .inl (fun _ => 0))), ((u 18), .inl (cy 1, 400, .inl (fun _ => 0))), ((u 19), .inl (cy 1, 400, .inl (fun _ => 0))), ((u 20), .inl (cy 1, 400, .inl (fun _ => 0))), ((u 21), .inl (cy 3, 400, .inl (fun _ => 0))), ((u 22), .inl (cy 1, 1000, .inl (fun _ => 0))), ((u 23), .inl (cy 1, 1000, .inl (fun _ => 0))), ((u 24), .inl (cy 1, 48, .inl (fun _ => 0))), ((u 25), .inl (cy 3, 144, .inl (fun _ => 0))), ((u 26), .inl (cy 1, 12, .inl (fun _ => 0))), ((u 27), .inl (cy 1, 6, .inl (fun _ => 0))), ((u 28), .inl (cy 1, 6, .inl (fun _ => 0))), ((u 29), .inl (cy 1, 6, .inl (fun _ => 0))), ((u 30), .inl (cy 1, 6, .inl (fun _ => 0))), ((u 31), .inl (cy 1, 20, .inl (fun _ => 0))), ((u 32), .inl (cy 1, 20, .inl (fun _ => 0))), ((u 33), .inl (cy 1, 20, .inl (fun _ => 0))), ((u 34), .inl (cy 1, 20, .inl (fun _ => 0))), ((u 35), .inl (cy 1, 20, .inl (fun _ => 0))), ((u 36), .inl (cy 1, 5, .inl (fun _ => 0))), ((u 37), .inl (cy 3, 100, .inl (fun _ => 0))), ((u 38), .inl (cy 1, 200, .inl (fun _ => 0))), ((u 39), .inl (cy 1, 200, .inl (fun _ => 0))), ((u 40), .inl (cy 1, 200, .inl (fun _ => 0))), ((u 41), .inl (cy 1, 200, .inl (fun _ => 0))), ((u 42), .inl (cy 1, 9, .inl (fun _ => 0))), ((u 43), .inl (cy 1, 500, .inl (fun _ => 0))), ((u 44), .inl (cy 1, 30, .inl (fun _ => 0))), ((u 45), .inl (cy 1, 30, .inl (fun _ => 0))), ((u 46), .inl (cy 1, 30, .inl (fun _ => 0))), ((u 47), .inl (cy 1, 30, .inl (fun _ => 0))), ((u 48), .inl (cy 1, 6, .inl (fun _ => 0))), ((u 49), .inl (cy 1, 6, .inl (fun _ => 0))), ((u 50), .inl (cy 1, 6, .inl (fun _ => 0))), ((u 51), .inl (cy 1, 6, .inl (fun _ => 0))), ((u 52), .inl (cy 1, 6, .inl (fun _ => 0))), ((u 53), .inl (cy 1, 6, .inl (fun _ => 0))), ((u 54), .inl (cy 1, 6, .inl (fun _ => 0))), ((u 55), .inl (cy 1, 6, .inl (fun _ => 0))), ((u 56), .inl (cy 1, 6, .inl (fun _ => 0))), ((u 57), .inl (cy 1, 6, .inl (fun _ => 0)))]
set_option maxRecDepth 100000 in
set_option maxHeartbeats 4000000 in
theorem xn_eqB (cy : Nat → ClassId) (u : Nat → Nat) : xw_d cy xl_B u xq_B1 = xn_EB cy u := by
  rw [xw_d_go]
  simp only [xl_B, xw_go, xw_ce]
  rfl
