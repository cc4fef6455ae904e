def xb_X4_tryOrders_26 (U : xw_M → Int32 → Int32 → Int32 → Int32 → (xw_M → Prop) → Prop) (a1 : Int32) (a2 : Int32) (a3 : Int32) (a4 : Int32) (K26 : xw_M → Prop) (K56 : xw_M → Int32 → Prop) (Z : xw_M → Prop) (σ : xw_M) : Prop :=
  ((¬ a1 = 0 → (K56 σ (0 : Int32))) ∧ (a1 = 0 → (∀ σ1, σ1 = xw_i σ 7 8 a3 → (∀ σ2, σ2 = xw_i σ1 7 9 a4 → (xu_X10_copyFrom σ2 6 5 (fun σ3 => (Z σ3)))))))
def xb_X4_tryOrders_56 (U : xw_M → Int32 → Int32 → Int32 → Int32 → (xw_M → Prop) → Prop) (a1 : Int32) (a2 : Int32) (a3 : Int32) (a4 : Int32) (K26 : xw_M → Prop) (K56 : xw_M → Int32 → Prop) (Z : xw_M → Prop) (σ : xw_M) (v5 : Int32) : Prop :=
  (((6 : Int32) ≤ v5 → (Z σ)) ∧ (¬ (6 : Int32) ≤ v5 → (((a1 &&& ((1 : Int32) <<< (v5 &&& 31))) = 0 → (K56 σ (v5 + (1 : Int32)))) ∧ (¬ (a1 &&& ((1 : Int32) <<< (v5 &&& 31))) = 0 → (xu_X4_placeBreed σ v5 a2 (fun σ4 => (xu_X10_at σ4 5 v5 (3 : Int32) (fun r6 σ5 => (U σ5 (a1 &&& (((1 : Int32) <<< (v5 &&& 31)) ^^^ (-1 : Int32))) (a2 ||| ((1 : Int32) <<< (v5 &&& 31))) (if a3 < r6 then r6 else a3) (a4 + r6) (fun σ7 => (K56 σ7 (v5 + (1 : Int32)))))))))))))
def xb_X4_tryOrders_e (U : xw_M → Int32 → Int32 → Int32 → Int32 → (xw_M → Prop) → Prop) (a1 : Int32) (a2 : Int32) (a3 : Int32) (a4 : Int32) (K26 : xw_M → Prop) (K56 : xw_M → Int32 → Prop) (Z : xw_M → Prop) (σ : xw_M) : Prop :=
  (((σ.1 7 8) < a3 → (Z σ)) ∧ (¬ (σ.1 7 8) < a3 → ((¬ a3 = (σ.1 7 8) → (K26 σ)) ∧ (a3 = (σ.1 7 8) → ((a4 < (σ.1 7 9) → (K26 σ)) ∧ (¬ a4 < (σ.1 7 9) → (Z σ)))))))
def xo_X4_tryOrders (U : xw_M → Int32 → Int32 → Int32 → Int32 → (xw_M → Prop) → Prop) (σ : xw_M) (a1 : Int32) (a2 : Int32) (a3 : Int32) (a4 : Int32) (Z : xw_M → Prop) : Prop :=
  ∀ (K26 : xw_M → Prop) (K56 : xw_M → Int32 → Prop), (∀ (σ : xw_M), xb_X4_tryOrders_26 U a1 a2 a3 a4 K26 K56 Z σ → K26 σ) → (∀ (σ : xw_M) (v5 : Int32), xb_X4_tryOrders_56 U a1 a2 a3 a4 K26 K56 Z σ v5 → K56 σ v5) → xb_X4_tryOrders_e U a1 a2 a3 a4 K26 K56 Z σ
def xu_X4_tryOrders : Nat → xw_M → Int32 → Int32 → Int32 → Int32 → (xw_M → Prop) → Prop
  | 0 => fun _ _ _ _ _ _ => False
  | d + 1 => xo_X4_tryOrders (xu_X4_tryOrders d)
def xb_X3_parseUnit_54 (U : xw_M → Int32 → Int32 → (xw_M → Prop) → Prop) (a1 : Int32) (K54 : xw_M → Int32 → Prop) (Z : xw_M → Prop) (σ : xw_M) (v2 : Int32) : Prop :=
  ((v2 = (25 : Int32) → ((a1 < (6 : Int32) → (xu_X3_take σ (25 : Int32) (fun σ8 => (U σ8 (3 : Int32) (a1 + (1 : Int32)) (fun σ9 => (xu_X3_take σ9 (26 : Int32) (fun σ10 => (Z σ10)))))))) ∧ (¬ a1 < (6 : Int32) → (xu_X3_fail σ (2 : Int32) (fun σ11 => (Z σ11)))))) ∧ (¬ v2 = (25 : Int32) → (xu_X3_fail σ (1 : Int32) (fun σ12 => (Z σ12)))))
def xb_X3_parseUnit_e (U : xw_M → Int32 → Int32 → (xw_M → Prop) → Prop) (a1 : Int32) (K54 : xw_M → Int32 → Prop) (Z : xw_M → Prop) (σ : xw_M) : Prop :=
  (xu_X3_seen σ (fun r2 σ1 => ((¬ r2 = (16 : Int32) → ((r2 < 0 → (K54 σ1 r2)) ∧ (¬ r2 < 0 → (((9 : Int32) ≤ r2 → (K54 σ1 r2)) ∧ (¬ (9 : Int32) ≤ r2 → (xu_X3_take σ1 r2 (fun σ3 => (xu_X9_addStep σ3 1 r2 (0 : Int32) (fun σ4 => (Z σ4)))))))))) ∧ (r2 = (16 : Int32) → (xu_X3_takeInt σ1 (fun r6 σ5 => (xu_X9_addStep σ5 1 (16 : Int32) r6 (fun σ7 => (Z σ7)))))))))
def xo_X3_parseUnit (U : xw_M → Int32 → Int32 → (xw_M → Prop) → Prop) (σ : xw_M) (a1 : Int32) (Z : xw_M → Prop) : Prop :=
  ∀ (K54 : xw_M → Int32 → Prop), (∀ (σ : xw_M) (v2 : Int32), xb_X3_parseUnit_54 U a1 K54 Z σ v2 → K54 σ v2) → xb_X3_parseUnit_e U a1 K54 Z σ
def xb_X3_parseLevel_40 (U : xw_M → Int32 → Int32 → (xw_M → Prop) → Prop) (a1 : Int32) (a2 : Int32) (K40 : xw_M → Prop) (K56 : xw_M → Int32 → Int32 → Prop) (Z : xw_M → Prop) (σ : xw_M) : Prop :=
  ((¬ a1 = (2 : Int32) → (K56 σ (400 : Int32) (0 : Int32))) ∧ (a1 = (2 : Int32) → (K56 σ (1 : Int32) (0 : Int32))))
def xb_X3_parseLevel_56 (U : xw_M → Int32 → Int32 → (xw_M → Prop) → Prop) (a1 : Int32) (a2 : Int32) (K40 : xw_M → Prop) (K56 : xw_M → Int32 → Int32 → Prop) (Z : xw_M → Prop) (σ : xw_M) (v3 : Int32) (v4 : Int32) : Prop :=
  ((v3 ≤ v4 → (Z σ)) ∧ (¬ v3 ≤ v4 → (xu_X3_seen σ (fun r9 σ8 => (xu_X3_joins σ8 a1 r9 (fun r11 σ10 => ((r11 = 0 → (Z σ10)) ∧ (¬ r11 = 0 → (xu_X3_seen σ10 (fun r13 σ12 => (xu_X3_take σ12 r13 (fun σ14 => (U σ14 (a1 + (1 : Int32)) a2 (fun σ15 => (xu_X9_addStep σ15 1 r13 (0 : Int32) (fun σ16 => (K56 σ16 v3 (v4 + (1 : Int32)))))))))))))))))))
def xb_X3_parseLevel_e (U : xw_M → Int32 → Int32 → (xw_M → Prop) → Prop) (a1 : Int32) (a2 : Int32) (K40 : xw_M → Prop) (K56 : xw_M → Int32 → Int32 → Prop) (Z : xw_M → Prop) (σ : xw_M) : Prop :=
  ((a1 < (5 : Int32) → (U σ (a1 + (1 : Int32)) a2 (fun σ1 => ((¬ a1 = (2 : Int32) → (K40 σ1)) ∧ (a1 = (2 : Int32) → (xu_X3_seen σ1 (fun r3 σ2 => (xu_X3_joins σ2 (2 : Int32) r3 (fun r5 σ4 => ((¬ r5 = 0 → (K40 σ4)) ∧ (r5 = 0 → (xu_X3_fail σ4 (1 : Int32) (fun σ6 => (K40 σ6)))))))))))))) ∧ (¬ a1 < (5 : Int32) → (xo_X3_parseUnit U σ a2 (fun σ7 => (Z σ7)))))
def xo_X3_parseLevel (U : xw_M → Int32 → Int32 → (xw_M → Prop) → Prop) (σ : xw_M) (a1 : Int32) (a2 : Int32) (Z : xw_M → Prop) : Prop :=
  ∀ (K40 : xw_M → Prop) (K56 : xw_M → Int32 → Int32 → Prop), (∀ (σ : xw_M), xb_X3_parseLevel_40 U a1 a2 K40 K56 Z σ → K40 σ) → (∀ (σ : xw_M) (v3 : Int32) (v4 : Int32), xb_X3_parseLevel_56 U a1 a2 K40 K56 Z σ v3 v4 → K56 σ v3 v4) → xb_X3_parseLevel_e U a1 a2 K40 K56 Z σ
def xu_X3_parseLevel : Nat → xw_M → Int32 → Int32 → (xw_M → Prop) → Prop
  | 0 => fun _ _ _ _ => False
  | d + 1 => xo_X3_parseLevel (xu_X3_parseLevel d)
def xb_X4_search_6 (o1 : Nat) (a2 : Int32) (a3 : Int32) (K6 : xw_M → Int32 → Int32 → Prop) (K115 : xw_M → Int32 → Int32 → Int32 → Prop) (Z : Int32 → xw_M → Prop) (σ : xw_M) (v4 : Int32) (v5 : Int32) : Prop :=
  (((σ.1 4 11) ≤ v5 → (∀ σ1, σ1 = xw_i σ 7 7 a3 → (∀ σ2, σ2 = xw_i σ1 7 8 (1000000 : Int32) → (∀ σ3, σ3 = xw_i σ2 7 9 (1000000 : Int32) → (xu_X10_clear σ3 5 (fun σ4 => (xu_X4_tryOrders 8 σ4 v4 (0 : Int32) (0 : Int32) (0 : Int32) (fun σ5 => (((1 : Int32) = 0 ∨ (1 : Int32) = 1) ∧ Z (1 : Int32) σ5))))))))) ∧ (¬ (σ.1 4 11) ≤ v5 → (xu_X2_ofBreed σ (σ.1 (11 + o1) 3) v5 (fun r7 σ6 => (vp_in v5 6 ∧ (xu_J6_bitCount_0f7a4 σ6 r7 (fun r9 σ8 => (vp_in v5 6 ∧ ∀ σ10, σ10 = xw_i σ8 45 (Int32.toNatClampNeg v5) ((σ6.1 31 (Int32.toNatClampNeg v5)) * r9) → (xu_X2_handlersOf σ10 r7 (fun r12 σ11 => (vp_in v5 6 ∧ ∀ σ13, σ13 = xw_i σ11 47 (Int32.toNatClampNeg v5) r12 → ((¬ r7 = 0 → (xu_X4_judgesFor σ13 o1 v5 r7 a2 (fun r15 σ14 => (vp_in v5 6 ∧ ∀ σ16, σ16 = xw_i σ14 46 (Int32.toNatClampNeg v5) r15 → ((r7 = 0 → (K115 σ16 v4 v5 r7)) ∧ (¬ r7 = 0 → (vp_in v5 6 ∧ ((¬ (σ16.1 46 (Int32.toNatClampNeg v5)) = 0 → (K115 σ16 v4 v5 r7)) ∧ ((σ16.1 46 (Int32.toNatClampNeg v5)) = 0 → (((0 : Int32) = 0 ∨ (0 : Int32) = 1) ∧ Z (0 : Int32) σ16)))))))))) ∧ (r7 = 0 → (vp_in v5 6 ∧ ∀ σ17, σ17 = xw_i σ13 46 (Int32.toNatClampNeg v5) (0 : Int32) → ((r7 = 0 → (K115 σ17 v4 v5 r7)) ∧ (¬ r7 = 0 → (vp_in v5 6 ∧ ((¬ (σ17.1 46 (Int32.toNatClampNeg v5)) = 0 → (K115 σ17 v4 v5 r7)) ∧ ((σ17.1 46 (Int32.toNatClampNeg v5)) = 0 → (((0 : Int32) = 0 ∨ (0 : Int32) = 1) ∧ Z (0 : Int32) σ17))))))))))))))))))))
def xb_X4_search_115 (o1 : Nat) (a2 : Int32) (a3 : Int32) (K6 : xw_M → Int32 → Int32 → Prop) (K115 : xw_M → Int32 → Int32 → Int32 → Prop) (Z : Int32 → xw_M → Prop) (σ : xw_M) (v4 : Int32) (v5 : Int32) (v6 : Int32) : Prop :=
  ((¬ v6 = 0 → (K6 σ (v4 ||| ((1 : Int32) <<< (v5 &&& 31))) (v5 + (1 : Int32)))) ∧ (v6 = 0 → (K6 σ (v4 ||| (0 : Int32)) (v5 + (1 : Int32)))))
def xb_X4_search_e (o1 : Nat) (a2 : Int32) (a3 : Int32) (K6 : xw_M → Int32 → Int32 → Prop) (K115 : xw_M → Int32 → Int32 → Int32 → Prop) (Z : Int32 → xw_M → Prop) (σ : xw_M) : Prop :=
  (K6 σ (0 : Int32) (0 : Int32))
def xu_X4_search (σ : xw_M) (o1 : Nat) (a2 : Int32) (a3 : Int32) (Z : Int32 → xw_M → Prop) : Prop :=
  ∀ (K6 : xw_M → Int32 → Int32 → Prop) (K115 : xw_M → Int32 → Int32 → Int32 → Prop), (∀ (σ : xw_M) (v4 : Int32) (v5 : Int32), xb_X4_search_6 o1 a2 a3 K6 K115 Z σ v4 v5 → K6 σ v4 v5) → (∀ (σ : xw_M) (v4 : Int32) (v5 : Int32) (v6 : Int32), xb_X4_search_115 o1 a2 a3 K6 K115 Z σ v4 v5 v6 → K115 σ v4 v5 v6) → xb_X4_search_e o1 a2 a3 K6 K115 Z σ
def xu_X11_plan (σ : xw_M) (a1 : Int32) (a2 : Int32) (Z : Int32 → xw_M → Prop) : Prop :=
  (xu_X11_isShow σ a1 (fun r2 σ1 => ((r2 = 0 → (Z (-1 : Int32) σ1)) ∧ (¬ r2 = 0 → (xu_X11_isKnown σ1 a2 (fun r4 σ3 => ((¬ r4 = 0 → (vp_in a1 5 ∧ (xu_X4_search σ3 (Int32.toNatClampNeg a1) a2 (σ3.1 0 10) (fun r7 σ6 => ((¬ r7 = 0 → (vp_in a1 5 ∧ (xu_X10_copyFrom σ6 (Int32.toNatClampNeg a1) 6 (fun σ9 => (Z (σ9.1 7 8) σ9))))) ∧ (r7 = 0 → (Z (-2 : Int32) σ6))))))) ∧ (r4 = 0 → (Z (-1 : Int32) σ3)))))))))
def xb_X3_parseRule_34 (K34 : xw_M → Int32 → Prop) (K76 : xw_M → Int32 → Int32 → Prop) (K96 : xw_M → Int32 → Int32 → Int32 → Prop) (K117 : xw_M → Int32 → Int32 → Int32 → Int32 → Prop) (K152 : xw_M → Int32 → Int32 → Int32 → Int32 → Int32 → Prop) (Z : xw_M → Prop) (σ : xw_M) (v1 : Int32) : Prop :=
  (((σ.1 10 9) < (16 : Int32) → (xu_X3_take σ v1 (fun σ4 => ((v1 = (4 : Int32) → (xu_X3_takeInt σ4 (fun r6 σ5 => (K76 σ5 r6 v1)))) ∧ (¬ v1 = (4 : Int32) → ((¬ v1 = (12 : Int32) → (K76 σ4 (0 : Int32) v1)) ∧ (v1 = (12 : Int32) → (xu_X3_takeInt σ4 (fun r8 σ7 => (K76 σ7 r8 v1)))))))))) ∧ (¬ (σ.1 10 9) < (16 : Int32) → (xu_X3_fail σ (2 : Int32) (fun σ9 => (Z σ9)))))
def xb_X3_parseRule_76 (K34 : xw_M → Int32 → Prop) (K76 : xw_M → Int32 → Int32 → Prop) (K96 : xw_M → Int32 → Int32 → Int32 → Prop) (K117 : xw_M → Int32 → Int32 → Int32 → Int32 → Prop) (K152 : xw_M → Int32 → Int32 → Int32 → Int32 → Int32 → Prop) (Z : xw_M → Prop) (σ : xw_M) (s0 : Int32) (v1 : Int32) : Prop :=
  ((¬ v1 = (12 : Int32) → (K96 σ v1 s0 (0 : Int32))) ∧ (v1 = (12 : Int32) → (xu_X3_take σ (13 : Int32) (fun σ10 => (xu_X3_takeInt σ10 (fun r12 σ11 => (K96 σ11 v1 s0 r12)))))))
def xb_X3_parseRule_96 (K34 : xw_M → Int32 → Prop) (K76 : xw_M → Int32 → Int32 → Prop) (K96 : xw_M → Int32 → Int32 → Int32 → Prop) (K117 : xw_M → Int32 → Int32 → Int32 → Int32 → Prop) (K152 : xw_M → Int32 → Int32 → Int32 → Int32 → Int32 → Prop) (Z : xw_M → Prop) (σ : xw_M) (v1 : Int32) (v2 : Int32) (v3 : Int32) : Prop :=
  ((¬ v1 = (11 : Int32) → (K117 σ v1 v2 v3 (σ.1 10 10))) ∧ (v1 = (11 : Int32) → (xu_X3_parseLevel 30 σ (3 : Int32) (0 : Int32) (fun σ13 => (K117 σ13 v1 v2 v3 (σ.1 10 10))))))
def xb_X3_parseRule_117 (K34 : xw_M → Int32 → Prop) (K76 : xw_M → Int32 → Int32 → Prop) (K96 : xw_M → Int32 → Int32 → Int32 → Prop) (K117 : xw_M → Int32 → Int32 → Int32 → Int32 → Prop) (K152 : xw_M → Int32 → Int32 → Int32 → Int32 → Int32 → Prop) (Z : xw_M → Prop) (σ : xw_M) (v1 : Int32) (v2 : Int32) (v3 : Int32) (v4 : Int32) : Prop :=
  ((v1 = (9 : Int32) → (K152 σ v1 v2 v3 v4 (σ.1 10 10))) ∧ (¬ v1 = (9 : Int32) → ((v1 = (4 : Int32) → (K152 σ v1 v2 v3 v4 (σ.1 10 10))) ∧ (¬ v1 = (4 : Int32) → ((¬ v1 = (11 : Int32) → (xu_X3_take σ (17 : Int32) (fun σ14 => (xu_X9_addRule σ14 1 v1 v2 v3 v4 (σ.1 10 10) (fun σ15 => (Z σ15)))))) ∧ (v1 = (11 : Int32) → (xu_X3_seen σ (fun r17 σ16 => ((¬ r17 = (10 : Int32) → (xu_X3_take σ16 (17 : Int32) (fun σ18 => (xu_X9_addRule σ18 1 v1 v2 v3 v4 (σ.1 10 10) (fun σ19 => (Z σ19)))))) ∧ (r17 = (10 : Int32) → (K152 σ16 v1 v2 v3 v4 (σ.1 10 10))))))))))))
def xb_X3_parseRule_152 (K34 : xw_M → Int32 → Prop) (K76 : xw_M → Int32 → Int32 → Prop) (K96 : xw_M → Int32 → Int32 → Int32 → Prop) (K117 : xw_M → Int32 → Int32 → Int32 → Int32 → Prop) (K152 : xw_M → Int32 → Int32 → Int32 → Int32 → Int32 → Prop) (Z : xw_M → Prop) (σ : xw_M) (v1 : Int32) (v2 : Int32) (v3 : Int32) (v4 : Int32) (v5 : Int32) : Prop :=
  (xu_X3_take σ (10 : Int32) (fun σ20 => (xu_X3_parseLevel 30 σ20 (0 : Int32) (0 : Int32) (fun σ21 => (xu_X3_take σ21 (17 : Int32) (fun σ22 => (xu_X9_addRule σ22 1 v1 v2 v3 v4 v5 (fun σ23 => (Z σ23)))))))))
def xb_X3_parseRule_e (K34 : xw_M → Int32 → Prop) (K76 : xw_M → Int32 → Int32 → Prop) (K96 : xw_M → Int32 → Int32 → Int32 → Prop) (K117 : xw_M → Int32 → Int32 → Int32 → Int32 → Prop) (K152 : xw_M → Int32 → Int32 → Int32 → Int32 → Int32 → Prop) (Z : xw_M → Prop) (σ : xw_M) : Prop :=
  (xu_X3_seen σ (fun r2 σ1 => ((r2 = (9 : Int32) → (K34 σ1 r2)) ∧ (¬ r2 = (9 : Int32) → ((r2 = (4 : Int32) → (K34 σ1 r2)) ∧ (¬ r2 = (4 : Int32) → ((r2 = (11 : Int32) → (K34 σ1 r2)) ∧ (¬ r2 = (11 : Int32) → ((r2 = (12 : Int32) → (K34 σ1 r2)) ∧ (¬ r2 = (12 : Int32) → (xu_X3_fail σ1 (1 : Int32) (fun σ3 => (Z σ3)))))))))))))
def xu_X3_parseRule (σ : xw_M) (Z : xw_M → Prop) : Prop :=
  ∀ (K34 : xw_M → Int32 → Prop) (K76 : xw_M → Int32 → Int32 → Prop) (K96 : xw_M → Int32 → Int32 → Int32 → Prop) (K117 : xw_M → Int32 → Int32 → Int32 → Int32 → Prop) (K152 : xw_M → Int32 → Int32 → Int32 → Int32 → Int32 → Prop), (∀ (σ : xw_M) (v1 : Int32), xb_X3_parseRule_34 K34 K76 K96 K117 K152 Z σ v1 → K34 σ v1) → (∀ (σ : xw_M) (s0 : Int32) (v1 : Int32), xb_X3_parseRule_76 K34 K76 K96 K117 K152 Z σ s0 v1 → K76 σ s0 v1) → (∀ (σ : xw_M) (v1 : Int32) (v2 : Int32) (v3 : Int32), xb_X3_parseRule_96 K34 K76 K96 K117 K152 Z σ v1 v2 v3 → K96 σ v1 v2 v3) → (∀ (σ : xw_M) (v1 : Int32) (v2 : Int32) (v3 : Int32) (v4 : Int32), xb_X3_parseRule_117 K34 K76 K96 K117 K152 Z σ v1 v2 v3 v4 → K117 σ v1 v2 v3 v4) → (∀ (σ : xw_M) (v1 : Int32) (v2 : Int32) (v3 : Int32) (v4 : Int32) (v5 : Int32), xb_X3_parseRule_152 K34 K76 K96 K117 K152 Z σ v1 v2 v3 v4 v5 → K152 σ v1 v2 v3 v4 v5) → xb_X3_parseRule_e K34 K76 K96 K117 K152 Z σ
theorem xf_X4_35 {p : Program} {s : State} {m : MethodId} {args : Array Value} {c : Code} {cc : ByteArray} {nL : Nat} {D : va_G} {cy : Nat → ClassId} {lay : List xw_E} {q : Nat → Nat} (X : xr_X p s m args c cc nL RX4 D cy lay q) : xr_F args s RX4 35 4 8 := ⟨RX4, TX4, 10, tyX4, rfl, by decide, fun w h => X.2.2.2.2.1 w (xt_inX4 w h), tyX4_ok, nmX4, Or.inl (X.2.2.2.2.1 _ xt_2_43)⟩
theorem xf_X4_38 {p : Program} {s : State} {m : MethodId} {args : Array Value} {c : Code} {cc : ByteArray} {nL : Nat} {D : va_G} {cy : Nat → ClassId} {lay : List xw_E} {q : Nat → Nat} (X : xr_X p s m args c cc nL RX4 D cy lay q) : xr_F args s RX4 38 4 9 := ⟨RX4, TX4, 10, tyX4, rfl, by decide, fun w h => X.2.2.2.2.1 w (xt_inX4 w h), tyX4_ok, nmX4, Or.inl (X.2.2.2.2.1 _ xt_2_45)⟩
theorem xp_X4_35 {p : Program} {s : State} {m : MethodId} {args : Array Value} {c : Code} {cc : ByteArray} {nL : Nat} {D : va_G} {cy : Nat → ClassId} {lay : List xw_E} {q : Nat → Nat} (X : xr_X p s m args c cc nL RX4 D cy lay q) : xr_P args s RX4 35 4 8 := ⟨RX4, TX4, 10, tyX4, rfl, by decide, fun w h => X.2.2.2.2.1 w (xt_inX4 w h), tyX4_ok, nmX4, Or.inl (X.2.2.2.2.1 _ xt_2_43), rfl, by decide +kernel⟩
theorem xp_X4_38 {p : Program} {s : State} {m : MethodId} {args : Array Value} {c : Code} {cc : ByteArray} {nL : Nat} {D : va_G} {cy : Nat → ClassId} {lay : List xw_E} {q : Nat → Nat} (X : xr_X p s m args c cc nL RX4 D cy lay q) : xr_P args s RX4 38 4 9 := ⟨RX4, TX4, 10, tyX4, rfl, by decide, fun w h => X.2.2.2.2.1 w (xt_inX4 w h), tyX4_ok, nmX4, Or.inl (X.2.2.2.2.1 _ xt_2_45), rfl, by decide +kernel⟩
theorem xf_X4_28 {p : Program} {s : State} {m : MethodId} {args : Array Value} {c : Code} {cc : ByteArray} {nL : Nat} {D : va_G} {cy : Nat → ClassId} {lay : List xw_E} {q : Nat → Nat} (X : xr_X p s m args c cc nL RX4 D cy lay q) : xr_F args s RX4 28 4 6 := ⟨RX4, TX4, 10, tyX4, rfl, by decide, fun w h => X.2.2.2.2.1 w (xt_inX4 w h), tyX4_ok, nmX4, Or.inl (X.2.2.2.2.1 _ xt_2_40)⟩
theorem xm_X10_copyFrom : xr_MW yX10_copyFrom cX10_copyFrom 2 none 1 := ⟨xt_4_11, xt_1_10, by decide, by decide, by decide +kernel⟩
theorem xm_X4_placeBreed : xr_MW yX4_placeBreed cX4_placeBreed 7 none 2 := ⟨xt_4_16, xt_1_9, by decide, by decide, by decide +kernel⟩
theorem xm_X4_tryOrders : xr_MW yX4_tryOrders cX4_tryOrders 8 none 4 := ⟨xt_4_7, xt_1_9, by decide, by decide, by decide +kernel⟩
set_option maxRecDepth 100000 in
set_option maxHeartbeats 4000000 in
theorem xc_X4_tryOrders_of (l : Launch) (D : va_G) (cy : Nat → ClassId) (q : Nat → Nat) (d : Nat) (U : xw_M → Int32 → Int32 → Int32 → Int32 → (xw_M → Prop) → Prop) (ih : ∀ (σ : xw_M) (a1 : Int32) (a2 : Int32) (a3 : Int32) (a4 : Int32) {Z : xw_M → Prop}, U σ a1 a2 a3 a4 Z → xr_CV l yX4_tryOrders cX4_tryOrders 8 { frames := 6 + d * 1 + 0, cells := 0, slots := 0, locals := 123 + d * 27 + 0 } D cy xl_A q σ [.ref (q 7), .int a1, .int a2, .int a3, .int a4] Z) (σ : xw_M) (a1 : Int32) (a2 : Int32) (a3 : Int32) (a4 : Int32) {Z : xw_M → Prop} (hU : xo_X4_tryOrders U σ a1 a2 a3 a4 Z) : xr_CV l yX4_tryOrders cX4_tryOrders 8 { frames := 6 + (d + 1) * 1 + 0, cells := 0, slots := 0, locals := 123 + (d + 1) * 27 + 0 } D cy xl_A q σ [.ref (q 7), .int a1, .int a2, .int a3, .int a4] Z := by
  refine xr_CV.of RX4 rfl (by decide) (Nat.le_of_ble_eq_true rfl) (fun p e s m below meth c X hw hr hk ls hl => ?_)
  have hx := X.1
  have hb := X.2.1
  have hl : lv_has ls 8 [(0, .ref (q 7)), (1, .int a1), (2, .int a2), (3, .int a3), (4, .int a4)] := hl
  have hB := hU (fun (σ : xw_M) => ∀ (H : Heap) (locs : List Loc) (ls : Array Slot), xr_H D cy xl_A q s σ H locs → lv_has ls 8 [(0, .ref (q 7)), (1, .int a1), (2, .int a2), (3, .int a3), (4, .int a4)] → W p l e ({ frames := 6 + (d + 1) * 1 + 0, cells := 0, slots := 0, locals := 123 + (d + 1) * 27 + 0 } : Room) s m ([.ref (q 7), .int a1, .int a2, .int a3, .int a4] : List Value).toArray below meth c H locs 0 0 (MQ below (va_Qv Z (xr_po D cy xl_A q) (xw_A xl_A q s.heap.size)) ([.ref (q 7), .int a1, .int a2, .int a3, .int a4] : List Value).toArray s 0 0 (xw_A xl_A q s.heap.size)) (F0 m 26 ls []))
    (fun (σ : xw_M) (v5 : Int32) => ∀ (H : Heap) (locs : List Loc) (ls : Array Slot), xr_H D cy xl_A q s σ H locs → lv_has ls 8 [(0, .ref (q 7)), (1, .int a1), (2, .int a2), (3, .int a3), (4, .int a4), (5, .int v5)] → W p l e ({ frames := 6 + (d + 1) * 1 + 0, cells := 0, slots := 0, locals := 123 + (d + 1) * 27 + 0 } : Room) s m ([.ref (q 7), .int a1, .int a2, .int a3, .int a4] : List Value).toArray below meth c H locs 0 0 (MQ below (va_Qv Z (xr_po D cy xl_A q) (xw_A xl_A q s.heap.size)) ([.ref (q 7), .int a1, .int a2, .int a3, .int a4] : List Value).toArray s 0 0 (xw_A xl_A q s.heap.size)) (F0 m 56 ls []))
    (by
    intro σ hB H locs ls hw hl
    unfold xb_X4_tryOrders_26 at hB
    refine lv_iload_n hx hb dX4_tryOrders_26 rfl (lv_at hl 1 rfl) ?_
    refine lv_if_ne (tgt := 53) hx hb dX4_tryOrders_27 (by decide) (fun hc => ?_) (fun hc => ?_)
    · replace hB := hB.1 hc
      refine lv_iconst (v := (0 : Int32)) hx hb dX4_tryOrders_53 (by decide) ?_
      refine lv_istore (lv' := [(5, .int (0 : Int32)), (0, .ref (q 7)), (1, .int a1), (2, .int a2), (3, .int a3), (4, .int a4)]) hx hb dX4_tryOrders_54 hl (by decide) rfl (fun ls hl => ?_)
      exact hB _ _ _ hw (lv_sub hl [1, 2, 3, 4, 5, 0] rfl)
    · replace hB := hB.2 hc
      refine lv_aload_n hx hb dX4_tryOrders_30 rfl (lv_at hl 0 rfl) ?_
      refine lv_iload_n hx hb dX4_tryOrders_31 rfl (lv_at hl 3 rfl) ?_
      refine xr_puti X hw (xp_X4_35 X) 7 xl_A_Planner_at rfl dX4_tryOrders_32 hB (fun σ1 H locs hB hw => ?_)
      refine lv_aload_n hx hb dX4_tryOrders_35 rfl (lv_at hl 0 rfl) ?_
      refine lv_iload hx hb dX4_tryOrders_36 (lv_at hl 4 rfl) ?_
      refine xr_puti X hw (xp_X4_38 X) 7 xl_A_Planner_at rfl dX4_tryOrders_38 hB (fun σ2 H locs hB hw => ?_)
      refine lv_aload_n hx hb dX4_tryOrders_41 rfl (lv_at hl 0 rfl) ?_
      refine xr_getr X hw (xf_X4_28 X) 7 xl_A_Planner_at rfl dX4_tryOrders_42 ?_
      refine lv_aload_n hx hb dX4_tryOrders_45 rfl (lv_at hl 0 rfl) ?_
      refine xr_getr X hw (xf_X4_24 X) 7 xl_A_Planner_at rfl dX4_tryOrders_46 ?_
      refine xr_v hw (xr_runV (As := [.ref (q 21)]) (rest := []) X hw 22 (xc_X10_copyFrom l D cy q σ2 6 5 (by decide) (by decide) hB _) xm_X10_copyFrom xt_4_8 xt_4_9 xt_4_10 (by constructor <;> (try dsimp only) <;> omega) (xl_A_Timetable_at (i := 6) (by decide)) rfl rfl rfl rfl hl.1 (Nat.le_of_ble_eq_true rfl) dX4_tryOrders_49 ⟨Nat.zero_le _, Nat.zero_le _⟩) (fun σ3 H locs hB hw => ?_)
      exact xr_vret X hw hr hk hB dX4_tryOrders_52)
    (by
    intro σ v5 hB H locs ls hw hl
    unfold xb_X4_tryOrders_56 at hB
    refine lv_iload hx hb dX4_tryOrders_56 (lv_at hl 5 rfl) ?_
    refine lv_bipush (v := (6 : Int32)) hx hb dX4_tryOrders_58 (by decide) ?_
    refine lv_icmp_ge (tgt := 126) hx hb dX4_tryOrders_60 (by decide) (fun hc => ?_) (fun hc => ?_)
    · replace hB := hB.1 hc
      exact xr_vret X hw hr hk hB dX4_tryOrders_126
    · replace hB := hB.2 hc
      refine lv_iconst (v := (1 : Int32)) hx hb dX4_tryOrders_63 (by decide) ?_
      refine lv_iload hx hb dX4_tryOrders_64 (lv_at hl 5 rfl) ?_
      refine lv_ishl hx hb dX4_tryOrders_66 ?_
      refine lv_istore (lv' := [(6, .int ((1 : Int32) <<< (v5 &&& 31))), (0, .ref (q 7)), (1, .int a1), (2, .int a2), (3, .int a3), (4, .int a4), (5, .int v5)]) hx hb dX4_tryOrders_67 hl (by decide) rfl (fun ls hl => ?_)
      refine lv_iload_n hx hb dX4_tryOrders_69 rfl (lv_at hl 2 rfl) ?_
      refine lv_iload hx hb dX4_tryOrders_70 (lv_at hl 0 rfl) ?_
      refine lv_iand hx hb dX4_tryOrders_72 ?_
      refine lv_if_eq (tgt := 120) hx hb dX4_tryOrders_73 (by decide) (fun hc => ?_) (fun hc => ?_)
      · replace hB := hB.1 hc
        refine lv_iinc (v := (v5 + (1 : Int32))) (lv' := [(5, .int (v5 + (1 : Int32))), (6, .int ((1 : Int32) <<< (v5 &&& 31))), (0, .ref (q 7)), (1, .int a1), (2, .int a2), (3, .int a3), (4, .int a4)]) hx hb dX4_tryOrders_120 hl (k := 6) rfl rfl (by decide) rfl (fun ls hl => ?_)
        refine lv_goto (tgt := 56) hx hb dX4_tryOrders_123 (by decide) ?_
        exact hB _ _ _ hw (lv_sub hl [2, 3, 4, 5, 6, 0] rfl)
      · replace hB := hB.2 hc
        refine lv_aload_n hx hb dX4_tryOrders_76 rfl (lv_at hl 1 rfl) ?_
        refine lv_iload hx hb dX4_tryOrders_77 (lv_at hl 6 rfl) ?_
        refine lv_iload_n hx hb dX4_tryOrders_79 rfl (lv_at hl 3 rfl) ?_
        refine xr_v hw (xr_runV (As := [.int v5, .int a2]) (rest := []) X hw 7 (xc_X4_placeBreed l D cy q σ v5 a2 hB _) xm_X4_placeBreed xt_4_13 xt_4_15 xt_p_22 (by constructor <;> (try dsimp only) <;> omega) xl_A_Planner_at rfl rfl rfl rfl hl.1 (Nat.le_of_ble_eq_true rfl) dX4_tryOrders_80 ⟨Nat.zero_le _, Nat.zero_le _⟩) (fun σ4 H locs hB hw => ?_)
        refine lv_aload_n hx hb dX4_tryOrders_83 rfl (lv_at hl 1 rfl) ?_
        refine xr_getr X hw (xf_X4_24 X) 7 xl_A_Planner_at rfl dX4_tryOrders_84 ?_
        refine lv_iload hx hb dX4_tryOrders_87 (lv_at hl 6 rfl) ?_
        refine lv_iconst (v := (3 : Int32)) hx hb dX4_tryOrders_89 (by decide) ?_
        refine xr_i hw (xr_runV (As := [.int v5, .int (3 : Int32)]) (rest := []) X hw 21 (xc_X10_at l D cy q σ4 5 v5 (3 : Int32) (by decide) hB _) xm_X10_at xt_4_33 xt_3_165 xt_3_166 (by constructor <;> (try dsimp only) <;> omega) (xl_A_Timetable_at (i := 5) (by decide)) rfl rfl rfl rfl hl.1 (Nat.le_of_ble_eq_true rfl) dX4_tryOrders_90 ⟨Nat.zero_le _, Nat.zero_le _⟩) (fun r6 σ5 H locs hB hw => ?_)
        refine lv_istore (lv' := [(7, .int r6), (6, .int ((1 : Int32) <<< (v5 &&& 31))), (0, .ref (q 7)), (1, .int a1), (2, .int a2), (3, .int a3), (4, .int a4), (5, .int v5)]) hx hb dX4_tryOrders_93 hl (by decide) rfl (fun ls hl => ?_)
        refine lv_aload_n hx hb dX4_tryOrders_95 rfl (lv_at hl 2 rfl) ?_
        refine lv_iload_n hx hb dX4_tryOrders_96 rfl (lv_at hl 3 rfl) ?_
        refine lv_iload hx hb dX4_tryOrders_97 (lv_at hl 1 rfl) ?_
        refine lv_iconst (v := (-1 : Int32)) hx hb dX4_tryOrders_99 (by decide) ?_
        refine lv_ixor hx hb dX4_tryOrders_100 ?_
        refine lv_iand hx hb dX4_tryOrders_101 ?_
        refine lv_iload_n hx hb dX4_tryOrders_102 rfl (lv_at hl 4 rfl) ?_
        refine lv_iload hx hb dX4_tryOrders_103 (lv_at hl 1 rfl) ?_
        refine lv_ior hx hb dX4_tryOrders_105 ?_
        refine lv_iload_n hx hb dX4_tryOrders_106 rfl (lv_at hl 5 rfl) ?_
        refine lv_iload hx hb dX4_tryOrders_107 (lv_at hl 0 rfl) ?_
        refine va_mmax hx hb (X.2.2.1.trans hl.1.symm) X.2.2.2.1 (X.2.2.2.2.1 _ xt_4_42) (X.2.2.2.2.1 _ xt_3_150) (X.2.2.2.2.1 _ xt_1_19) (X.2.2.2.2.1 _ xt_3_151) (Nat.le_trans (m := 1) (Nat.le_of_ble_eq_true rfl) (by (try dsimp only); omega)) (Nat.le_trans (m := 40) (Nat.le_of_ble_eq_true rfl) (by (try dsimp only); omega)) (Nat.zero_le _) (Nat.zero_le _) dX4_tryOrders_109 ?_
        refine lv_iload hx hb dX4_tryOrders_112 (lv_at hl 6 rfl) ?_
        refine lv_iload hx hb dX4_tryOrders_114 (lv_at hl 0 rfl) ?_
        refine lv_iadd hx hb dX4_tryOrders_116 ?_
        refine xr_v hw (xr_runV (As := [.int (a1 &&& (((1 : Int32) <<< (v5 &&& 31)) ^^^ (-1 : Int32))), .int (a2 ||| ((1 : Int32) <<< (v5 &&& 31))), .int (if a3 < r6 then r6 else a3), .int (a4 + r6)]) (rest := []) X hw 7 (ih σ5 (a1 &&& (((1 : Int32) <<< (v5 &&& 31)) ^^^ (-1 : Int32))) (a2 ||| ((1 : Int32) <<< (v5 &&& 31))) (if a3 < r6 then r6 else a3) (a4 + r6) hB _) xm_X4_tryOrders xt_4_4 xt_4_6 xt_p_21 (by constructor <;> (try dsimp only) <;> omega) xl_A_Planner_at rfl rfl rfl rfl hl.1 (Nat.le_of_ble_eq_true rfl) dX4_tryOrders_117 ⟨Nat.zero_le _, Nat.zero_le _⟩) (fun σ7 H locs hB hw => ?_)
        refine lv_iinc (v := (v5 + (1 : Int32))) (lv' := [(5, .int (v5 + (1 : Int32))), (7, .int r6), (6, .int ((1 : Int32) <<< (v5 &&& 31))), (0, .ref (q 7)), (1, .int a1), (2, .int a2), (3, .int a3), (4, .int a4)]) hx hb dX4_tryOrders_120 hl (k := 7) rfl rfl (by decide) rfl (fun ls hl => ?_)
        refine lv_goto (tgt := 56) hx hb dX4_tryOrders_123 (by decide) ?_
        exact hB _ _ _ hw (lv_sub hl [3, 4, 5, 6, 7, 0] rfl))
  unfold xb_X4_tryOrders_e at hB
  refine lv_iload_n hx hb dX4_tryOrders_0 rfl (lv_at hl 3 rfl) ?_
  refine lv_aload_n hx hb dX4_tryOrders_1 rfl (lv_at hl 0 rfl) ?_
  refine xr_geti X hw (xf_X4_35 X) 7 xl_A_Planner_at rfl dX4_tryOrders_2 ?_
  refine lv_icmp_gt (tgt := 25) hx hb dX4_tryOrders_5 (by decide) (fun hc => ?_) (fun hc => ?_)
  · replace hB := hB.1 hc
    exact xr_vret X hw hr hk hB dX4_tryOrders_25
  · replace hB := hB.2 hc
    refine lv_iload_n hx hb dX4_tryOrders_8 rfl (lv_at hl 3 rfl) ?_
    refine lv_aload_n hx hb dX4_tryOrders_9 rfl (lv_at hl 0 rfl) ?_
    refine xr_geti X hw (xf_X4_35 X) 7 xl_A_Planner_at rfl dX4_tryOrders_10 ?_
    refine lv_icmp_ne (tgt := 26) hx hb dX4_tryOrders_13 (by decide) (fun hc => ?_) (fun hc => ?_)
    · replace hB := hB.1 hc
      exact hB _ _ _ hw (lv_sub hl [0, 1, 2, 3, 4] rfl)
    · replace hB := hB.2 hc
      refine lv_iload hx hb dX4_tryOrders_16 (lv_at hl 4 rfl) ?_
      refine lv_aload_n hx hb dX4_tryOrders_18 rfl (lv_at hl 0 rfl) ?_
      refine xr_geti X hw (xf_X4_38 X) 7 xl_A_Planner_at rfl dX4_tryOrders_19 ?_
      refine lv_icmp_lt (tgt := 26) hx hb dX4_tryOrders_22 (by decide) (fun hc => ?_) (fun hc => ?_)
      · replace hB := hB.1 hc
        exact hB _ _ _ hw (lv_sub hl [0, 1, 2, 3, 4] rfl)
      · replace hB := hB.2 hc
        exact xr_vret X hw hr hk hB dX4_tryOrders_25
theorem xc_X4_tryOrders (l : Launch) (D : va_G) (cy : Nat → ClassId) (q : Nat → Nat) : ∀ (d : Nat) (σ : xw_M) (a1 : Int32) (a2 : Int32) (a3 : Int32) (a4 : Int32) {Z : xw_M → Prop}, xu_X4_tryOrders d σ a1 a2 a3 a4 Z → xr_CV l yX4_tryOrders cX4_tryOrders 8 { frames := 6 + d * 1 + 0, cells := 0, slots := 0, locals := 123 + d * 27 + 0 } D cy xl_A q σ [.ref (q 7), .int a1, .int a2, .int a3, .int a4] Z := by
  intro d
  induction d with
  | zero => intro σ a1 a2 a3 a4 Z h; exact h.elim
  | succ d ih => intro σ a1 a2 a3 a4 Z h; exact xc_X4_tryOrders_of l D cy q d (xu_X4_tryOrders d) ih σ a1 a2 a3 a4 h
theorem xf_X3_25 {p : Program} {s : State} {m : MethodId} {args : Array Value} {c : Code} {cc : ByteArray} {nL : Nat} {D : va_G} {cy : Nat → ClassId} {lay : List xw_E} {q : Nat → Nat} (X : xr_X p s m args c cc nL RX3 D cy lay q) : xr_F args s RX3 25 3 1 := ⟨RX3, TX3, 5, tyX3, rfl, by decide, fun w h => X.2.2.2.2.1 w (xt_inX3 w h), tyX3_ok, nmX3, Or.inl (X.2.2.2.2.1 _ xt_1_125)⟩
theorem xm_X9_addStep : xr_MW yX9_addStep cX9_addStep 3 none 2 := ⟨xt_3_54, xt_1_3, by decide, by decide, by decide +kernel⟩
theorem xm_X3_takeInt : xr_MW yX3_takeInt cX3_takeInt 2 (some .int) 0 := ⟨xt_3_42, xt_1_4, by decide, by decide, by decide +kernel⟩
theorem xm_X3_parseLevel : xr_MW yX3_parseLevel cX3_parseLevel 6 none 2 := ⟨xt_3_46, xt_1_4, by decide, by decide, by decide +kernel⟩
theorem xm_X3_joins : xr_MW yX3_joins cX3_joins 2 (some .boolean) 2 := ⟨xt_3_57, xt_1_4, by decide, by decide, by decide +kernel⟩
theorem xm_X3_parseUnit : xr_MW yX3_parseUnit cX3_parseUnit 3 none 1 := ⟨xt_3_50, xt_1_4, by decide, by decide, by decide +kernel⟩
set_option maxRecDepth 100000 in
set_option maxHeartbeats 4000000 in
theorem xc_X3_parseUnit_of (l : Launch) (D : va_G) (cy : Nat → ClassId) (q : Nat → Nat) (d : Nat) (U : xw_M → Int32 → Int32 → (xw_M → Prop) → Prop) (ih : ∀ (σ : xw_M) (a1 : Int32) (a2 : Int32) {Z : xw_M → Prop}, U σ a1 a2 Z → xr_CV l yX3_parseLevel cX3_parseLevel 6 { frames := 4 + d * 2 + 0, cells := 0, slots := 0, locals := 64 + d * 47 + 0 } D cy xl_A q σ [.ref (q 3), .int a1, .int a2] Z) (σ : xw_M) (a1 : Int32) {Z : xw_M → Prop} (hU : xo_X3_parseUnit U σ a1 Z) : xr_CV l yX3_parseUnit cX3_parseUnit 3 { frames := 4 + d * 2 + 1, cells := 0, slots := 0, locals := 64 + d * 47 + 25 } D cy xl_A q σ [.ref (q 3), .int a1] Z := by
  refine xr_CV.of RX3 rfl (by decide) (Nat.le_of_ble_eq_true rfl) (fun p e s m below meth c X hw hr hk ls hl => ?_)
  have hx := X.1
  have hb := X.2.1
  have hl : lv_has ls 3 [(0, .ref (q 3)), (1, .int a1)] := hl
  have hB := hU (fun (σ : xw_M) (v2 : Int32) => ∀ (H : Heap) (locs : List Loc) (ls : Array Slot), xr_H D cy xl_A q s σ H locs → lv_has ls 3 [(0, .ref (q 3)), (1, .int a1), (2, .int v2)] → W p l e ({ frames := 4 + d * 2 + 1, cells := 0, slots := 0, locals := 64 + d * 47 + 25 } : Room) s m ([.ref (q 3), .int a1] : List Value).toArray below meth c H locs 0 0 (MQ below (va_Qv Z (xr_po D cy xl_A q) (xw_A xl_A q s.heap.size)) ([.ref (q 3), .int a1] : List Value).toArray s 0 0 (xw_A xl_A q s.heap.size)) (F0 m 54 ls []))
    (by
    intro σ v2 hB H locs ls hw hl
    unfold xb_X3_parseUnit_54 at hB
    refine lv_iload_n hx hb dX3_parseUnit_54 rfl (lv_at hl 2 rfl) ?_
    refine lv_bipush (v := (25 : Int32)) hx hb dX3_parseUnit_55 (by decide) ?_
    refine lv_icmp_eq (tgt := 68) hx hb dX3_parseUnit_57 (by decide) (fun hc => ?_) (fun hc => ?_)
    · replace hB := hB.1 hc
      refine lv_iload_n hx hb dX3_parseUnit_68 rfl (lv_at hl 1 rfl) ?_
      refine lv_bipush (v := (6 : Int32)) hx hb dX3_parseUnit_69 (by decide) ?_
      refine lv_icmp_lt (tgt := 82) hx hb dX3_parseUnit_71 (by decide) (fun hc => ?_) (fun hc => ?_)
      · replace hB := hB.1 hc
        refine lv_aload_n hx hb dX3_parseUnit_82 rfl (lv_at hl 0 rfl) ?_
        refine lv_bipush (v := (25 : Int32)) hx hb dX3_parseUnit_83 (by decide) ?_
        refine xr_v hw (xr_runV (As := [.int (25 : Int32)]) (rest := []) X hw 3 (xc_X3_take l D cy q σ (25 : Int32) hB _) xm_X3_take xt_3_35 xt_3_37 xt_p_9 (by constructor <;> (try dsimp only) <;> omega) xl_A_Parser_at rfl rfl rfl rfl hl.1 (Nat.le_of_ble_eq_true rfl) dX3_parseUnit_85 ⟨Nat.zero_le _, Nat.zero_le _⟩) (fun σ8 H locs hB hw => ?_)
        refine lv_aload_n hx hb dX3_parseUnit_88 rfl (lv_at hl 0 rfl) ?_
        refine lv_iconst (v := (3 : Int32)) hx hb dX3_parseUnit_89 (by decide) ?_
        refine lv_iload_n hx hb dX3_parseUnit_90 rfl (lv_at hl 1 rfl) ?_
        refine lv_iconst (v := (1 : Int32)) hx hb dX3_parseUnit_91 (by decide) ?_
        refine lv_iadd hx hb dX3_parseUnit_92 ?_
        refine xr_v hw (xr_runV (As := [.int (3 : Int32), .int (a1 + (1 : Int32))]) (rest := []) X hw 3 (ih σ8 (3 : Int32) (a1 + (1 : Int32)) hB _) xm_X3_parseLevel xt_3_43 xt_3_45 xt_p_11 (by constructor <;> (try dsimp only) <;> omega) xl_A_Parser_at rfl rfl rfl rfl hl.1 (Nat.le_of_ble_eq_true rfl) dX3_parseUnit_93 ⟨Nat.zero_le _, Nat.zero_le _⟩) (fun σ9 H locs hB hw => ?_)
        refine lv_aload_n hx hb dX3_parseUnit_96 rfl (lv_at hl 0 rfl) ?_
        refine lv_bipush (v := (26 : Int32)) hx hb dX3_parseUnit_97 (by decide) ?_
        refine xr_v hw (xr_runV (As := [.int (26 : Int32)]) (rest := []) X hw 3 (xc_X3_take l D cy q σ9 (26 : Int32) hB _) xm_X3_take xt_3_35 xt_3_37 xt_p_9 (by constructor <;> (try dsimp only) <;> omega) xl_A_Parser_at rfl rfl rfl rfl hl.1 (Nat.le_of_ble_eq_true rfl) dX3_parseUnit_99 ⟨Nat.zero_le _, Nat.zero_le _⟩) (fun σ10 H locs hB hw => ?_)
        exact xr_vret X hw hr hk hB dX3_parseUnit_102
      · replace hB := hB.2 hc
        refine lv_aload_n hx hb dX3_parseUnit_74 rfl (lv_at hl 0 rfl) ?_
        refine lv_iconst (v := (2 : Int32)) hx hb dX3_parseUnit_75 (by decide) ?_
        refine xr_v hw (xr_runV (As := [.int (2 : Int32)]) (rest := []) X hw 3 (xc_X3_fail l D cy q σ (2 : Int32) hB _) xm_X3_fail xt_3_31 xt_3_33 xt_p_8 (by constructor <;> (try dsimp only) <;> omega) xl_A_Parser_at rfl rfl rfl rfl hl.1 (Nat.le_of_ble_eq_true rfl) dX3_parseUnit_76 ⟨Nat.zero_le _, Nat.zero_le _⟩) (fun σ11 H locs hB hw => ?_)
        refine lv_goto (tgt := 102) hx hb dX3_parseUnit_79 (by decide) ?_
        exact xr_vret X hw hr hk hB dX3_parseUnit_102
    · replace hB := hB.2 hc
      refine lv_aload_n hx hb dX3_parseUnit_60 rfl (lv_at hl 0 rfl) ?_
      refine lv_iconst (v := (1 : Int32)) hx hb dX3_parseUnit_61 (by decide) ?_
      refine xr_v hw (xr_runV (As := [.int (1 : Int32)]) (rest := []) X hw 3 (xc_X3_fail l D cy q σ (1 : Int32) hB _) xm_X3_fail xt_3_31 xt_3_33 xt_p_8 (by constructor <;> (try dsimp only) <;> omega) xl_A_Parser_at rfl rfl rfl rfl hl.1 (Nat.le_of_ble_eq_true rfl) dX3_parseUnit_62 ⟨Nat.zero_le _, Nat.zero_le _⟩) (fun σ12 H locs hB hw => ?_)
      refine lv_goto (tgt := 102) hx hb dX3_parseUnit_65 (by decide) ?_
      exact xr_vret X hw hr hk hB dX3_parseUnit_102)
  unfold xb_X3_parseUnit_e at hB
  refine lv_aload_n hx hb dX3_parseUnit_0 rfl (lv_at hl 0 rfl) ?_
  refine xr_i hw (xr_runV (As := []) (rest := []) X hw 3 (xc_X3_seen l D cy q σ hB _) xm_X3_seen xt_3_23 xt_3_25 xt_p_6 (by constructor <;> (try dsimp only) <;> omega) xl_A_Parser_at rfl rfl rfl rfl hl.1 (Nat.le_of_ble_eq_true rfl) dX3_parseUnit_1 ⟨Nat.zero_le _, Nat.zero_le _⟩) (fun r2 σ1 H locs hB hw => ?_)
  refine lv_istore_n (lv' := [(2, .int r2), (0, .ref (q 3)), (1, .int a1)]) hx hb dX3_parseUnit_4 rfl hl (by decide) rfl (fun ls hl => ?_)
  refine lv_iload_n hx hb dX3_parseUnit_5 rfl (lv_at hl 0 rfl) ?_
  refine lv_bipush (v := (16 : Int32)) hx hb dX3_parseUnit_6 (by decide) ?_
  refine lv_icmp_ne (tgt := 27) hx hb dX3_parseUnit_8 (by decide) (fun hc => ?_) (fun hc => ?_)
  · replace hB := hB.1 hc
    refine lv_iload_n hx hb dX3_parseUnit_27 rfl (lv_at hl 0 rfl) ?_
    refine lv_if_lt (tgt := 54) hx hb dX3_parseUnit_28 (by decide) (fun hc => ?_) (fun hc => ?_)
    · replace hB := hB.1 hc
      exact hB _ _ _ hw (lv_sub hl [1, 2, 0] rfl)
    · replace hB := hB.2 hc
      refine lv_iload_n hx hb dX3_parseUnit_31 rfl (lv_at hl 0 rfl) ?_
      refine lv_bipush (v := (9 : Int32)) hx hb dX3_parseUnit_32 (by decide) ?_
      refine lv_icmp_ge (tgt := 54) hx hb dX3_parseUnit_34 (by decide) (fun hc => ?_) (fun hc => ?_)
      · replace hB := hB.1 hc
        exact hB _ _ _ hw (lv_sub hl [1, 2, 0] rfl)
      · replace hB := hB.2 hc
        refine lv_aload_n hx hb dX3_parseUnit_37 rfl (lv_at hl 1 rfl) ?_
        refine lv_iload_n hx hb dX3_parseUnit_38 rfl (lv_at hl 0 rfl) ?_
        refine xr_v hw (xr_runV (As := [.int r2]) (rest := []) X hw 3 (xc_X3_take l D cy q σ1 r2 hB _) xm_X3_take xt_3_35 xt_3_37 xt_p_9 (by constructor <;> (try dsimp only) <;> omega) xl_A_Parser_at rfl rfl rfl rfl hl.1 (Nat.le_of_ble_eq_true rfl) dX3_parseUnit_39 ⟨Nat.zero_le _, Nat.zero_le _⟩) (fun σ3 H locs hB hw => ?_)
        refine lv_aload_n hx hb dX3_parseUnit_42 rfl (lv_at hl 1 rfl) ?_
        refine xr_getr X hw (xf_X3_25 X) 3 xl_A_Parser_at rfl dX3_parseUnit_43 ?_
        refine lv_iload_n hx hb dX3_parseUnit_46 rfl (lv_at hl 0 rfl) ?_
        refine lv_iconst (v := (0 : Int32)) hx hb dX3_parseUnit_47 (by decide) ?_
        refine xr_v hw (xr_runV (As := [.int r2, .int (0 : Int32)]) (rest := []) X hw 10 (xc_X9_addStep l D cy q σ3 1 r2 (0 : Int32) (by decide) hB _) xm_X9_addStep xt_3_51 xt_3_52 xt_3_53 (by constructor <;> (try dsimp only) <;> omega) (xl_A_Text_at (i := 1) (by decide)) rfl rfl rfl rfl hl.1 (Nat.le_of_ble_eq_true rfl) dX3_parseUnit_48 ⟨Nat.zero_le _, Nat.zero_le _⟩) (fun σ4 H locs hB hw => ?_)
        refine lv_goto (tgt := 102) hx hb dX3_parseUnit_51 (by decide) ?_
        exact xr_vret X hw hr hk hB dX3_parseUnit_102
  · replace hB := hB.2 hc
    refine lv_aload_n hx hb dX3_parseUnit_11 rfl (lv_at hl 1 rfl) ?_
    refine xr_getr X hw (xf_X3_25 X) 3 xl_A_Parser_at rfl dX3_parseUnit_12 ?_
    refine lv_bipush (v := (16 : Int32)) hx hb dX3_parseUnit_15 (by decide) ?_
    refine lv_aload_n hx hb dX3_parseUnit_17 rfl (lv_at hl 1 rfl) ?_
    refine xr_i hw (xr_runV (As := []) (rest := [.int (16 : Int32), .ref (q 10)]) X hw 3 (xc_X3_takeInt l D cy q σ1 hB _) xm_X3_takeInt xt_3_39 xt_3_41 xt_p_10 (by constructor <;> (try dsimp only) <;> omega) xl_A_Parser_at rfl rfl rfl rfl hl.1 (Nat.le_of_ble_eq_true rfl) dX3_parseUnit_18 ⟨Nat.zero_le _, Nat.zero_le _⟩) (fun r6 σ5 H locs hB hw => ?_)
    refine xr_v hw (xr_runV (As := [.int (16 : Int32), .int r6]) (rest := []) X hw 10 (xc_X9_addStep l D cy q σ5 1 (16 : Int32) r6 (by decide) hB _) xm_X9_addStep xt_3_51 xt_3_52 xt_3_53 (by constructor <;> (try dsimp only) <;> omega) (xl_A_Text_at (i := 1) (by decide)) rfl rfl rfl rfl hl.1 (Nat.le_of_ble_eq_true rfl) dX3_parseUnit_21 ⟨Nat.zero_le _, Nat.zero_le _⟩) (fun σ7 H locs hB hw => ?_)
    refine lv_goto (tgt := 102) hx hb dX3_parseUnit_24 (by decide) ?_
    exact xr_vret X hw hr hk hB dX3_parseUnit_102
set_option maxRecDepth 100000 in
set_option maxHeartbeats 4000000 in
theorem xc_X3_parseLevel_of (l : Launch) (D : va_G) (cy : Nat → ClassId) (q : Nat → Nat) (d : Nat) (U : xw_M → Int32 → Int32 → (xw_M → Prop) → Prop) (ih : ∀ (σ : xw_M) (a1 : Int32) (a2 : Int32) {Z : xw_M → Prop}, U σ a1 a2 Z → xr_CV l yX3_parseLevel cX3_parseLevel 6 { frames := 4 + d * 2 + 0, cells := 0, slots := 0, locals := 64 + d * 47 + 0 } D cy xl_A q σ [.ref (q 3), .int a1, .int a2] Z) (σ : xw_M) (a1 : Int32) (a2 : Int32) {Z : xw_M → Prop} (hU : xo_X3_parseLevel U σ a1 a2 Z) : xr_CV l yX3_parseLevel cX3_parseLevel 6 { frames := 4 + (d + 1) * 2 + 0, cells := 0, slots := 0, locals := 64 + (d + 1) * 47 + 0 } D cy xl_A q σ [.ref (q 3), .int a1, .int a2] Z := by
  refine xr_CV.of RX3 rfl (by decide) (Nat.le_of_ble_eq_true rfl) (fun p e s m below meth c X hw hr hk ls hl => ?_)
  have hx := X.1
  have hb := X.2.1
  have hl : lv_has ls 6 [(0, .ref (q 3)), (1, .int a1), (2, .int a2)] := hl
  have hB := hU (fun (σ : xw_M) => ∀ (H : Heap) (locs : List Loc) (ls : Array Slot), xr_H D cy xl_A q s σ H locs → lv_has ls 6 [(0, .ref (q 3)), (1, .int a1), (2, .int a2)] → W p l e ({ frames := 4 + (d + 1) * 2 + 0, cells := 0, slots := 0, locals := 64 + (d + 1) * 47 + 0 } : Room) s m ([.ref (q 3), .int a1, .int a2] : List Value).toArray below meth c H locs 0 0 (MQ below (va_Qv Z (xr_po D cy xl_A q) (xw_A xl_A q s.heap.size)) ([.ref (q 3), .int a1, .int a2] : List Value).toArray s 0 0 (xw_A xl_A q s.heap.size)) (F0 m 40 ls []))
    (fun (σ : xw_M) (v3 : Int32) (v4 : Int32) => ∀ (H : Heap) (locs : List Loc) (ls : Array Slot), xr_H D cy xl_A q s σ H locs → lv_has ls 6 [(0, .ref (q 3)), (1, .int a1), (2, .int a2), (3, .int v3), (4, .int v4)] → W p l e ({ frames := 4 + (d + 1) * 2 + 0, cells := 0, slots := 0, locals := 64 + (d + 1) * 47 + 0 } : Room) s m ([.ref (q 3), .int a1, .int a2] : List Value).toArray below meth c H locs 0 0 (MQ below (va_Qv Z (xr_po D cy xl_A q) (xw_A xl_A q s.heap.size)) ([.ref (q 3), .int a1, .int a2] : List Value).toArray s 0 0 (xw_A xl_A q s.heap.size)) (F0 m 56 ls []))
    (by
    intro σ hB H locs ls hw hl
    unfold xb_X3_parseLevel_40 at hB
    refine lv_iload_n hx hb dX3_parseLevel_40 rfl (lv_at hl 1 rfl) ?_
    refine lv_iconst (v := (2 : Int32)) hx hb dX3_parseLevel_41 (by decide) ?_
    refine lv_icmp_ne (tgt := 49) hx hb dX3_parseLevel_42 (by decide) (fun hc => ?_) (fun hc => ?_)
    · replace hB := hB.1 hc
      refine lv_sipush (v := (400 : Int32)) hx hb dX3_parseLevel_49 (by decide) ?_
      refine lv_istore_n (lv' := [(3, .int (400 : Int32)), (0, .ref (q 3)), (1, .int a1), (2, .int a2)]) hx hb dX3_parseLevel_52 rfl hl (by decide) rfl (fun ls hl => ?_)
      refine lv_iconst (v := (0 : Int32)) hx hb dX3_parseLevel_53 (by decide) ?_
      refine lv_istore (lv' := [(4, .int (0 : Int32)), (3, .int (400 : Int32)), (0, .ref (q 3)), (1, .int a1), (2, .int a2)]) hx hb dX3_parseLevel_54 hl (by decide) rfl (fun ls hl => ?_)
      exact hB _ _ _ hw (lv_sub hl [2, 3, 4, 1, 0] rfl)
    · replace hB := hB.2 hc
      refine lv_iconst (v := (1 : Int32)) hx hb dX3_parseLevel_45 (by decide) ?_
      refine lv_goto (tgt := 52) hx hb dX3_parseLevel_46 (by decide) ?_
      refine lv_istore_n (lv' := [(3, .int (1 : Int32)), (0, .ref (q 3)), (1, .int a1), (2, .int a2)]) hx hb dX3_parseLevel_52 rfl hl (by decide) rfl (fun ls hl => ?_)
      refine lv_iconst (v := (0 : Int32)) hx hb dX3_parseLevel_53 (by decide) ?_
      refine lv_istore (lv' := [(4, .int (0 : Int32)), (3, .int (1 : Int32)), (0, .ref (q 3)), (1, .int a1), (2, .int a2)]) hx hb dX3_parseLevel_54 hl (by decide) rfl (fun ls hl => ?_)
      exact hB _ _ _ hw (lv_sub hl [2, 3, 4, 1, 0] rfl))
    (by
    intro σ v3 v4 hB H locs ls hw hl
    unfold xb_X3_parseLevel_56 at hB
    refine lv_iload hx hb dX3_parseLevel_56 (lv_at hl 4 rfl) ?_
    refine lv_iload_n hx hb dX3_parseLevel_58 rfl (lv_at hl 3 rfl) ?_
    refine lv_icmp_ge (tgt := 109) hx hb dX3_parseLevel_59 (by decide) (fun hc => ?_) (fun hc => ?_)
    · replace hB := hB.1 hc
      exact xr_vret X hw hr hk hB dX3_parseLevel_109
    · replace hB := hB.2 hc
      refine lv_iload_n hx hb dX3_parseLevel_62 rfl (lv_at hl 1 rfl) ?_
      refine lv_aload_n hx hb dX3_parseLevel_63 rfl (lv_at hl 0 rfl) ?_
      refine xr_i hw (xr_runV (As := []) (rest := [.int a1]) X hw 3 (xc_X3_seen l D cy q σ hB _) xm_X3_seen xt_3_23 xt_3_25 xt_p_6 (by constructor <;> (try dsimp only) <;> omega) xl_A_Parser_at rfl rfl rfl rfl hl.1 (Nat.le_of_ble_eq_true rfl) dX3_parseLevel_64 ⟨Nat.zero_le _, Nat.zero_le _⟩) (fun r9 σ8 H locs hB hw => ?_)
      refine xr_i hw (xr_runS (As := [.int a1, .int r9]) (rest := []) X hw (xc_X3_joins l D cy q σ8 a1 r9 hB _) xm_X3_joins xt_3_55 xt_3_56 (by constructor <;> (try dsimp only) <;> omega) rfl rfl hl.1 (Nat.le_of_ble_eq_true rfl) dX3_parseLevel_67 ⟨Nat.zero_le _, Nat.zero_le _⟩) (fun r11 σ10 H locs hB hw => ?_)
      refine lv_if_eq (tgt := 109) hx hb dX3_parseLevel_70 (by decide) (fun hc => ?_) (fun hc => ?_)
      · replace hB := hB.1 hc
        exact xr_vret X hw hr hk hB dX3_parseLevel_109
      · replace hB := hB.2 hc
        refine lv_aload_n hx hb dX3_parseLevel_73 rfl (lv_at hl 0 rfl) ?_
        refine xr_i hw (xr_runV (As := []) (rest := []) X hw 3 (xc_X3_seen l D cy q σ10 hB _) xm_X3_seen xt_3_23 xt_3_25 xt_p_6 (by constructor <;> (try dsimp only) <;> omega) xl_A_Parser_at rfl rfl rfl rfl hl.1 (Nat.le_of_ble_eq_true rfl) dX3_parseLevel_74 ⟨Nat.zero_le _, Nat.zero_le _⟩) (fun r13 σ12 H locs hB hw => ?_)
        refine lv_istore (lv' := [(5, .int r13), (0, .ref (q 3)), (1, .int a1), (2, .int a2), (3, .int v3), (4, .int v4)]) hx hb dX3_parseLevel_77 hl (by decide) rfl (fun ls hl => ?_)
        refine lv_aload_n hx hb dX3_parseLevel_79 rfl (lv_at hl 1 rfl) ?_
        refine lv_iload hx hb dX3_parseLevel_80 (lv_at hl 0 rfl) ?_
        refine xr_v hw (xr_runV (As := [.int r13]) (rest := []) X hw 3 (xc_X3_take l D cy q σ12 r13 hB _) xm_X3_take xt_3_35 xt_3_37 xt_p_9 (by constructor <;> (try dsimp only) <;> omega) xl_A_Parser_at rfl rfl rfl rfl hl.1 (Nat.le_of_ble_eq_true rfl) dX3_parseLevel_82 ⟨Nat.zero_le _, Nat.zero_le _⟩) (fun σ14 H locs hB hw => ?_)
        refine lv_aload_n hx hb dX3_parseLevel_85 rfl (lv_at hl 1 rfl) ?_
        refine lv_iload_n hx hb dX3_parseLevel_86 rfl (lv_at hl 2 rfl) ?_
        refine lv_iconst (v := (1 : Int32)) hx hb dX3_parseLevel_87 (by decide) ?_
        refine lv_iadd hx hb dX3_parseLevel_88 ?_
        refine lv_iload_n hx hb dX3_parseLevel_89 rfl (lv_at hl 3 rfl) ?_
        refine xr_v hw (xr_runV (As := [.int (a1 + (1 : Int32)), .int a2]) (rest := []) X hw 3 (ih σ14 (a1 + (1 : Int32)) a2 hB _) xm_X3_parseLevel xt_3_43 xt_3_45 xt_p_11 (by constructor <;> (try dsimp only) <;> omega) xl_A_Parser_at rfl rfl rfl rfl hl.1 (Nat.le_of_ble_eq_true rfl) dX3_parseLevel_90 ⟨Nat.zero_le _, Nat.zero_le _⟩) (fun σ15 H locs hB hw => ?_)
        refine lv_aload_n hx hb dX3_parseLevel_93 rfl (lv_at hl 1 rfl) ?_
        refine xr_getr X hw (xf_X3_25 X) 3 xl_A_Parser_at rfl dX3_parseLevel_94 ?_
        refine lv_iload hx hb dX3_parseLevel_97 (lv_at hl 0 rfl) ?_
        refine lv_iconst (v := (0 : Int32)) hx hb dX3_parseLevel_99 (by decide) ?_
        refine xr_v hw (xr_runV (As := [.int r13, .int (0 : Int32)]) (rest := []) X hw 10 (xc_X9_addStep l D cy q σ15 1 r13 (0 : Int32) (by decide) hB _) xm_X9_addStep xt_3_51 xt_3_52 xt_3_53 (by constructor <;> (try dsimp only) <;> omega) (xl_A_Text_at (i := 1) (by decide)) rfl rfl rfl rfl hl.1 (Nat.le_of_ble_eq_true rfl) dX3_parseLevel_100 ⟨Nat.zero_le _, Nat.zero_le _⟩) (fun σ16 H locs hB hw => ?_)
        refine lv_iinc (v := (v4 + (1 : Int32))) (lv' := [(4, .int (v4 + (1 : Int32))), (5, .int r13), (0, .ref (q 3)), (1, .int a1), (2, .int a2), (3, .int v3)]) hx hb dX3_parseLevel_103 hl (k := 5) rfl rfl (by decide) rfl (fun ls hl => ?_)
        refine lv_goto (tgt := 56) hx hb dX3_parseLevel_106 (by decide) ?_
        exact hB _ _ _ hw (lv_sub hl [2, 3, 4, 5, 0] rfl))
  unfold xb_X3_parseLevel_e at hB
  refine lv_iload_n hx hb dX3_parseLevel_0 rfl (lv_at hl 1 rfl) ?_
  refine lv_iconst (v := (5 : Int32)) hx hb dX3_parseLevel_1 (by decide) ?_
  refine lv_icmp_lt (tgt := 11) hx hb dX3_parseLevel_2 (by decide) (fun hc => ?_) (fun hc => ?_)
  · replace hB := hB.1 hc
    refine lv_aload_n hx hb dX3_parseLevel_11 rfl (lv_at hl 0 rfl) ?_
    refine lv_iload_n hx hb dX3_parseLevel_12 rfl (lv_at hl 1 rfl) ?_
    refine lv_iconst (v := (1 : Int32)) hx hb dX3_parseLevel_13 (by decide) ?_
    refine lv_iadd hx hb dX3_parseLevel_14 ?_
    refine lv_iload_n hx hb dX3_parseLevel_15 rfl (lv_at hl 2 rfl) ?_
    refine xr_v hw (xr_runV (As := [.int (a1 + (1 : Int32)), .int a2]) (rest := []) X hw 3 (ih σ (a1 + (1 : Int32)) a2 hB _) xm_X3_parseLevel xt_3_43 xt_3_45 xt_p_11 (by constructor <;> (try dsimp only) <;> omega) xl_A_Parser_at rfl rfl rfl rfl hl.1 (Nat.le_of_ble_eq_true rfl) dX3_parseLevel_16 ⟨Nat.zero_le _, Nat.zero_le _⟩) (fun σ1 H locs hB hw => ?_)
    refine lv_iload_n hx hb dX3_parseLevel_19 rfl (lv_at hl 1 rfl) ?_
    refine lv_iconst (v := (2 : Int32)) hx hb dX3_parseLevel_20 (by decide) ?_
    refine lv_icmp_ne (tgt := 40) hx hb dX3_parseLevel_21 (by decide) (fun hc => ?_) (fun hc => ?_)
    · replace hB := hB.1 hc
      exact hB _ _ _ hw (lv_sub hl [0, 1, 2] rfl)
    · replace hB := hB.2 hc
      refine lv_iconst (v := (2 : Int32)) hx hb dX3_parseLevel_24 (by decide) ?_
      refine lv_aload_n hx hb dX3_parseLevel_25 rfl (lv_at hl 0 rfl) ?_
      refine xr_i hw (xr_runV (As := []) (rest := [.int (2 : Int32)]) X hw 3 (xc_X3_seen l D cy q σ1 hB _) xm_X3_seen xt_3_23 xt_3_25 xt_p_6 (by constructor <;> (try dsimp only) <;> omega) xl_A_Parser_at rfl rfl rfl rfl hl.1 (Nat.le_of_ble_eq_true rfl) dX3_parseLevel_26 ⟨Nat.zero_le _, Nat.zero_le _⟩) (fun r3 σ2 H locs hB hw => ?_)
      refine xr_i hw (xr_runS (As := [.int (2 : Int32), .int r3]) (rest := []) X hw (xc_X3_joins l D cy q σ2 (2 : Int32) r3 hB _) xm_X3_joins xt_3_55 xt_3_56 (by constructor <;> (try dsimp only) <;> omega) rfl rfl hl.1 (Nat.le_of_ble_eq_true rfl) dX3_parseLevel_29 ⟨Nat.zero_le _, Nat.zero_le _⟩) (fun r5 σ4 H locs hB hw => ?_)
      refine lv_if_ne (tgt := 40) hx hb dX3_parseLevel_32 (by decide) (fun hc => ?_) (fun hc => ?_)
      · replace hB := hB.1 hc
        exact hB _ _ _ hw (lv_sub hl [0, 1, 2] rfl)
      · replace hB := hB.2 hc
        refine lv_aload_n hx hb dX3_parseLevel_35 rfl (lv_at hl 0 rfl) ?_
        refine lv_iconst (v := (1 : Int32)) hx hb dX3_parseLevel_36 (by decide) ?_
        refine xr_v hw (xr_runV (As := [.int (1 : Int32)]) (rest := []) X hw 3 (xc_X3_fail l D cy q σ4 (1 : Int32) hB _) xm_X3_fail xt_3_31 xt_3_33 xt_p_8 (by constructor <;> (try dsimp only) <;> omega) xl_A_Parser_at rfl rfl rfl rfl hl.1 (Nat.le_of_ble_eq_true rfl) dX3_parseLevel_37 ⟨Nat.zero_le _, Nat.zero_le _⟩) (fun σ6 H locs hB hw => ?_)
        exact hB _ _ _ hw (lv_sub hl [0, 1, 2] rfl)
  · replace hB := hB.2 hc
    refine lv_aload_n hx hb dX3_parseLevel_5 rfl (lv_at hl 0 rfl) ?_
    refine lv_iload_n hx hb dX3_parseLevel_6 rfl (lv_at hl 2 rfl) ?_
    refine xr_v hw (xr_runV (As := [.int a2]) (rest := []) X hw 3 (xc_X3_parseUnit_of l D cy q d U ih σ a2 hB _) xm_X3_parseUnit xt_3_47 xt_3_49 xt_p_12 (by constructor <;> (try dsimp only) <;> omega) xl_A_Parser_at rfl rfl rfl rfl hl.1 (Nat.le_of_ble_eq_true rfl) dX3_parseLevel_7 ⟨Nat.zero_le _, Nat.zero_le _⟩) (fun σ7 H locs hB hw => ?_)
    exact xr_vret X hw hr hk hB dX3_parseLevel_10
theorem xc_X3_parseLevel (l : Launch) (D : va_G) (cy : Nat → ClassId) (q : Nat → Nat) : ∀ (d : Nat) (σ : xw_M) (a1 : Int32) (a2 : Int32) {Z : xw_M → Prop}, xu_X3_parseLevel d σ a1 a2 Z → xr_CV l yX3_parseLevel cX3_parseLevel 6 { frames := 4 + d * 2 + 0, cells := 0, slots := 0, locals := 64 + d * 47 + 0 } D cy xl_A q σ [.ref (q 3), .int a1, .int a2] Z := by
  intro d
  induction d with
  | zero => intro σ a1 a2 Z h; exact h.elim
  | succ d ih => intro σ a1 a2 Z h; exact xc_X3_parseLevel_of l D cy q d (xu_X3_parseLevel d) ih σ a1 a2 h
theorem xf_X4_49 {p : Program} {s : State} {m : MethodId} {args : Array Value} {c : Code} {cc : ByteArray} {nL : Nat} {D : va_G} {cy : Nat → ClassId} {lay : List xw_E} {q : Nat → Nat} (X : xr_X p s m args c cc nL RX4 D cy lay q) : xr_F args s RX4 49 2 11 := ⟨RX2, TX2, 13, tyX2, rfl, by decide, fun w h => X.2.2.2.2.1 w (xt_inX2 w h), tyX2_ok, nmX2, Or.inr (va_Nw.use rfl (X.2.2.2.2.2.1.1 _ (List.mem_of_getElem? (i := 25) rfl)))⟩
theorem xp_X4_31 {p : Program} {s : State} {m : MethodId} {args : Array Value} {c : Code} {cc : ByteArray} {nL : Nat} {D : va_G} {cy : Nat → ClassId} {lay : List xw_E} {q : Nat → Nat} (X : xr_X p s m args c cc nL RX4 D cy lay q) : xr_P args s RX4 31 4 7 := ⟨RX4, TX4, 10, tyX4, rfl, by decide, fun w h => X.2.2.2.2.1 w (xt_inX4 w h), tyX4_ok, nmX4, Or.inl (X.2.2.2.2.1 _ xt_2_42), rfl, by decide +kernel⟩
theorem xm_X10_clear : xr_MW yX10_clear cX10_clear 2 none 0 := ⟨xt_2_29, xt_1_10, by decide, by decide, by decide +kernel⟩
theorem xf_X4_54 {p : Program} {s : State} {m : MethodId} {args : Array Value} {c : Code} {cc : ByteArray} {nL : Nat} {D : va_G} {cy : Nat → ClassId} {lay : List xw_E} {q : Nat → Nat} (X : xr_X p s m args c cc nL RX4 D cy lay q) : xr_F args s RX4 54 7 3 := ⟨RX7, TX7, 4, tyX7, rfl, by decide, fun w h => X.2.2.2.2.1 w (xt_inX7 w h), tyX7_ok, nmX7, Or.inr (va_Nw.use rfl (X.2.2.2.2.2.1.1 _ (List.mem_of_getElem? (i := 40) rfl)))⟩
theorem xf_X4_63 {p : Program} {s : State} {m : MethodId} {args : Array Value} {c : Code} {cc : ByteArray} {nL : Nat} {D : va_G} {cy : Nat → ClassId} {lay : List xw_E} {q : Nat → Nat} (X : xr_X p s m args c cc nL RX4 D cy lay q) : xr_F args s RX4 63 2 3 := ⟨RX2, TX2, 13, tyX2, rfl, by decide, fun w h => X.2.2.2.2.1 w (xt_inX2 w h), tyX2_ok, nmX2, Or.inr (va_Nw.use rfl (X.2.2.2.2.2.1.1 _ (List.mem_of_getElem? (i := 18) rfl)))⟩
theorem xm_X4_judgesFor : xr_MW yX4_judgesFor cX4_judgesFor 9 (some .int) 4 := ⟨xt_3_217, xt_1_9, by decide, by decide, by decide +kernel⟩
set_option maxRecDepth 100000 in
set_option maxHeartbeats 4000000 in
theorem xc_X4_search (l : Launch) (D : va_G) (cy : Nat → ClassId) (q : Nat → Nat) (σ : xw_M) (o1 : Nat) (a2 : Int32) (a3 : Int32) (h1 : o1 < 5) {Z : Int32 → xw_M → Prop} (hU : xu_X4_search σ o1 a2 a3 Z) : xr_CI l yX4_search cX4_search 7 .boolean { frames := 15, cells := 0, slots := 0, locals := 366 } D cy xl_A q σ [.ref (q 7), .ref (q (11 + o1)), .int a2, .int a3] Z := by
  refine xr_CI.of RX4 rfl (by decide) (Nat.le_of_ble_eq_true rfl) (fun p e s m below meth c X hw hr hk ls hl => ?_)
  have hx := X.1
  have hb := X.2.1
  have hl : lv_has ls 7 [(0, .ref (q 7)), (1, .ref (q (11 + o1))), (2, .int a2), (3, .int a3)] := hl
  have hB := hU (fun (σ : xw_M) (v4 : Int32) (v5 : Int32) => ∀ (H : Heap) (locs : List Loc) (ls : Array Slot), xr_H D cy xl_A q s σ H locs → lv_has ls 7 [(0, .ref (q 7)), (1, .ref (q (11 + o1))), (2, .int a2), (3, .int a3), (4, .int v4), (5, .int v5)] → W p l e ({ frames := 15, cells := 0, slots := 0, locals := 366 } : Room) s m ([.ref (q 7), .ref (q (11 + o1)), .int a2, .int a3] : List Value).toArray below meth c H locs 0 0 (MQ below (va_Qi Z (xr_po D cy xl_A q) (xw_A xl_A q s.heap.size)) ([.ref (q 7), .ref (q (11 + o1)), .int a2, .int a3] : List Value).toArray s 0 0 (xw_A xl_A q s.heap.size)) (F0 m 6 ls []))
    (fun (σ : xw_M) (v4 : Int32) (v5 : Int32) (v6 : Int32) => ∀ (H : Heap) (locs : List Loc) (ls : Array Slot), xr_H D cy xl_A q s σ H locs → lv_has ls 7 [(0, .ref (q 7)), (1, .ref (q (11 + o1))), (2, .int a2), (3, .int a3), (4, .int v4), (5, .int v5), (6, .int v6)] → W p l e ({ frames := 15, cells := 0, slots := 0, locals := 366 } : Room) s m ([.ref (q 7), .ref (q (11 + o1)), .int a2, .int a3] : List Value).toArray below meth c H locs 0 0 (MQ below (va_Qi Z (xr_po D cy xl_A q) (xw_A xl_A q s.heap.size)) ([.ref (q 7), .ref (q (11 + o1)), .int a2, .int a3] : List Value).toArray s 0 0 (xw_A xl_A q s.heap.size)) (F0 m 115 ls []))
    (by
    intro σ v4 v5 hB H locs ls hw hl
    unfold xb_X4_search_6 at hB
    refine lv_iload hx hb dX4_search_6 (lv_at hl 5 rfl) ?_
    refine lv_aload_n hx hb dX4_search_8 rfl (lv_at hl 0 rfl) ?_
    refine xr_getr X hw (xf_X4_41 X) 7 xl_A_Planner_at rfl dX4_search_9 ?_
    refine xr_geti X hw (xf_X4_49 X) 4 xl_A_Kennel_at rfl dX4_search_12 ?_
    refine lv_icmp_ge (tgt := 139) hx hb dX4_search_15 (by decide) (fun hc => ?_) (fun hc => ?_)
    · replace hB := hB.1 hc
      refine lv_aload_n hx hb dX4_search_139 rfl (lv_at hl 0 rfl) ?_
      refine lv_iload_n hx hb dX4_search_140 rfl (lv_at hl 3 rfl) ?_
      refine xr_puti X hw (xp_X4_31 X) 7 xl_A_Planner_at rfl dX4_search_141 hB (fun σ1 H locs hB hw => ?_)
      refine lv_aload_n hx hb dX4_search_144 rfl (lv_at hl 0 rfl) ?_
      refine lv_ldc (v := (1000000 : Int32)) hx hb X.2.2.2.1 (X.2.2.2.2.1 _ xt_4_2) dX4_search_145 ?_
      refine xr_puti X hw (xp_X4_35 X) 7 xl_A_Planner_at rfl dX4_search_147 hB (fun σ2 H locs hB hw => ?_)
      refine lv_aload_n hx hb dX4_search_150 rfl (lv_at hl 0 rfl) ?_
      refine lv_ldc (v := (1000000 : Int32)) hx hb X.2.2.2.1 (X.2.2.2.2.1 _ xt_4_2) dX4_search_151 ?_
      refine xr_puti X hw (xp_X4_38 X) 7 xl_A_Planner_at rfl dX4_search_153 hB (fun σ3 H locs hB hw => ?_)
      refine lv_aload_n hx hb dX4_search_156 rfl (lv_at hl 0 rfl) ?_
      refine xr_getr X hw (xf_X4_24 X) 7 xl_A_Planner_at rfl dX4_search_157 ?_
      refine xr_v hw (xr_runV (As := []) (rest := []) X hw 21 (xc_X10_clear l D cy q σ3 5 (by decide) hB _) xm_X10_clear xt_4_3 xt_2_27 xt_2_28 ⟨Nat.le_of_ble_eq_true rfl, Nat.le_of_ble_eq_true rfl⟩ (xl_A_Timetable_at (i := 5) (by decide)) rfl rfl rfl rfl hl.1 (Nat.le_of_ble_eq_true rfl) dX4_search_160 ⟨Nat.zero_le _, Nat.zero_le _⟩) (fun σ4 H locs hB hw => ?_)
      refine lv_aload_n hx hb dX4_search_163 rfl (lv_at hl 0 rfl) ?_
      refine lv_iload hx hb dX4_search_164 (lv_at hl 4 rfl) ?_
      refine lv_iconst (v := (0 : Int32)) hx hb dX4_search_166 (by decide) ?_
      refine lv_iconst (v := (0 : Int32)) hx hb dX4_search_167 (by decide) ?_
      refine lv_iconst (v := (0 : Int32)) hx hb dX4_search_168 (by decide) ?_
      refine xr_v hw (xr_runV (As := [.int v4, .int (0 : Int32), .int (0 : Int32), .int (0 : Int32)]) (rest := []) X hw 7 (xc_X4_tryOrders l D cy q 8 σ4 v4 (0 : Int32) (0 : Int32) (0 : Int32) hB _) xm_X4_tryOrders xt_4_4 xt_4_6 xt_p_21 ⟨Nat.le_of_ble_eq_true rfl, Nat.le_of_ble_eq_true rfl⟩ xl_A_Planner_at rfl rfl rfl rfl hl.1 (Nat.le_of_ble_eq_true rfl) dX4_search_169 ⟨Nat.zero_le _, Nat.zero_le _⟩) (fun σ5 H locs hB hw => ?_)
      refine lv_iconst (v := (1 : Int32)) hx hb dX4_search_172 (by decide) ?_
      exact xr_zret X hw hr hk hB dX4_search_173
    · replace hB := hB.2 hc
      refine lv_aload_n hx hb dX4_search_18 rfl (lv_at hl 0 rfl) ?_
      refine xr_getr X hw (xf_X4_41 X) 7 xl_A_Planner_at rfl dX4_search_19 ?_
      refine lv_aload_n hx hb dX4_search_22 rfl (lv_at hl 1 rfl) ?_
      refine xr_geti X hw (xf_X4_54 X) (11 + o1) (xl_A_Show_at (i := o1) h1) rfl dX4_search_23 ?_
      refine lv_iload hx hb dX4_search_26 (lv_at hl 5 rfl) ?_
      refine xr_i hw (xr_runV (As := [.int (σ.1 (11 + o1) 3), .int v5]) (rest := []) X hw 4 (xc_X2_ofBreed l D cy q σ (σ.1 (11 + o1) 3) v5 hB _) xm_X2_ofBreed xt_3_200 xt_3_201 xt_3_202 ⟨Nat.le_of_ble_eq_true rfl, Nat.le_of_ble_eq_true rfl⟩ xl_A_Kennel_at rfl rfl rfl rfl hl.1 (Nat.le_of_ble_eq_true rfl) dX4_search_28 ⟨Nat.zero_le _, Nat.zero_le _⟩) (fun r7 σ6 H locs hB hw => ?_)
      refine lv_istore (lv' := [(6, .int r7), (0, .ref (q 7)), (1, .ref (q (11 + o1))), (2, .int a2), (3, .int a3), (4, .int v4), (5, .int v5)]) hx hb dX4_search_31 hl (by decide) rfl (fun ls hl => ?_)
      refine lv_aload_n hx hb dX4_search_33 rfl (lv_at hl 1 rfl) ?_
      refine xr_getr X hw (xf_X4_9 X) 7 xl_A_Planner_at rfl dX4_search_34 ?_
      refine lv_iload hx hb dX4_search_37 (lv_at hl 6 rfl) ?_
      refine lv_aload_n hx hb dX4_search_39 rfl (lv_at hl 1 rfl) ?_
      refine xr_getr X hw (xf_X4_41 X) 7 xl_A_Planner_at rfl dX4_search_40 ?_
      refine xr_getr X hw (xf_X4_63 X) 4 xl_A_Kennel_at rfl dX4_search_43 ?_
      refine lv_iload hx hb dX4_search_46 (lv_at hl 6 rfl) ?_
      refine xr_iald X hw 31 xl_A_Kennel_minutes_at hB.1 dX4_search_48 ?_
      replace hB := hB.2
      refine lv_iload hx hb dX4_search_49 (lv_at hl 0 rfl) ?_
      refine xr_i hw (xr_runS (As := [.int r7]) (rest := [.int (σ6.1 31 (Int32.toNatClampNeg v5)), .int v5, .ref (q 45)]) X hw (xc_J6_bitCount_0f7a4 l D cy q σ6 r7 hB _) xm_J6_bitCount_0f7a4 xt_3_204 xt_3_205 ⟨Nat.le_of_ble_eq_true rfl, Nat.le_of_ble_eq_true rfl⟩ rfl rfl hl.1 (Nat.le_of_ble_eq_true rfl) dX4_search_51 ⟨Nat.zero_le _, Nat.zero_le _⟩) (fun r9 σ8 H locs hB hw => ?_)
      refine lv_imul hx hb dX4_search_54 ?_
      refine xr_iast X hw 45 xl_A_Planner_length_at hB.1 dX4_search_55 hB.2 (fun σ10 H locs hB hw => ?_)
      refine lv_aload_n hx hb dX4_search_56 rfl (lv_at hl 1 rfl) ?_
      refine xr_getr X hw (xf_X4_18 X) 7 xl_A_Planner_at rfl dX4_search_57 ?_
      refine lv_iload hx hb dX4_search_60 (lv_at hl 6 rfl) ?_
      refine lv_aload_n hx hb dX4_search_62 rfl (lv_at hl 1 rfl) ?_
      refine xr_getr X hw (xf_X4_41 X) 7 xl_A_Planner_at rfl dX4_search_63 ?_
      refine lv_iload hx hb dX4_search_66 (lv_at hl 0 rfl) ?_
      refine xr_i hw (xr_runV (As := [.int r7]) (rest := [.int v5, .ref (q 47)]) X hw 4 (xc_X2_handlersOf l D cy q σ10 r7 hB _) xm_X2_handlersOf xt_3_210 xt_3_211 xt_3_212 ⟨Nat.le_of_ble_eq_true rfl, Nat.le_of_ble_eq_true rfl⟩ xl_A_Kennel_at rfl rfl rfl rfl hl.1 (Nat.le_of_ble_eq_true rfl) dX4_search_68 ⟨Nat.zero_le _, Nat.zero_le _⟩) (fun r12 σ11 H locs hB hw => ?_)
      refine xr_iast X hw 47 xl_A_Planner_handlers_at hB.1 dX4_search_71 hB.2 (fun σ13 H locs hB hw => ?_)
      refine lv_aload_n hx hb dX4_search_72 rfl (lv_at hl 1 rfl) ?_
      refine xr_getr X hw (xf_X4_15 X) 7 xl_A_Planner_at rfl dX4_search_73 ?_
      refine lv_iload hx hb dX4_search_76 (lv_at hl 6 rfl) ?_
      refine lv_iload hx hb dX4_search_78 (lv_at hl 0 rfl) ?_
      refine lv_if_ne (tgt := 87) hx hb dX4_search_80 (by decide) (fun hc => ?_) (fun hc => ?_)
      · replace hB := hB.1 hc
        refine lv_aload_n hx hb dX4_search_87 rfl (lv_at hl 1 rfl) ?_
        refine lv_aload_n hx hb dX4_search_88 rfl (lv_at hl 2 rfl) ?_
        refine lv_iload hx hb dX4_search_89 (lv_at hl 6 rfl) ?_
        refine lv_iload hx hb dX4_search_91 (lv_at hl 0 rfl) ?_
        refine lv_iload_n hx hb dX4_search_93 rfl (lv_at hl 3 rfl) ?_
        refine xr_i hw (xr_runV (As := [.ref (q (11 + o1)), .int v5, .int r7, .int a2]) (rest := [.int v5, .ref (q 46)]) X hw 7 (xc_X4_judgesFor l D cy q σ13 o1 v5 r7 a2 h1 hB _) xm_X4_judgesFor xt_3_214 xt_3_216 xt_p_18 ⟨Nat.le_of_ble_eq_true rfl, Nat.le_of_ble_eq_true rfl⟩ xl_A_Planner_at rfl rfl rfl rfl hl.1 (Nat.le_of_ble_eq_true rfl) dX4_search_94 ⟨Nat.zero_le _, Nat.zero_le _⟩) (fun r15 σ14 H locs hB hw => ?_)
        refine xr_iast X hw 46 xl_A_Planner_judges_at hB.1 dX4_search_97 hB.2 (fun σ16 H locs hB hw => ?_)
        refine lv_iload hx hb dX4_search_98 (lv_at hl 0 rfl) ?_
        refine lv_if_eq (tgt := 115) hx hb dX4_search_100 (by decide) (fun hc => ?_) (fun hc => ?_)
        · replace hB := hB.1 hc
          exact hB _ _ _ hw (lv_sub hl [1, 2, 3, 4, 5, 6, 0] rfl)
        · replace hB := hB.2 hc
          refine lv_aload_n hx hb dX4_search_103 rfl (lv_at hl 1 rfl) ?_
          refine xr_getr X hw (xf_X4_15 X) 7 xl_A_Planner_at rfl dX4_search_104 ?_
          refine lv_iload hx hb dX4_search_107 (lv_at hl 6 rfl) ?_
          refine xr_iald X hw 46 xl_A_Planner_judges_at hB.1 dX4_search_109 ?_
          replace hB := hB.2
          refine lv_if_ne (tgt := 115) hx hb dX4_search_110 (by decide) (fun hc => ?_) (fun hc => ?_)
          · replace hB := hB.1 hc
            exact hB _ _ _ hw (lv_sub hl [1, 2, 3, 4, 5, 6, 0] rfl)
          · replace hB := hB.2 hc
            refine lv_iconst (v := (0 : Int32)) hx hb dX4_search_113 (by decide) ?_
            exact xr_zret X hw hr hk hB dX4_search_114
      · replace hB := hB.2 hc
        refine lv_iconst (v := (0 : Int32)) hx hb dX4_search_83 (by decide) ?_
        refine lv_goto (tgt := 97) hx hb dX4_search_84 (by decide) ?_
        refine xr_iast X hw 46 xl_A_Planner_judges_at hB.1 dX4_search_97 hB.2 (fun σ17 H locs hB hw => ?_)
        refine lv_iload hx hb dX4_search_98 (lv_at hl 0 rfl) ?_
        refine lv_if_eq (tgt := 115) hx hb dX4_search_100 (by decide) (fun hc => ?_) (fun hc => ?_)
        · replace hB := hB.1 hc
          exact hB _ _ _ hw (lv_sub hl [1, 2, 3, 4, 5, 6, 0] rfl)
        · replace hB := hB.2 hc
          refine lv_aload_n hx hb dX4_search_103 rfl (lv_at hl 1 rfl) ?_
          refine xr_getr X hw (xf_X4_15 X) 7 xl_A_Planner_at rfl dX4_search_104 ?_
          refine lv_iload hx hb dX4_search_107 (lv_at hl 6 rfl) ?_
          refine xr_iald X hw 46 xl_A_Planner_judges_at hB.1 dX4_search_109 ?_
          replace hB := hB.2
          refine lv_if_ne (tgt := 115) hx hb dX4_search_110 (by decide) (fun hc => ?_) (fun hc => ?_)
          · replace hB := hB.1 hc
            exact hB _ _ _ hw (lv_sub hl [1, 2, 3, 4, 5, 6, 0] rfl)
          · replace hB := hB.2 hc
            refine lv_iconst (v := (0 : Int32)) hx hb dX4_search_113 (by decide) ?_
            exact xr_zret X hw hr hk hB dX4_search_114)
    (by
    intro σ v4 v5 v6 hB H locs ls hw hl
    unfold xb_X4_search_115 at hB
    refine lv_iload hx hb dX4_search_115 (lv_at hl 4 rfl) ?_
    refine lv_iload hx hb dX4_search_117 (lv_at hl 6 rfl) ?_
    refine lv_if_ne (tgt := 126) hx hb dX4_search_119 (by decide) (fun hc => ?_) (fun hc => ?_)
    · replace hB := hB.1 hc
      refine lv_iconst (v := (1 : Int32)) hx hb dX4_search_126 (by decide) ?_
      refine lv_iload hx hb dX4_search_127 (lv_at hl 5 rfl) ?_
      refine lv_ishl hx hb dX4_search_129 ?_
      refine lv_ior hx hb dX4_search_130 ?_
      refine lv_istore (lv' := [(4, .int (v4 ||| ((1 : Int32) <<< (v5 &&& 31)))), (0, .ref (q 7)), (1, .ref (q (11 + o1))), (2, .int a2), (3, .int a3), (5, .int v5), (6, .int v6)]) hx hb dX4_search_131 hl (by decide) rfl (fun ls hl => ?_)
      refine lv_iinc (v := (v5 + (1 : Int32))) (lv' := [(5, .int (v5 + (1 : Int32))), (4, .int (v4 ||| ((1 : Int32) <<< (v5 &&& 31)))), (0, .ref (q 7)), (1, .ref (q (11 + o1))), (2, .int a2), (3, .int a3), (6, .int v6)]) hx hb dX4_search_133 hl (k := 5) rfl rfl (by decide) rfl (fun ls hl => ?_)
      refine lv_goto (tgt := 6) hx hb dX4_search_136 (by decide) ?_
      exact hB _ _ _ hw (lv_sub hl [2, 3, 4, 5, 1, 0] rfl)
    · replace hB := hB.2 hc
      refine lv_iconst (v := (0 : Int32)) hx hb dX4_search_122 (by decide) ?_
      refine lv_goto (tgt := 130) hx hb dX4_search_123 (by decide) ?_
      refine lv_ior hx hb dX4_search_130 ?_
      refine lv_istore (lv' := [(4, .int (v4 ||| (0 : Int32))), (0, .ref (q 7)), (1, .ref (q (11 + o1))), (2, .int a2), (3, .int a3), (5, .int v5), (6, .int v6)]) hx hb dX4_search_131 hl (by decide) rfl (fun ls hl => ?_)
      refine lv_iinc (v := (v5 + (1 : Int32))) (lv' := [(5, .int (v5 + (1 : Int32))), (4, .int (v4 ||| (0 : Int32))), (0, .ref (q 7)), (1, .ref (q (11 + o1))), (2, .int a2), (3, .int a3), (6, .int v6)]) hx hb dX4_search_133 hl (k := 5) rfl rfl (by decide) rfl (fun ls hl => ?_)
      refine lv_goto (tgt := 6) hx hb dX4_search_136 (by decide) ?_
      exact hB _ _ _ hw (lv_sub hl [2, 3, 4, 5, 1, 0] rfl))
  unfold xb_X4_search_e at hB
  refine lv_iconst (v := (0 : Int32)) hx hb dX4_search_0 (by decide) ?_
  refine lv_istore (lv' := [(4, .int (0 : Int32)), (0, .ref (q 7)), (1, .ref (q (11 + o1))), (2, .int a2), (3, .int a3)]) hx hb dX4_search_1 hl (by decide) rfl (fun ls hl => ?_)
  refine lv_iconst (v := (0 : Int32)) hx hb dX4_search_3 (by decide) ?_
  refine lv_istore (lv' := [(5, .int (0 : Int32)), (4, .int (0 : Int32)), (0, .ref (q 7)), (1, .ref (q (11 + o1))), (2, .int a2), (3, .int a3)]) hx hb dX4_search_4 hl (by decide) rfl (fun ls hl => ?_)
  exact hB _ _ _ hw (lv_sub hl [2, 3, 4, 5, 1, 0] rfl)
theorem xf_X11_67 {p : Program} {s : State} {m : MethodId} {args : Array Value} {c : Code} {cc : ByteArray} {nL : Nat} {D : va_G} {cy : Nat → ClassId} {lay : List xw_E} {q : Nat → Nat} (X : xr_X p s m args c cc nL RX11 D cy lay q) : xr_F args s RX11 67 11 6 := ⟨RX11, TX11, 12, tyX11, rfl, by decide, fun w h => X.2.2.2.2.1 w (xt_inX11 w h), tyX11_ok, nmX11, Or.inl (X.2.2.2.2.1 _ xt_2_118)⟩
theorem xm_X4_search : xr_MW yX4_search cX4_search 7 (some .boolean) 3 := ⟨xt_3_199, xt_1_9, by decide, by decide, by decide +kernel⟩
theorem xf_X11_208 {p : Program} {s : State} {m : MethodId} {args : Array Value} {c : Code} {cc : ByteArray} {nL : Nat} {D : va_G} {cy : Nat → ClassId} {lay : List xw_E} {q : Nat → Nat} (X : xr_X p s m args c cc nL RX11 D cy lay q) : xr_F args s RX11 208 4 6 := ⟨RX4, TX4, 10, tyX4, rfl, by decide, fun w h => X.2.2.2.2.1 w (xt_inX4 w h), tyX4_ok, nmX4, Or.inr (va_Nw.use rfl (X.2.2.2.2.2.1.1 _ (List.mem_of_getElem? (i := 33) rfl)))⟩
theorem xf_X11_214 {p : Program} {s : State} {m : MethodId} {args : Array Value} {c : Code} {cc : ByteArray} {nL : Nat} {D : va_G} {cy : Nat → ClassId} {lay : List xw_E} {q : Nat → Nat} (X : xr_X p s m args c cc nL RX11 D cy lay q) : xr_F args s RX11 214 4 8 := ⟨RX4, TX4, 10, tyX4, rfl, by decide, fun w h => X.2.2.2.2.1 w (xt_inX4 w h), tyX4_ok, nmX4, Or.inr (va_Nw.use rfl (X.2.2.2.2.2.1.1 _ (List.mem_of_getElem? (i := 34) rfl)))⟩
set_option maxRecDepth 100000 in
set_option maxHeartbeats 4000000 in
theorem xc_X11_plan (l : Launch) (D : va_G) (cy : Nat → ClassId) (q : Nat → Nat) (σ : xw_M) (a1 : Int32) (a2 : Int32) {Z : Int32 → xw_M → Prop} (hU : xu_X11_plan σ a1 a2 Z) : xr_CI l yX11_plan cX11_plan 3 .int { frames := 16, cells := 0, slots := 0, locals := 392 } D cy xl_A q σ [.ref (q 0), .int a1, .int a2] Z := by
  refine xr_CI.of RX11 rfl (by decide) (Nat.le_of_ble_eq_true rfl) (fun p e s m below meth c X hw hr hk ls hl => ?_)
  have hx := X.1
  have hb := X.2.1
  have hl : lv_has ls 3 [(0, .ref (q 0)), (1, .int a1), (2, .int a2)] := hl
  unfold xu_X11_plan at hU
  have hB := hU
  refine lv_aload_n hx hb dX11_plan_0 rfl (lv_at hl 0 rfl) ?_
  refine lv_iload_n hx hb dX11_plan_1 rfl (lv_at hl 1 rfl) ?_
  refine xr_i hw (xr_runV (As := [.int a1]) (rest := []) X hw 0 (xc_X11_isShow l D cy q σ a1 hB _) xm_X11_isShow xt_3_131 xt_3_133 xt_p_14 ⟨Nat.le_of_ble_eq_true rfl, Nat.le_of_ble_eq_true rfl⟩ xl_A_ShowRings_at rfl rfl rfl rfl hl.1 (Nat.le_of_ble_eq_true rfl) dX11_plan_2 ⟨Nat.zero_le _, Nat.zero_le _⟩) (fun r2 σ1 H locs hB hw => ?_)
  refine lv_if_eq (tgt := 16) hx hb dX11_plan_5 (by decide) (fun hc => ?_) (fun hc => ?_)
  · replace hB := hB.1 hc
    refine lv_iconst (v := (-1 : Int32)) hx hb dX11_plan_16 (by decide) ?_
    exact xr_iret X hw hr hk hB dX11_plan_17
  · replace hB := hB.2 hc
    refine lv_aload_n hx hb dX11_plan_8 rfl (lv_at hl 0 rfl) ?_
    refine lv_iload_n hx hb dX11_plan_9 rfl (lv_at hl 2 rfl) ?_
    refine xr_i hw (xr_runV (As := [.int a2]) (rest := []) X hw 0 (xc_X11_isKnown l D cy q σ1 a2 hB _) xm_X11_isKnown xt_3_192 xt_3_194 xt_p_17 ⟨Nat.le_of_ble_eq_true rfl, Nat.le_of_ble_eq_true rfl⟩ xl_A_ShowRings_at rfl rfl rfl rfl hl.1 (Nat.le_of_ble_eq_true rfl) dX11_plan_10 ⟨Nat.zero_le _, Nat.zero_le _⟩) (fun r4 σ3 H locs hB hw => ?_)
    refine lv_if_ne (tgt := 18) hx hb dX11_plan_13 (by decide) (fun hc => ?_) (fun hc => ?_)
    · replace hB := hB.1 hc
      refine lv_aload_n hx hb dX11_plan_18 rfl (lv_at hl 0 rfl) ?_
      refine xr_getr X hw (xf_X11_67 X) 0 xl_A_ShowRings_at rfl dX11_plan_19 ?_
      refine lv_aload_n hx hb dX11_plan_22 rfl (lv_at hl 0 rfl) ?_
      refine xr_getr X hw (xf_X11_82 X) 0 xl_A_ShowRings_at rfl dX11_plan_23 ?_
      refine lv_iload_n hx hb dX11_plan_26 rfl (lv_at hl 1 rfl) ?_
      have hi5 := hB.1
      refine xr_aald X hw 23 xl_A_ShowRings_shows_at hi5 dX11_plan_27 ?_
      replace hB := hB.2
      refine lv_iload_n hx hb dX11_plan_28 rfl (lv_at hl 2 rfl) ?_
      refine lv_aload_n hx hb dX11_plan_29 rfl (lv_at hl 0 rfl) ?_
      refine xr_geti X hw (xf_X11_93 X) 0 xl_A_ShowRings_at rfl dX11_plan_30 ?_
      refine xr_i hw (xr_runV (As := [.ref (q (11 + (Int32.toNatClampNeg a1))), .int a2, .int (σ3.1 0 10)]) (rest := []) X hw 7 (xc_X4_search l D cy q σ3 (Int32.toNatClampNeg a1) a2 (σ3.1 0 10) (xr_lt hi5) hB _) xm_X4_search xt_3_196 xt_3_197 xt_3_198 ⟨Nat.le_of_ble_eq_true rfl, Nat.le_of_ble_eq_true rfl⟩ xl_A_Planner_at rfl rfl rfl rfl hl.1 (Nat.le_of_ble_eq_true rfl) dX11_plan_33 ⟨Nat.zero_le _, Nat.zero_le _⟩) (fun r7 σ6 H locs hB hw => ?_)
      refine lv_if_ne (tgt := 42) hx hb dX11_plan_36 (by decide) (fun hc => ?_) (fun hc => ?_)
      · replace hB := hB.1 hc
        refine lv_aload_n hx hb dX11_plan_42 rfl (lv_at hl 0 rfl) ?_
        refine xr_getr X hw (xf_X11_82 X) 0 xl_A_ShowRings_at rfl dX11_plan_43 ?_
        refine lv_iload_n hx hb dX11_plan_46 rfl (lv_at hl 1 rfl) ?_
        have hi8 := hB.1
        refine xr_aald X hw 23 xl_A_ShowRings_shows_at hi8 dX11_plan_47 ?_
        replace hB := hB.2
        refine xr_getr X hw (xf_X11_177 X) (11 + (Int32.toNatClampNeg a1)) (xl_A_Show_at (i := (Int32.toNatClampNeg a1)) (xr_lt hi8)) rfl dX11_plan_48 ?_
        refine lv_aload_n hx hb dX11_plan_51 rfl (lv_at hl 0 rfl) ?_
        refine xr_getr X hw (xf_X11_67 X) 0 xl_A_ShowRings_at rfl dX11_plan_52 ?_
        refine xr_getr X hw (xf_X11_208 X) 7 xl_A_Planner_at rfl dX11_plan_55 ?_
        refine xr_v hw (xr_runV (As := [.ref (q 22)]) (rest := []) X hw (16 + (Int32.toNatClampNeg a1)) (xc_X10_copyFrom l D cy q σ6 (Int32.toNatClampNeg a1) 6 (Nat.lt_of_lt_of_le (xr_lt hi8) (by decide)) (by decide) hB _) xm_X10_copyFrom xt_4_43 xt_4_9 xt_4_10 ⟨Nat.le_of_ble_eq_true rfl, Nat.le_of_ble_eq_true rfl⟩ (xl_A_Timetable_at (i := (Int32.toNatClampNeg a1)) (Nat.lt_of_lt_of_le (xr_lt hi8) (by decide))) rfl rfl rfl rfl hl.1 (Nat.le_of_ble_eq_true rfl) dX11_plan_58 ⟨Nat.zero_le _, Nat.zero_le _⟩) (fun σ9 H locs hB hw => ?_)
        refine lv_aload_n hx hb dX11_plan_61 rfl (lv_at hl 0 rfl) ?_
        refine xr_getr X hw (xf_X11_67 X) 0 xl_A_ShowRings_at rfl dX11_plan_62 ?_
        refine xr_geti X hw (xf_X11_214 X) 7 xl_A_Planner_at rfl dX11_plan_65 ?_
        exact xr_iret X hw hr hk hB dX11_plan_68
      · replace hB := hB.2 hc
        refine lv_bipush (v := (-2 : Int32)) hx hb dX11_plan_39 (by decide) ?_
        exact xr_iret X hw hr hk hB dX11_plan_41
    · replace hB := hB.2 hc
      refine lv_iconst (v := (-1 : Int32)) hx hb dX11_plan_16 (by decide) ?_
      exact xr_iret X hw hr hk hB dX11_plan_17
theorem xf_X3_66 {p : Program} {s : State} {m : MethodId} {args : Array Value} {c : Code} {cc : ByteArray} {nL : Nat} {D : va_G} {cy : Nat → ClassId} {lay : List xw_E} {q : Nat → Nat} (X : xr_X p s m args c cc nL RX3 D cy lay q) : xr_F args s RX3 66 9 9 := ⟨RX9, TX9, 11, tyX9, rfl, by decide, fun w h => X.2.2.2.2.1 w (xt_inX9 w h), tyX9_ok, nmX9, Or.inr (va_Nw.use rfl (X.2.2.2.2.2.1.1 _ (List.mem_of_getElem? (i := 5) rfl)))⟩
theorem xf_X3_72 {p : Program} {s : State} {m : MethodId} {args : Array Value} {c : Code} {cc : ByteArray} {nL : Nat} {D : va_G} {cy : Nat → ClassId} {lay : List xw_E} {q : Nat → Nat} (X : xr_X p s m args c cc nL RX3 D cy lay q) : xr_F args s RX3 72 9 10 := ⟨RX9, TX9, 11, tyX9, rfl, by decide, fun w h => X.2.2.2.2.1 w (xt_inX9 w h), tyX9_ok, nmX9, Or.inr (va_Nw.use rfl (X.2.2.2.2.2.1.1 _ (List.mem_of_getElem? (i := 7) rfl)))⟩
theorem xm_X9_addRule : xr_MW yX9_addRule cX9_addRule 6 none 5 := ⟨xt_3_61, xt_1_3, by decide, by decide, by decide +kernel⟩
set_option maxRecDepth 100000 in
set_option maxHeartbeats 4000000 in
theorem xc_X3_parseRule (l : Launch) (D : va_G) (cy : Nat → ClassId) (q : Nat → Nat) (σ : xw_M)  {Z : xw_M → Prop} (hU : xu_X3_parseRule σ Z) : xr_CV l yX3_parseRule cX3_parseRule 6 { frames := 65, cells := 0, slots := 0, locals := 1499 } D cy xl_A q σ [.ref (q 3)] Z := by
  refine xr_CV.of RX3 rfl (by decide) (Nat.le_of_ble_eq_true rfl) (fun p e s m below meth c X hw hr hk ls hl => ?_)
  have hx := X.1
  have hb := X.2.1
  have hl : lv_has ls 6 [(0, .ref (q 3))] := hl
  have hB := hU (fun (σ : xw_M) (v1 : Int32) => ∀ (H : Heap) (locs : List Loc) (ls : Array Slot), xr_H D cy xl_A q s σ H locs → lv_has ls 6 [(0, .ref (q 3)), (1, .int v1)] → W p l e ({ frames := 65, cells := 0, slots := 0, locals := 1499 } : Room) s m ([.ref (q 3)] : List Value).toArray below meth c H locs 0 0 (MQ below (va_Qv Z (xr_po D cy xl_A q) (xw_A xl_A q s.heap.size)) ([.ref (q 3)] : List Value).toArray s 0 0 (xw_A xl_A q s.heap.size)) (F0 m 34 ls []))
    (fun (σ : xw_M) (s0 : Int32) (v1 : Int32) => ∀ (H : Heap) (locs : List Loc) (ls : Array Slot), xr_H D cy xl_A q s σ H locs → lv_has ls 6 [(0, .ref (q 3)), (1, .int v1)] → W p l e ({ frames := 65, cells := 0, slots := 0, locals := 1499 } : Room) s m ([.ref (q 3)] : List Value).toArray below meth c H locs 0 0 (MQ below (va_Qv Z (xr_po D cy xl_A q) (xw_A xl_A q s.heap.size)) ([.ref (q 3)] : List Value).toArray s 0 0 (xw_A xl_A q s.heap.size)) (F0 m 76 ls [.int s0]))
    (fun (σ : xw_M) (v1 : Int32) (v2 : Int32) (v3 : Int32) => ∀ (H : Heap) (locs : List Loc) (ls : Array Slot), xr_H D cy xl_A q s σ H locs → lv_has ls 6 [(0, .ref (q 3)), (1, .int v1), (2, .int v2), (3, .int v3)] → W p l e ({ frames := 65, cells := 0, slots := 0, locals := 1499 } : Room) s m ([.ref (q 3)] : List Value).toArray below meth c H locs 0 0 (MQ below (va_Qv Z (xr_po D cy xl_A q) (xw_A xl_A q s.heap.size)) ([.ref (q 3)] : List Value).toArray s 0 0 (xw_A xl_A q s.heap.size)) (F0 m 96 ls []))
    (fun (σ : xw_M) (v1 : Int32) (v2 : Int32) (v3 : Int32) (v4 : Int32) => ∀ (H : Heap) (locs : List Loc) (ls : Array Slot), xr_H D cy xl_A q s σ H locs → lv_has ls 6 [(0, .ref (q 3)), (1, .int v1), (2, .int v2), (3, .int v3), (4, .int v4)] → W p l e ({ frames := 65, cells := 0, slots := 0, locals := 1499 } : Room) s m ([.ref (q 3)] : List Value).toArray below meth c H locs 0 0 (MQ below (va_Qv Z (xr_po D cy xl_A q) (xw_A xl_A q s.heap.size)) ([.ref (q 3)] : List Value).toArray s 0 0 (xw_A xl_A q s.heap.size)) (F0 m 117 ls []))
    (fun (σ : xw_M) (v1 : Int32) (v2 : Int32) (v3 : Int32) (v4 : Int32) (v5 : Int32) => ∀ (H : Heap) (locs : List Loc) (ls : Array Slot), xr_H D cy xl_A q s σ H locs → lv_has ls 6 [(0, .ref (q 3)), (1, .int v1), (2, .int v2), (3, .int v3), (4, .int v4), (5, .int v5)] → W p l e ({ frames := 65, cells := 0, slots := 0, locals := 1499 } : Room) s m ([.ref (q 3)] : List Value).toArray below meth c H locs 0 0 (MQ below (va_Qv Z (xr_po D cy xl_A q) (xw_A xl_A q s.heap.size)) ([.ref (q 3)] : List Value).toArray s 0 0 (xw_A xl_A q s.heap.size)) (F0 m 152 ls []))
    (by
    intro σ v1 hB H locs ls hw hl
    unfold xb_X3_parseRule_34 at hB
    refine lv_aload_n hx hb dX3_parseRule_34 rfl (lv_at hl 0 rfl) ?_
    refine xr_getr X hw (xf_X3_25 X) 3 xl_A_Parser_at rfl dX3_parseRule_35 ?_
    refine xr_geti X hw (xf_X3_66 X) 10 (xl_A_Text_at (i := 1) (by decide)) rfl dX3_parseRule_38 ?_
    refine lv_bipush (v := (16 : Int32)) hx hb dX3_parseRule_41 (by decide) ?_
    refine lv_icmp_lt (tgt := 52) hx hb dX3_parseRule_43 (by decide) (fun hc => ?_) (fun hc => ?_)
    · replace hB := hB.1 hc
      refine lv_aload_n hx hb dX3_parseRule_52 rfl (lv_at hl 0 rfl) ?_
      refine lv_iload_n hx hb dX3_parseRule_53 rfl (lv_at hl 1 rfl) ?_
      refine xr_v hw (xr_runV (As := [.int v1]) (rest := []) X hw 3 (xc_X3_take l D cy q σ v1 hB _) xm_X3_take xt_3_35 xt_3_37 xt_p_9 ⟨Nat.le_of_ble_eq_true rfl, Nat.le_of_ble_eq_true rfl⟩ xl_A_Parser_at rfl rfl rfl rfl hl.1 (Nat.le_of_ble_eq_true rfl) dX3_parseRule_54 ⟨Nat.zero_le _, Nat.zero_le _⟩) (fun σ4 H locs hB hw => ?_)
      refine lv_iload_n hx hb dX3_parseRule_57 rfl (lv_at hl 1 rfl) ?_
      refine lv_iconst (v := (4 : Int32)) hx hb dX3_parseRule_58 (by decide) ?_
      refine lv_icmp_eq (tgt := 68) hx hb dX3_parseRule_59 (by decide) (fun hc => ?_) (fun hc => ?_)
      · replace hB := hB.1 hc
        refine lv_aload_n hx hb dX3_parseRule_68 rfl (lv_at hl 0 rfl) ?_
        refine xr_i hw (xr_runV (As := []) (rest := []) X hw 3 (xc_X3_takeInt l D cy q σ4 hB _) xm_X3_takeInt xt_3_39 xt_3_41 xt_p_10 ⟨Nat.le_of_ble_eq_true rfl, Nat.le_of_ble_eq_true rfl⟩ xl_A_Parser_at rfl rfl rfl rfl hl.1 (Nat.le_of_ble_eq_true rfl) dX3_parseRule_69 ⟨Nat.zero_le _, Nat.zero_le _⟩) (fun r6 σ5 H locs hB hw => ?_)
        refine lv_goto (tgt := 76) hx hb dX3_parseRule_72 (by decide) ?_
        exact hB _ _ _ hw (lv_sub hl [0, 1] rfl)
      · replace hB := hB.2 hc
        refine lv_iload_n hx hb dX3_parseRule_62 rfl (lv_at hl 1 rfl) ?_
        refine lv_bipush (v := (12 : Int32)) hx hb dX3_parseRule_63 (by decide) ?_
        refine lv_icmp_ne (tgt := 75) hx hb dX3_parseRule_65 (by decide) (fun hc => ?_) (fun hc => ?_)
        · replace hB := hB.1 hc
          refine lv_iconst (v := (0 : Int32)) hx hb dX3_parseRule_75 (by decide) ?_
          exact hB _ _ _ hw (lv_sub hl [0, 1] rfl)
        · replace hB := hB.2 hc
          refine lv_aload_n hx hb dX3_parseRule_68 rfl (lv_at hl 0 rfl) ?_
          refine xr_i hw (xr_runV (As := []) (rest := []) X hw 3 (xc_X3_takeInt l D cy q σ4 hB _) xm_X3_takeInt xt_3_39 xt_3_41 xt_p_10 ⟨Nat.le_of_ble_eq_true rfl, Nat.le_of_ble_eq_true rfl⟩ xl_A_Parser_at rfl rfl rfl rfl hl.1 (Nat.le_of_ble_eq_true rfl) dX3_parseRule_69 ⟨Nat.zero_le _, Nat.zero_le _⟩) (fun r8 σ7 H locs hB hw => ?_)
          refine lv_goto (tgt := 76) hx hb dX3_parseRule_72 (by decide) ?_
          exact hB _ _ _ hw (lv_sub hl [0, 1] rfl)
    · replace hB := hB.2 hc
      refine lv_aload_n hx hb dX3_parseRule_46 rfl (lv_at hl 0 rfl) ?_
      refine lv_iconst (v := (2 : Int32)) hx hb dX3_parseRule_47 (by decide) ?_
      refine xr_v hw (xr_runV (As := [.int (2 : Int32)]) (rest := []) X hw 3 (xc_X3_fail l D cy q σ (2 : Int32) hB _) xm_X3_fail xt_3_31 xt_3_33 xt_p_8 ⟨Nat.le_of_ble_eq_true rfl, Nat.le_of_ble_eq_true rfl⟩ xl_A_Parser_at rfl rfl rfl rfl hl.1 (Nat.le_of_ble_eq_true rfl) dX3_parseRule_48 ⟨Nat.zero_le _, Nat.zero_le _⟩) (fun σ9 H locs hB hw => ?_)
      exact xr_vret X hw hr hk hB dX3_parseRule_51)
    (by
    intro σ s0 v1 hB H locs ls hw hl
    unfold xb_X3_parseRule_76 at hB
    refine lv_istore_n (lv' := [(2, .int s0), (0, .ref (q 3)), (1, .int v1)]) hx hb dX3_parseRule_76 rfl hl (by decide) rfl (fun ls hl => ?_)
    refine lv_iconst (v := (0 : Int32)) hx hb dX3_parseRule_77 (by decide) ?_
    refine lv_istore_n (lv' := [(3, .int (0 : Int32)), (2, .int s0), (0, .ref (q 3)), (1, .int v1)]) hx hb dX3_parseRule_78 rfl hl (by decide) rfl (fun ls hl => ?_)
    refine lv_iload_n hx hb dX3_parseRule_79 rfl (lv_at hl 3 rfl) ?_
    refine lv_bipush (v := (12 : Int32)) hx hb dX3_parseRule_80 (by decide) ?_
    refine lv_icmp_ne (tgt := 96) hx hb dX3_parseRule_82 (by decide) (fun hc => ?_) (fun hc => ?_)
    · replace hB := hB.1 hc
      exact hB _ _ _ hw (lv_sub hl [2, 3, 1, 0] rfl)
    · replace hB := hB.2 hc
      refine lv_aload_n hx hb dX3_parseRule_85 rfl (lv_at hl 2 rfl) ?_
      refine lv_bipush (v := (13 : Int32)) hx hb dX3_parseRule_86 (by decide) ?_
      refine xr_v hw (xr_runV (As := [.int (13 : Int32)]) (rest := []) X hw 3 (xc_X3_take l D cy q σ (13 : Int32) hB _) xm_X3_take xt_3_35 xt_3_37 xt_p_9 ⟨Nat.le_of_ble_eq_true rfl, Nat.le_of_ble_eq_true rfl⟩ xl_A_Parser_at rfl rfl rfl rfl hl.1 (Nat.le_of_ble_eq_true rfl) dX3_parseRule_88 ⟨Nat.zero_le _, Nat.zero_le _⟩) (fun σ10 H locs hB hw => ?_)
      refine lv_aload_n hx hb dX3_parseRule_91 rfl (lv_at hl 2 rfl) ?_
      refine xr_i hw (xr_runV (As := []) (rest := []) X hw 3 (xc_X3_takeInt l D cy q σ10 hB _) xm_X3_takeInt xt_3_39 xt_3_41 xt_p_10 ⟨Nat.le_of_ble_eq_true rfl, Nat.le_of_ble_eq_true rfl⟩ xl_A_Parser_at rfl rfl rfl rfl hl.1 (Nat.le_of_ble_eq_true rfl) dX3_parseRule_92 ⟨Nat.zero_le _, Nat.zero_le _⟩) (fun r12 σ11 H locs hB hw => ?_)
      refine lv_istore_n (lv' := [(3, .int r12), (2, .int s0), (0, .ref (q 3)), (1, .int v1)]) hx hb dX3_parseRule_95 rfl hl (by decide) rfl (fun ls hl => ?_)
      exact hB _ _ _ hw (lv_sub hl [2, 3, 1, 0] rfl))
    (by
    intro σ v1 v2 v3 hB H locs ls hw hl
    unfold xb_X3_parseRule_96 at hB
    refine lv_aload_n hx hb dX3_parseRule_96 rfl (lv_at hl 0 rfl) ?_
    refine xr_getr X hw (xf_X3_25 X) 3 xl_A_Parser_at rfl dX3_parseRule_97 ?_
    refine xr_geti X hw (xf_X3_72 X) 10 (xl_A_Text_at (i := 1) (by decide)) rfl dX3_parseRule_100 ?_
    refine lv_istore (lv' := [(4, .int (σ.1 10 10)), (0, .ref (q 3)), (1, .int v1), (2, .int v2), (3, .int v3)]) hx hb dX3_parseRule_103 hl (by decide) rfl (fun ls hl => ?_)
    refine lv_iload_n hx hb dX3_parseRule_105 rfl (lv_at hl 2 rfl) ?_
    refine lv_bipush (v := (11 : Int32)) hx hb dX3_parseRule_106 (by decide) ?_
    refine lv_icmp_ne (tgt := 117) hx hb dX3_parseRule_108 (by decide) (fun hc => ?_) (fun hc => ?_)
    · replace hB := hB.1 hc
      exact hB _ _ _ hw (lv_sub hl [1, 2, 3, 4, 0] rfl)
    · replace hB := hB.2 hc
      refine lv_aload_n hx hb dX3_parseRule_111 rfl (lv_at hl 1 rfl) ?_
      refine lv_iconst (v := (3 : Int32)) hx hb dX3_parseRule_112 (by decide) ?_
      refine lv_iconst (v := (0 : Int32)) hx hb dX3_parseRule_113 (by decide) ?_
      refine xr_v hw (xr_runV (As := [.int (3 : Int32), .int (0 : Int32)]) (rest := []) X hw 3 (xc_X3_parseLevel l D cy q 30 σ (3 : Int32) (0 : Int32) hB _) xm_X3_parseLevel xt_3_43 xt_3_45 xt_p_11 ⟨Nat.le_of_ble_eq_true rfl, Nat.le_of_ble_eq_true rfl⟩ xl_A_Parser_at rfl rfl rfl rfl hl.1 (Nat.le_of_ble_eq_true rfl) dX3_parseRule_114 ⟨Nat.zero_le _, Nat.zero_le _⟩) (fun σ13 H locs hB hw => ?_)
      exact hB _ _ _ hw (lv_sub hl [1, 2, 3, 4, 0] rfl))
    (by
    intro σ v1 v2 v3 v4 hB H locs ls hw hl
    unfold xb_X3_parseRule_117 at hB
    refine lv_aload_n hx hb dX3_parseRule_117 rfl (lv_at hl 0 rfl) ?_
    refine xr_getr X hw (xf_X3_25 X) 3 xl_A_Parser_at rfl dX3_parseRule_118 ?_
    refine xr_geti X hw (xf_X3_72 X) 10 (xl_A_Text_at (i := 1) (by decide)) rfl dX3_parseRule_121 ?_
    refine lv_istore (lv' := [(5, .int (σ.1 10 10)), (0, .ref (q 3)), (1, .int v1), (2, .int v2), (3, .int v3), (4, .int v4)]) hx hb dX3_parseRule_124 hl (by decide) rfl (fun ls hl => ?_)
    refine lv_iload_n hx hb dX3_parseRule_126 rfl (lv_at hl 2 rfl) ?_
    refine lv_bipush (v := (9 : Int32)) hx hb dX3_parseRule_127 (by decide) ?_
    refine lv_icmp_eq (tgt := 152) hx hb dX3_parseRule_129 (by decide) (fun hc => ?_) (fun hc => ?_)
    · replace hB := hB.1 hc
      exact hB _ _ _ hw (lv_sub hl [1, 2, 3, 4, 5, 0] rfl)
    · replace hB := hB.2 hc
      refine lv_iload_n hx hb dX3_parseRule_132 rfl (lv_at hl 2 rfl) ?_
      refine lv_iconst (v := (4 : Int32)) hx hb dX3_parseRule_133 (by decide) ?_
      refine lv_icmp_eq (tgt := 152) hx hb dX3_parseRule_134 (by decide) (fun hc => ?_) (fun hc => ?_)
      · replace hB := hB.1 hc
        exact hB _ _ _ hw (lv_sub hl [1, 2, 3, 4, 5, 0] rfl)
      · replace hB := hB.2 hc
        refine lv_iload_n hx hb dX3_parseRule_137 rfl (lv_at hl 2 rfl) ?_
        refine lv_bipush (v := (11 : Int32)) hx hb dX3_parseRule_138 (by decide) ?_
        refine lv_icmp_ne (tgt := 164) hx hb dX3_parseRule_140 (by decide) (fun hc => ?_) (fun hc => ?_)
        · replace hB := hB.1 hc
          refine lv_aload_n hx hb dX3_parseRule_164 rfl (lv_at hl 1 rfl) ?_
          refine lv_bipush (v := (17 : Int32)) hx hb dX3_parseRule_165 (by decide) ?_
          refine xr_v hw (xr_runV (As := [.int (17 : Int32)]) (rest := []) X hw 3 (xc_X3_take l D cy q σ (17 : Int32) hB _) xm_X3_take xt_3_35 xt_3_37 xt_p_9 ⟨Nat.le_of_ble_eq_true rfl, Nat.le_of_ble_eq_true rfl⟩ xl_A_Parser_at rfl rfl rfl rfl hl.1 (Nat.le_of_ble_eq_true rfl) dX3_parseRule_167 ⟨Nat.zero_le _, Nat.zero_le _⟩) (fun σ14 H locs hB hw => ?_)
          refine lv_aload_n hx hb dX3_parseRule_170 rfl (lv_at hl 1 rfl) ?_
          refine xr_getr X hw (xf_X3_25 X) 3 xl_A_Parser_at rfl dX3_parseRule_171 ?_
          refine lv_iload_n hx hb dX3_parseRule_174 rfl (lv_at hl 2 rfl) ?_
          refine lv_iload_n hx hb dX3_parseRule_175 rfl (lv_at hl 3 rfl) ?_
          refine lv_iload_n hx hb dX3_parseRule_176 rfl (lv_at hl 4 rfl) ?_
          refine lv_iload hx hb dX3_parseRule_177 (lv_at hl 5 rfl) ?_
          refine lv_iload hx hb dX3_parseRule_179 (lv_at hl 0 rfl) ?_
          refine xr_v hw (xr_runV (As := [.int v1, .int v2, .int v3, .int v4, .int (σ.1 10 10)]) (rest := []) X hw 10 (xc_X9_addRule l D cy q σ14 1 v1 v2 v3 v4 (σ.1 10 10) (by decide) hB _) xm_X9_addRule xt_3_58 xt_3_59 xt_3_60 ⟨Nat.le_of_ble_eq_true rfl, Nat.le_of_ble_eq_true rfl⟩ (xl_A_Text_at (i := 1) (by decide)) rfl rfl rfl rfl hl.1 (Nat.le_of_ble_eq_true rfl) dX3_parseRule_181 ⟨Nat.zero_le _, Nat.zero_le _⟩) (fun σ15 H locs hB hw => ?_)
          exact xr_vret X hw hr hk hB dX3_parseRule_184
        · replace hB := hB.2 hc
          refine lv_aload_n hx hb dX3_parseRule_143 rfl (lv_at hl 1 rfl) ?_
          refine xr_i hw (xr_runV (As := []) (rest := []) X hw 3 (xc_X3_seen l D cy q σ hB _) xm_X3_seen xt_3_23 xt_3_25 xt_p_6 ⟨Nat.le_of_ble_eq_true rfl, Nat.le_of_ble_eq_true rfl⟩ xl_A_Parser_at rfl rfl rfl rfl hl.1 (Nat.le_of_ble_eq_true rfl) dX3_parseRule_144 ⟨Nat.zero_le _, Nat.zero_le _⟩) (fun r17 σ16 H locs hB hw => ?_)
          refine lv_bipush (v := (10 : Int32)) hx hb dX3_parseRule_147 (by decide) ?_
          refine lv_icmp_ne (tgt := 164) hx hb dX3_parseRule_149 (by decide) (fun hc => ?_) (fun hc => ?_)
          · replace hB := hB.1 hc
            refine lv_aload_n hx hb dX3_parseRule_164 rfl (lv_at hl 1 rfl) ?_
            refine lv_bipush (v := (17 : Int32)) hx hb dX3_parseRule_165 (by decide) ?_
            refine xr_v hw (xr_runV (As := [.int (17 : Int32)]) (rest := []) X hw 3 (xc_X3_take l D cy q σ16 (17 : Int32) hB _) xm_X3_take xt_3_35 xt_3_37 xt_p_9 ⟨Nat.le_of_ble_eq_true rfl, Nat.le_of_ble_eq_true rfl⟩ xl_A_Parser_at rfl rfl rfl rfl hl.1 (Nat.le_of_ble_eq_true rfl) dX3_parseRule_167 ⟨Nat.zero_le _, Nat.zero_le _⟩) (fun σ18 H locs hB hw => ?_)
            refine lv_aload_n hx hb dX3_parseRule_170 rfl (lv_at hl 1 rfl) ?_
            refine xr_getr X hw (xf_X3_25 X) 3 xl_A_Parser_at rfl dX3_parseRule_171 ?_
            refine lv_iload_n hx hb dX3_parseRule_174 rfl (lv_at hl 2 rfl) ?_
            refine lv_iload_n hx hb dX3_parseRule_175 rfl (lv_at hl 3 rfl) ?_
            refine lv_iload_n hx hb dX3_parseRule_176 rfl (lv_at hl 4 rfl) ?_
            refine lv_iload hx hb dX3_parseRule_177 (lv_at hl 5 rfl) ?_
            refine lv_iload hx hb dX3_parseRule_179 (lv_at hl 0 rfl) ?_
            refine xr_v hw (xr_runV (As := [.int v1, .int v2, .int v3, .int v4, .int (σ.1 10 10)]) (rest := []) X hw 10 (xc_X9_addRule l D cy q σ18 1 v1 v2 v3 v4 (σ.1 10 10) (by decide) hB _) xm_X9_addRule xt_3_58 xt_3_59 xt_3_60 ⟨Nat.le_of_ble_eq_true rfl, Nat.le_of_ble_eq_true rfl⟩ (xl_A_Text_at (i := 1) (by decide)) rfl rfl rfl rfl hl.1 (Nat.le_of_ble_eq_true rfl) dX3_parseRule_181 ⟨Nat.zero_le _, Nat.zero_le _⟩) (fun σ19 H locs hB hw => ?_)
            exact xr_vret X hw hr hk hB dX3_parseRule_184
          · replace hB := hB.2 hc
            exact hB _ _ _ hw (lv_sub hl [1, 2, 3, 4, 5, 0] rfl))
    (by
    intro σ v1 v2 v3 v4 v5 hB H locs ls hw hl
    unfold xb_X3_parseRule_152 at hB
    refine lv_aload_n hx hb dX3_parseRule_152 rfl (lv_at hl 0 rfl) ?_
    refine lv_bipush (v := (10 : Int32)) hx hb dX3_parseRule_153 (by decide) ?_
    refine xr_v hw (xr_runV (As := [.int (10 : Int32)]) (rest := []) X hw 3 (xc_X3_take l D cy q σ (10 : Int32) hB _) xm_X3_take xt_3_35 xt_3_37 xt_p_9 ⟨Nat.le_of_ble_eq_true rfl, Nat.le_of_ble_eq_true rfl⟩ xl_A_Parser_at rfl rfl rfl rfl hl.1 (Nat.le_of_ble_eq_true rfl) dX3_parseRule_155 ⟨Nat.zero_le _, Nat.zero_le _⟩) (fun σ20 H locs hB hw => ?_)
    refine lv_aload_n hx hb dX3_parseRule_158 rfl (lv_at hl 0 rfl) ?_
    refine lv_iconst (v := (0 : Int32)) hx hb dX3_parseRule_159 (by decide) ?_
    refine lv_iconst (v := (0 : Int32)) hx hb dX3_parseRule_160 (by decide) ?_
    refine xr_v hw (xr_runV (As := [.int (0 : Int32), .int (0 : Int32)]) (rest := []) X hw 3 (xc_X3_parseLevel l D cy q 30 σ20 (0 : Int32) (0 : Int32) hB _) xm_X3_parseLevel xt_3_43 xt_3_45 xt_p_11 ⟨Nat.le_of_ble_eq_true rfl, Nat.le_of_ble_eq_true rfl⟩ xl_A_Parser_at rfl rfl rfl rfl hl.1 (Nat.le_of_ble_eq_true rfl) dX3_parseRule_161 ⟨Nat.zero_le _, Nat.zero_le _⟩) (fun σ21 H locs hB hw => ?_)
    refine lv_aload_n hx hb dX3_parseRule_164 rfl (lv_at hl 0 rfl) ?_
    refine lv_bipush (v := (17 : Int32)) hx hb dX3_parseRule_165 (by decide) ?_
    refine xr_v hw (xr_runV (As := [.int (17 : Int32)]) (rest := []) X hw 3 (xc_X3_take l D cy q σ21 (17 : Int32) hB _) xm_X3_take xt_3_35 xt_3_37 xt_p_9 ⟨Nat.le_of_ble_eq_true rfl, Nat.le_of_ble_eq_true rfl⟩ xl_A_Parser_at rfl rfl rfl rfl hl.1 (Nat.le_of_ble_eq_true rfl) dX3_parseRule_167 ⟨Nat.zero_le _, Nat.zero_le _⟩) (fun σ22 H locs hB hw => ?_)
    refine lv_aload_n hx hb dX3_parseRule_170 rfl (lv_at hl 0 rfl) ?_
    refine xr_getr X hw (xf_X3_25 X) 3 xl_A_Parser_at rfl dX3_parseRule_171 ?_
    refine lv_iload_n hx hb dX3_parseRule_174 rfl (lv_at hl 1 rfl) ?_
    refine lv_iload_n hx hb dX3_parseRule_175 rfl (lv_at hl 2 rfl) ?_
    refine lv_iload_n hx hb dX3_parseRule_176 rfl (lv_at hl 3 rfl) ?_
    refine lv_iload hx hb dX3_parseRule_177 (lv_at hl 4 rfl) ?_
    refine lv_iload hx hb dX3_parseRule_179 (lv_at hl 5 rfl) ?_
    refine xr_v hw (xr_runV (As := [.int v1, .int v2, .int v3, .int v4, .int v5]) (rest := []) X hw 10 (xc_X9_addRule l D cy q σ22 1 v1 v2 v3 v4 v5 (by decide) hB _) xm_X9_addRule xt_3_58 xt_3_59 xt_3_60 ⟨Nat.le_of_ble_eq_true rfl, Nat.le_of_ble_eq_true rfl⟩ (xl_A_Text_at (i := 1) (by decide)) rfl rfl rfl rfl hl.1 (Nat.le_of_ble_eq_true rfl) dX3_parseRule_181 ⟨Nat.zero_le _, Nat.zero_le _⟩) (fun σ23 H locs hB hw => ?_)
    exact xr_vret X hw hr hk hB dX3_parseRule_184)
  unfold xb_X3_parseRule_e at hB
  refine lv_aload_n hx hb dX3_parseRule_0 rfl (lv_at hl 0 rfl) ?_
  refine xr_i hw (xr_runV (As := []) (rest := []) X hw 3 (xc_X3_seen l D cy q σ hB _) xm_X3_seen xt_3_23 xt_3_25 xt_p_6 ⟨Nat.le_of_ble_eq_true rfl, Nat.le_of_ble_eq_true rfl⟩ xl_A_Parser_at rfl rfl rfl rfl hl.1 (Nat.le_of_ble_eq_true rfl) dX3_parseRule_1 ⟨Nat.zero_le _, Nat.zero_le _⟩) (fun r2 σ1 H locs hB hw => ?_)
  refine lv_istore_n (lv' := [(1, .int r2), (0, .ref (q 3))]) hx hb dX3_parseRule_4 rfl hl (by decide) rfl (fun ls hl => ?_)
  refine lv_iload_n hx hb dX3_parseRule_5 rfl (lv_at hl 0 rfl) ?_
  refine lv_bipush (v := (9 : Int32)) hx hb dX3_parseRule_6 (by decide) ?_
  refine lv_icmp_eq (tgt := 34) hx hb dX3_parseRule_8 (by decide) (fun hc => ?_) (fun hc => ?_)
  · replace hB := hB.1 hc
    exact hB _ _ _ hw (lv_sub hl [1, 0] rfl)
  · replace hB := hB.2 hc
    refine lv_iload_n hx hb dX3_parseRule_11 rfl (lv_at hl 0 rfl) ?_
    refine lv_iconst (v := (4 : Int32)) hx hb dX3_parseRule_12 (by decide) ?_
    refine lv_icmp_eq (tgt := 34) hx hb dX3_parseRule_13 (by decide) (fun hc => ?_) (fun hc => ?_)
    · replace hB := hB.1 hc
      exact hB _ _ _ hw (lv_sub hl [1, 0] rfl)
    · replace hB := hB.2 hc
      refine lv_iload_n hx hb dX3_parseRule_16 rfl (lv_at hl 0 rfl) ?_
      refine lv_bipush (v := (11 : Int32)) hx hb dX3_parseRule_17 (by decide) ?_
      refine lv_icmp_eq (tgt := 34) hx hb dX3_parseRule_19 (by decide) (fun hc => ?_) (fun hc => ?_)
      · replace hB := hB.1 hc
        exact hB _ _ _ hw (lv_sub hl [1, 0] rfl)
      · replace hB := hB.2 hc
        refine lv_iload_n hx hb dX3_parseRule_22 rfl (lv_at hl 0 rfl) ?_
        refine lv_bipush (v := (12 : Int32)) hx hb dX3_parseRule_23 (by decide) ?_
        refine lv_icmp_eq (tgt := 34) hx hb dX3_parseRule_25 (by decide) (fun hc => ?_) (fun hc => ?_)
        · replace hB := hB.1 hc
          exact hB _ _ _ hw (lv_sub hl [1, 0] rfl)
        · replace hB := hB.2 hc
          refine lv_aload_n hx hb dX3_parseRule_28 rfl (lv_at hl 1 rfl) ?_
          refine lv_iconst (v := (1 : Int32)) hx hb dX3_parseRule_29 (by decide) ?_
          refine xr_v hw (xr_runV (As := [.int (1 : Int32)]) (rest := []) X hw 3 (xc_X3_fail l D cy q σ1 (1 : Int32) hB _) xm_X3_fail xt_3_31 xt_3_33 xt_p_8 ⟨Nat.le_of_ble_eq_true rfl, Nat.le_of_ble_eq_true rfl⟩ xl_A_Parser_at rfl rfl rfl rfl hl.1 (Nat.le_of_ble_eq_true rfl) dX3_parseRule_30 ⟨Nat.zero_le _, Nat.zero_le _⟩) (fun σ3 H locs hB hw => ?_)
          exact xr_vret X hw hr hk hB dX3_parseRule_33
