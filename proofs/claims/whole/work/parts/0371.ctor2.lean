theorem xm_X10_init : xr_MW yX10_init cX10_init 1 none 0 := ⟨xt_2_24, xt_1_10, by decide, by decide, by decide +kernel⟩
def xl_T_Timetable : List (Option Nat) := [some 1]
def xl_T : List xw_E := [.inl (10, xl_T_Timetable), .inr (1, 24, 0)]
theorem xl_T_Timetable_at : xl_T[0]? = some (.inl (10, xl_T_Timetable)) := rfl
theorem xl_T_Timetable_cells_at : xl_T[1]? = some (.inr (1, 24, 0)) := rfl

def xb_X10_clearT_2 (K2 : xw_M → Int32 → Prop) (Z : xw_M → Prop) (σ : xw_M) (v1 : Int32) : Prop :=
  (((24 : Int32) ≤ v1 → (Z σ)) ∧ (¬ (24 : Int32) ≤ v1 → (vp_in v1 24 ∧ ∀ σ1, σ1 = xw_i σ 1 (Int32.toNatClampNeg v1) (-1 : Int32) → (K2 σ1 (v1 + (1 : Int32))))))
def xb_X10_clearT_e (K2 : xw_M → Int32 → Prop) (Z : xw_M → Prop) (σ : xw_M) : Prop :=
  (K2 σ (0 : Int32))
def xu_X10_clearT (σ : xw_M) (Z : xw_M → Prop) : Prop :=
  ∀ (K2 : xw_M → Int32 → Prop), (∀ (σ : xw_M) (v1 : Int32), xb_X10_clearT_2 K2 Z σ v1 → K2 σ v1) → xb_X10_clearT_e K2 Z σ
set_option maxRecDepth 100000 in
set_option maxHeartbeats 4000000 in
theorem xc_X10_clearT (l : Launch) (D : va_G) (cy : Nat → ClassId) (q : Nat → Nat) (σ : xw_M)  {Z : xw_M → Prop} (hU : xu_X10_clearT σ Z) : xr_CV l yX10_clear cX10_clear 2 { frames := 0, cells := 0, slots := 0, locals := 0 } D cy xl_T q σ [.ref (q 0)] Z := by
  refine xr_CV.of RX10 rfl (by decide) (Nat.le_of_ble_eq_true rfl) (fun p e s m below meth c X hw hr hk ls hl => ?_)
  have hx := X.1
  have hb := X.2.1
  have hl : lv_has ls 2 [(0, .ref (q 0))] := hl
  have hB := hU (fun (σ : xw_M) (v1 : Int32) => ∀ (H : Heap) (locs : List Loc) (ls : Array Slot), xr_H D cy xl_T q s σ H locs → lv_has ls 2 [(0, .ref (q 0)), (1, .int v1)] → W p l e ({ frames := 0, cells := 0, slots := 0, locals := 0 } : Room) s m ([.ref (q 0)] : List Value).toArray below meth c H locs 0 0 (MQ below (va_Qv Z (xr_po D cy xl_T q) (xw_A xl_T q s.heap.size)) ([.ref (q 0)] : List Value).toArray s 0 0 (xw_A xl_T q s.heap.size)) (F0 m 2 ls []))
    (by
    intro σ v1 hB H locs ls hw hl
    unfold xb_X10_clearT_2 at hB
    refine lv_iload_n hx hb dX10_clear_2 rfl (lv_at hl 1 rfl) ?_
    refine lv_bipush (v := (24 : Int32)) hx hb dX10_clear_3 (by decide) ?_
    refine lv_icmp_ge (tgt := 21) hx hb dX10_clear_5 (by decide) (fun hc => ?_) (fun hc => ?_)
    · replace hB := hB.1 hc
      exact xr_vret X hw hr hk hB dX10_clear_21
    · replace hB := hB.2 hc
      refine lv_aload_n hx hb dX10_clear_8 rfl (lv_at hl 0 rfl) ?_
      refine xr_getr X hw (xf_X10_9 X) 0 xl_T_Timetable_at rfl dX10_clear_9 ?_
      refine lv_iload_n hx hb dX10_clear_12 rfl (lv_at hl 1 rfl) ?_
      refine lv_iconst (v := (-1 : Int32)) hx hb dX10_clear_13 (by decide) ?_
      refine xr_iast X hw 1 xl_T_Timetable_cells_at hB.1 dX10_clear_14 hB.2 (fun σ1 H locs hB hw => ?_)
      refine lv_iinc (v := (v1 + (1 : Int32))) (lv' := [(1, .int (v1 + (1 : Int32))), (0, .ref (q 0))]) hx hb dX10_clear_15 hl (k := 1) rfl rfl (by decide) rfl (fun ls hl => ?_)
      refine lv_goto (tgt := 2) hx hb dX10_clear_18 (by decide) ?_
      exact hB _ _ _ hw (lv_sub hl [1, 0] rfl))
  unfold xb_X10_clearT_e at hB
  refine lv_iconst (v := (0 : Int32)) hx hb dX10_clear_0 (by decide) ?_
  refine lv_istore_n (lv' := [(1, .int (0 : Int32)), (0, .ref (q 0))]) hx hb dX10_clear_1 rfl hl (by decide) rfl (fun ls hl => ?_)
  exact hB _ _ _ hw (lv_sub hl [1, 0] rfl)
def xn_m1 : Nat → Int32 := fun j => if j < 24 then -1 else 0
theorem xn_clear (σ : xw_M) (h : ∀ j, σ.1 1 j = 0) : xu_X10_clearT σ (fun σ1 => σ1.1 1 = xn_m1) := by
  intro K hK
  have key : ∀ (n : Nat) (τ : xw_M), n ≤ 24 → (∀ j, τ.1 1 j = if j < 24 - n then -1 else 0) → K τ (nI (24 - n)) := by
    intro n
    induction n with
    | zero =>
      intro τ _ h1
      apply hK
      refine ⟨fun _ => funext (fun j => by rw [h1]; rfl), fun hc => absurd (by decide) hc⟩
    | succ n ih =>
      intro τ hn h1
      apply hK
      refine ⟨fun hc => absurd ((nI_leI (a := 24) (by decide) (by omega)).mp hc) (by omega), fun _ => ⟨vp_in_nI (by omega) (by decide), fun σ1 hσ => ?_⟩⟩
      rw [nI_1, show 24 - (n + 1) + 1 = 24 - n by omega]
      refine ih σ1 (by omega) (fun j => ?_)
      rw [hσ, nI_clamp (by omega)]
      simp only [xw_i, true_and]
      by_cases hj : j = 24 - (n + 1)
      · rw [if_pos hj, if_pos (by omega)]
      · rw [if_neg hj, h1]
        by_cases h2 : j < 24 - (n + 1)
        · rw [if_pos h2, if_pos (by omega)]
        · rw [if_neg h2, if_neg (by omega)]
  exact key 24 σ (Nat.le_refl _) (fun j => by rw [h]; simp)
theorem xn_mono {A B : Nat → Prop} {H0 H : Heap} {locs : List Loc} (h : va_S A H0 H locs) (hAB : ∀ a, A a → B a) : va_S B H0 H locs := ⟨h.1, fun q h1 h2 => h.2.1 q h1 (fun z => h2 (hAB q z)), fun l hl => hAB _ (h.2.2 l hl)⟩
theorem xn_swap {D : va_G} {cl : List vw_C} {ws : va_W} {H : Heap} (hP : va_P D cl ws H) (k : Nat) {x y : Nat × va_E} (h : ws[k]? = some x) (he : va_at D cl x H → va_at D cl y H) : va_P D cl (ws.set k y) H := by
  intro i z hz
  rw [List.getElem?_set] at hz
  by_cases hi : k = i
  · subst hi
    have hk : k < ws.length := (List.getElem?_eq_some_iff.mp h).1
    rw [if_pos rfl, if_pos hk] at hz
    cases hz
    exact he (hP k x h)
  · rw [if_neg hi] at hz
    exact hP i z hz
theorem xn_refs {D : va_G} {cl : List vw_C} {H : Heap} {a : Nat} {cA : ClassId} {n : Nat} {f g : Nat → Option Nat} (h : ∀ j, j < n → f j = g j) (hp : va_at D cl (a, .inl (cA, n, .inr (.inr (.inr (.inr f))))) H) : va_at D cl (a, .inl (cA, n, .inr (.inr (.inr (.inr g))))) H := by
  have e : vp_cell cA (n, .inr (.inr (.inr (.inr f)))) = vp_cell cA (n, .inr (.inr (.inr (.inr g)))) := by
    simp only [vp_cell]
    have : arrV cA n (fun j => va_rf (f j)) = arrV cA n (fun j => va_rf (g j)) := by
      unfold arrV
      congr 1
      apply Array.ext
      · simp
      · intro i h1 h2
        simp at h1 h2
        simp [h i h1]
    exact this
  exact hp.trans (congrArg some e)
set_option maxRecDepth 100000 in
set_option maxHeartbeats 4000000 in
theorem xn_Timetable (l : Launch) (D : va_G) (cy : Nat → ClassId) (h0 : Nat)  : xn_C l yX10_init cX10_init 1 { frames := 1, cells := 1, slots := 24, locals := 39 } D cy [(h0, .inr (10, [.null]))] [.ref h0] (fun u => [(h0, .inr (10, [.ref (u 0)])), ((u 0), .inl (cy 1, 24, .inl xn_m1))]) 1 24 := by
  refine xn_C.of RX10 rfl rfl (by decide) (Nat.le_of_ble_eq_true rfl) (fun p e s m below meth c X hA hP hD hS hr hk hin ls hl => ?_)
  have hx := X.1
  have hb := X.2.1
  have hown := X.2.2.2.1
  have hts := X.2.2.2.2.1
  have hK := X.2.2.2.2.2.2.1
  have hl : lv_has ls 1 [(0, .ref h0)] := hl
  generalize hAe : va_A [(h0, .inr (10, [.null]))] s.heap.size = A at hA hD hS ⊢
  refine lv_aload_n hx hb dX10_init_0 rfl (lv_at hl 0 rfl) ?_
  refine xn_obj X xt_2_25 hl.1 dX10_init_1 (Nat.le_of_ble_eq_true rfl) (Nat.le_of_ble_eq_true rfl) ?_
  refine lv_aload_n hx hb dX10_init_4 rfl (lv_at hl 0 rfl) ?_
  refine lv_bipush (v := (24 : Int32)) hx hb dX10_init_5 (by decide) ?_
  refine xn_newa X hA hP hD hS (ty := .int) (a0 := (24, .inl (fun _ => 0))) (N := 24) 1 rfl xt_1_91 rfl (fun _ _ h1 h2 => Option.some.inj (h1.symm.trans h2)) (fun _ => rfl) (by decide) (by decide) (by decide) (Nat.le_of_ble_eq_true rfl) (Nat.le_of_ble_eq_true rfl) dX10_init_7 (fun q1 H hP hD hS => ?_)
  have hP : va_P D vwCl [(h0, .inr (10, [.null])), (q1, .inl (cy 1, 24, .inl (fun _ => 0)))] H := hP
  have hD : va_D A [(h0, .inr (10, [.null])), (q1, .inl (cy 1, 24, .inl (fun _ => 0)))] := hD
  refine va_putF (D := D) (ci := 10) (v := .ref q1) (ty := (.array .int)) (C := RX10) (T := TX10) (N := 1) hx hb hts xt_inX10 tyX10 tyX10_ok nmX10 hown hK hP hD hS 0 rfl rfl 0 (by decide) (hts _ xt_2_30) (fun _ h9 => h9) rfl hin rfl (by decide +kernel) rfl rfl (Nat.le_of_ble_eq_true rfl) dX10_init_9 (fun H locs hP hD hS => ?_)
  have hP : va_P D vwCl [(h0, .inr (10, [.ref q1])), (q1, .inl (cy 1, 24, .inl (fun _ => 0)))] H := hP
  have hD : va_D A [(h0, .inr (10, [.ref q1])), (q1, .inl (cy 1, 24, .inl (fun _ => 0)))] := hD
  refine lv_aload_n hx hb dX10_init_12 rfl (lv_at hl 0 rfl) ?_
  have hq : h0 ≠ q1 := fun z => absurd (hD.1 0 1 _ _ rfl rfl z) (by decide)
  have hdj : xw_dj xl_T (fun k => if k = 0 then h0 else q1) := by
    intro i j hi hj hij
    have hi : i < 2 := hi
    have hj : j < 2 := hj
    rcases (show i = 0 ∨ i = 1 by omega) with rfl | rfl <;> rcases (show j = 0 ∨ j = 1 by omega) with rfl | rfl
    · rfl
    · exact absurd hij hq
    · exact absurd hij.symm hq
    · rfl
  have X2 : xr_X p s m ([.ref h0] : List Value).toArray c cX10_init 1 RX10 D cy xl_T (fun k => if k = 0 then h0 else q1) := ⟨X.1, X.2.1, X.2.2.1, X.2.2.2.1, X.2.2.2.2.1, X.2.2.2.2.2.1, X.2.2.2.2.2.2.1, hdj⟩
  have hA0 : A h0 := hD.2 0 _ rfl
  have hA1 : A q1 := hD.2 1 _ rfl
  have hAT : ∀ a, A a → xw_A xl_T (fun k => if k = 0 then h0 else q1) s.heap.size a := by
    intro a ha
    rw [← hAe] at ha
    rcases ha with ⟨k, x, hk⟩ | ha
    · have hk2 := (List.getElem?_eq_some_iff.mp hk).1
      simp at hk2
      subst hk2
      cases hk
      exact Or.inl ⟨0, by decide, rfl⟩
    · exact Or.inr ha
  have hTA : ∀ a, xw_A xl_T (fun k => if k = 0 then h0 else q1) s.heap.size a → A a := by
    intro a ha
    rcases ha with ⟨k, hk, rfl⟩ | ha
    · have hk : k < 2 := hk
      rcases (show k = 0 ∨ k = 1 by omega) with rfl | rfl
      · exact hA0
      · exact hA1
    · exact hA a ha
  have hw : xr_H D cy xl_T (fun k => if k = 0 then h0 else q1) s (fun _ _ => 0, fun _ _ => 0) H locs := ⟨hP, xn_mono hS hAT⟩
  refine xr_v hw (xr_runV (fr := 0) (lo := 0) (As := []) (rest := []) X2 hw 0 (xc_X10_clearT l D cy (fun k => if k = 0 then h0 else q1) (fun _ _ => 0, fun _ _ => 0) (xn_clear _ (fun _ => rfl)) _) xm_X10_clear xt_2_26 xt_2_27 xt_2_28 ⟨Nat.le_of_ble_eq_true rfl, Nat.le_of_ble_eq_true rfl⟩ xl_T_Timetable_at rfl rfl rfl rfl hl.1 (Nat.le_of_ble_eq_true rfl) dX10_init_13 ⟨Nat.le_of_ble_eq_true rfl, Nat.le_of_ble_eq_true rfl⟩) (fun σ1 H locs hB hw => ?_)
  have hP : va_P D vwCl [(h0, .inr (10, [.ref q1])), (q1, .inl (cy 1, 24, .inl (σ1.1 1)))] H := hw.1
  rw [hB] at hP
  have hS := xn_mono hw.2 hTA
  have hD : va_D A [(h0, .inr (10, [.ref q1])), (q1, .inl (cy 1, 24, .inl xn_m1))] := hD.set (p := 1) rfl
  subst hAe
  exact xn_ret (fun k => [q1].getD k 0) X hr hk hP hD hS (Nat.le_of_ble_eq_true rfl) (Nat.le_of_ble_eq_true rfl) dX10_init_16
set_option maxRecDepth 100000 in
set_option maxHeartbeats 4000000 in
theorem xn_Show (l : Launch) (D : va_G) (cy : Nat → ClassId) (h0 : Nat) (n1 : Int32) : xn_C l yX7_init cX7_init 2 { frames := 2, cells := 2, slots := 25, locals := 59 } D cy [(h0, .inr (7, [.int 0, .null, .int 0, .int 0]))] [.ref h0, .int n1] (fun u => [(h0, .inr (7, [.int n1, .ref (u 0), .int (0 : Int32), .int (0 : Int32)])), ((u 0), .inr (10, [.ref (u 1)])), ((u 1), .inl (cy 1, 24, .inl xn_m1))]) 2 25 := by
  refine xn_C.of RX7 rfl rfl (by decide) (Nat.le_of_ble_eq_true rfl) (fun p e s m below meth c X hA hP hD hS hr hk hin ls hl => ?_)
  have hx := X.1
  have hb := X.2.1
  have hown := X.2.2.2.1
  have hts := X.2.2.2.2.1
  have hK := X.2.2.2.2.2.2.1
  have hl : lv_has ls 2 [(0, .ref h0), (1, .int n1)] := hl
  generalize hAe : va_A [(h0, .inr (7, [.int 0, .null, .int 0, .int 0]))] s.heap.size = A at hA hD hS ⊢
  refine lv_aload_n hx hb dX7_init_0 rfl (lv_at hl 0 rfl) ?_
  refine xn_obj X xt_2_89 hl.1 dX7_init_1 (Nat.le_of_ble_eq_true rfl) (Nat.le_of_ble_eq_true rfl) ?_
  refine lv_aload_n hx hb dX7_init_4 rfl (lv_at hl 0 rfl) ?_
  refine va_new (ci := 10) (fs := [.null]) (C := RX10) (T := TX10) (N := 1) hx hb hts xt_inX10 tyX10 tyX10_ok hown (hts _ xt_2_90) (hts _ xi_X10) (hts _ xt_1_10) hK hP hD hS hA rfl (fun j hj => by match j, hj with | 0, _ => rfl | k + 1, h => exact absurd h (by omega)) (Nat.le_of_ble_eq_true rfl) (Nat.le_of_ble_eq_true rfl) dX7_init_5 (fun q1 H hP hD hS => ?_)
  have hP : va_P D vwCl [(h0, .inr (7, [.int 0, .null, .int 0, .int 0])), (q1, .inr (10, [.null]))] H := hP
  have hD : va_D A [(h0, .inr (7, [.int 0, .null, .int 0, .int 0])), (q1, .inr (10, [.null]))] := hD
  refine lv_dup hx hb dX7_init_8 rfl ?_
  refine xn_call hA hP hD hS 1 rfl (xn_run (As := []) (rest := [.ref q1, .ref h0]) X hP 1 rfl (xn_Timetable l D cy q1) xm_X10_init xt_2_23 rfl (Or.inl xt_2_91) ⟨Nat.le_of_ble_eq_true rfl, Nat.le_of_ble_eq_true rfl⟩ rfl rfl hl.1 (Nat.le_of_ble_eq_true rfl) dX7_init_9 ⟨Nat.le_of_ble_eq_true rfl, Nat.le_of_ble_eq_true rfl⟩) [0] (wr := [(h0, .inr (7, [.int 0, .null, .int 0, .int 0]))]) rfl (by decide) (by decide) (fun u2 H locs hP hD hS => ?_)
  have hP : va_P D vwCl [(h0, .inr (7, [.int 0, .null, .int 0, .int 0])), (q1, .inr (10, [.ref (u2 0)])), ((u2 0), .inl (cy 1, 24, .inl xn_m1))] H := hP
  have hD : va_D A [(h0, .inr (7, [.int 0, .null, .int 0, .int 0])), (q1, .inr (10, [.ref (u2 0)])), ((u2 0), .inl (cy 1, 24, .inl xn_m1))] := hD
  refine va_putF (D := D) (ci := 7) (v := .ref q1) (ty := (.object "ShowRings$Timetable")) (C := RX7) (T := TX7) (N := 4) hx hb hts xt_inX7 tyX7 tyX7_ok nmX7 hown hK hP hD hS 0 rfl rfl 1 (by decide) (hts _ xt_2_94) (fun _ h9 => h9) rfl hin rfl (by decide +kernel) rfl rfl (Nat.le_of_ble_eq_true rfl) dX7_init_12 (fun H locs hP hD hS => ?_)
  have hP : va_P D vwCl [(h0, .inr (7, [.int 0, .ref q1, .int 0, .int 0])), (q1, .inr (10, [.ref (u2 0)])), ((u2 0), .inl (cy 1, 24, .inl xn_m1))] H := hP
  have hD : va_D A [(h0, .inr (7, [.int 0, .ref q1, .int 0, .int 0])), (q1, .inr (10, [.ref (u2 0)])), ((u2 0), .inl (cy 1, 24, .inl xn_m1))] := hD
  refine lv_aload_n hx hb dX7_init_15 rfl (lv_at hl 0 rfl) ?_
  refine lv_iconst (v := (0 : Int32)) hx hb dX7_init_16 (by decide) ?_
  refine va_put (D := D) (ci := 7) (v := .int (0 : Int32)) (ty := .int) (C := RX7) (T := TX7) (N := 4) hx hb hts xt_inX7 tyX7 tyX7_ok nmX7 hown hK hP hD hS 0 rfl rfl 2 (by decide) (hts _ xt_2_97) (fun _ h9 => h9) rfl (by decide +kernel) rfl rfl (Nat.le_of_ble_eq_true rfl) dX7_init_17 (fun H locs hP hD hS => ?_)
  have hP : va_P D vwCl [(h0, .inr (7, [.int 0, .ref q1, .int (0 : Int32), .int 0])), (q1, .inr (10, [.ref (u2 0)])), ((u2 0), .inl (cy 1, 24, .inl xn_m1))] H := hP
  have hD : va_D A [(h0, .inr (7, [.int 0, .ref q1, .int (0 : Int32), .int 0])), (q1, .inr (10, [.ref (u2 0)])), ((u2 0), .inl (cy 1, 24, .inl xn_m1))] := hD
  refine lv_aload_n hx hb dX7_init_20 rfl (lv_at hl 0 rfl) ?_
  refine lv_iconst (v := (0 : Int32)) hx hb dX7_init_21 (by decide) ?_
  refine va_put (D := D) (ci := 7) (v := .int (0 : Int32)) (ty := .int) (C := RX7) (T := TX7) (N := 4) hx hb hts xt_inX7 tyX7 tyX7_ok nmX7 hown hK hP hD hS 0 rfl rfl 3 (by decide) (hts _ xt_2_100) (fun _ h9 => h9) rfl (by decide +kernel) rfl rfl (Nat.le_of_ble_eq_true rfl) dX7_init_22 (fun H locs hP hD hS => ?_)
  have hP : va_P D vwCl [(h0, .inr (7, [.int 0, .ref q1, .int (0 : Int32), .int (0 : Int32)])), (q1, .inr (10, [.ref (u2 0)])), ((u2 0), .inl (cy 1, 24, .inl xn_m1))] H := hP
  have hD : va_D A [(h0, .inr (7, [.int 0, .ref q1, .int (0 : Int32), .int (0 : Int32)])), (q1, .inr (10, [.ref (u2 0)])), ((u2 0), .inl (cy 1, 24, .inl xn_m1))] := hD
  refine lv_aload_n hx hb dX7_init_25 rfl (lv_at hl 0 rfl) ?_
  refine lv_iload_n hx hb dX7_init_26 rfl (lv_at hl 1 rfl) ?_
  refine va_putF (D := D) (ci := 7) (v := .int n1) (ty := .int) (C := RX7) (T := TX7) (N := 4) hx hb hts xt_inX7 tyX7 tyX7_ok nmX7 hown hK hP hD hS 0 rfl rfl 0 (by decide) (hts _ xt_2_92) (fun _ h9 => h9) rfl hin rfl (by decide +kernel) rfl rfl (Nat.le_of_ble_eq_true rfl) dX7_init_27 (fun H locs hP hD hS => ?_)
  have hP : va_P D vwCl [(h0, .inr (7, [.int n1, .ref q1, .int (0 : Int32), .int (0 : Int32)])), (q1, .inr (10, [.ref (u2 0)])), ((u2 0), .inl (cy 1, 24, .inl xn_m1))] H := hP
  have hD : va_D A [(h0, .inr (7, [.int n1, .ref q1, .int (0 : Int32), .int (0 : Int32)])), (q1, .inr (10, [.ref (u2 0)])), ((u2 0), .inl (cy 1, 24, .inl xn_m1))] := hD
  subst hAe
  exact xn_ret (fun k => [q1, (u2 0)].getD k 0) X hr hk hP hD hS (Nat.le_of_ble_eq_true rfl) (Nat.le_of_ble_eq_true rfl) dX7_init_30
set_option maxRecDepth 100000 in
set_option maxHeartbeats 4000000 in
theorem xn_Planner (l : Launch) (D : va_G) (cy : Nat → ClassId) (h0 : Nat) (r1 : Nat) (r2 : Nat) : xn_C l yX4_init cX4_init 3 { frames := 2, cells := 7, slots := 68, locals := 59 } D cy [(h0, .inr (4, [.null, .null, .null, .null, .null, .null, .null, .int 0, .int 0, .int 0]))] [.ref h0, .ref r1, .ref r2] (fun u => [(h0, .inr (4, [.ref r1, .ref r2, .ref (u 0), .ref (u 1), .ref (u 2), .ref (u 3), .ref (u 5), .int (1 : Int32), .int (0 : Int32), .int (0 : Int32)])), ((u 0), .inl (cy 1, 6, .inl (fun _ => 0))), ((u 1), .inl (cy 1, 6, .inl (fun _ => 0))), ((u 2), .inl (cy 1, 6, .inl (fun _ => 0))), ((u 3), .inr (10, [.ref (u 4)])), ((u 4), .inl (cy 1, 24, .inl xn_m1)), ((u 5), .inr (10, [.ref (u 6)])), ((u 6), .inl (cy 1, 24, .inl xn_m1))]) 7 68 := by
  refine xn_C.of RX4 rfl rfl (by decide) (Nat.le_of_ble_eq_true rfl) (fun p e s m below meth c X hA hP hD hS hr hk hin ls hl => ?_)
  have hx := X.1
  have hb := X.2.1
  have hown := X.2.2.2.1
  have hts := X.2.2.2.2.1
  have hK := X.2.2.2.2.2.2.1
  have hl : lv_has ls 3 [(0, .ref h0), (1, .ref r1), (2, .ref r2)] := hl
  generalize hAe : va_A [(h0, .inr (4, [.null, .null, .null, .null, .null, .null, .null, .int 0, .int 0, .int 0]))] s.heap.size = A at hA hD hS ⊢
  refine lv_aload_n hx hb dX4_init_0 rfl (lv_at hl 0 rfl) ?_
  refine xn_obj X xt_2_19 hl.1 dX4_init_1 (Nat.le_of_ble_eq_true rfl) (Nat.le_of_ble_eq_true rfl) ?_
  refine lv_aload_n hx hb dX4_init_4 rfl (lv_at hl 0 rfl) ?_
  refine lv_bipush (v := (6 : Int32)) hx hb dX4_init_5 (by decide) ?_
  refine xn_newa X hA hP hD hS (ty := .int) (a0 := (6, .inl (fun _ => 0))) (N := 6) 1 rfl xt_1_91 rfl (fun _ _ h1 h2 => Option.some.inj (h1.symm.trans h2)) (fun _ => rfl) (by decide) (by decide) (by decide) (Nat.le_of_ble_eq_true rfl) (Nat.le_of_ble_eq_true rfl) dX4_init_7 (fun q1 H hP hD hS => ?_)
  have hP : va_P D vwCl [(h0, .inr (4, [.null, .null, .null, .null, .null, .null, .null, .int 0, .int 0, .int 0])), (q1, .inl (cy 1, 6, .inl (fun _ => 0)))] H := hP
  have hD : va_D A [(h0, .inr (4, [.null, .null, .null, .null, .null, .null, .null, .int 0, .int 0, .int 0])), (q1, .inl (cy 1, 6, .inl (fun _ => 0)))] := hD
  refine va_putF (D := D) (ci := 4) (v := .ref q1) (ty := (.array .int)) (C := RX4) (T := TX4) (N := 10) hx hb hts xt_inX4 tyX4 tyX4_ok nmX4 hown hK hP hD hS 0 rfl rfl 2 (by decide) (hts _ xt_2_36) (fun _ h9 => h9) rfl hin rfl (by decide +kernel) rfl rfl (Nat.le_of_ble_eq_true rfl) dX4_init_9 (fun H locs hP hD hS => ?_)
  have hP : va_P D vwCl [(h0, .inr (4, [.null, .null, .ref q1, .null, .null, .null, .null, .int 0, .int 0, .int 0])), (q1, .inl (cy 1, 6, .inl (fun _ => 0)))] H := hP
  have hD : va_D A [(h0, .inr (4, [.null, .null, .ref q1, .null, .null, .null, .null, .int 0, .int 0, .int 0])), (q1, .inl (cy 1, 6, .inl (fun _ => 0)))] := hD
  refine lv_aload_n hx hb dX4_init_12 rfl (lv_at hl 0 rfl) ?_
  refine lv_bipush (v := (6 : Int32)) hx hb dX4_init_13 (by decide) ?_
  refine xn_newa X hA hP hD hS (ty := .int) (a0 := (6, .inl (fun _ => 0))) (N := 6) 1 rfl xt_1_91 rfl (fun _ _ h1 h2 => Option.some.inj (h1.symm.trans h2)) (fun _ => rfl) (by decide) (by decide) (by decide) (Nat.le_of_ble_eq_true rfl) (Nat.le_of_ble_eq_true rfl) dX4_init_15 (fun q2 H hP hD hS => ?_)
  have hP : va_P D vwCl [(h0, .inr (4, [.null, .null, .ref q1, .null, .null, .null, .null, .int 0, .int 0, .int 0])), (q1, .inl (cy 1, 6, .inl (fun _ => 0))), (q2, .inl (cy 1, 6, .inl (fun _ => 0)))] H := hP
  have hD : va_D A [(h0, .inr (4, [.null, .null, .ref q1, .null, .null, .null, .null, .int 0, .int 0, .int 0])), (q1, .inl (cy 1, 6, .inl (fun _ => 0))), (q2, .inl (cy 1, 6, .inl (fun _ => 0)))] := hD
  refine va_putF (D := D) (ci := 4) (v := .ref q2) (ty := (.array .int)) (C := RX4) (T := TX4) (N := 10) hx hb hts xt_inX4 tyX4 tyX4_ok nmX4 hown hK hP hD hS 0 rfl rfl 3 (by decide) (hts _ xt_2_37) (fun _ h9 => h9) rfl hin rfl (by decide +kernel) rfl rfl (Nat.le_of_ble_eq_true rfl) dX4_init_17 (fun H locs hP hD hS => ?_)
  have hP : va_P D vwCl [(h0, .inr (4, [.null, .null, .ref q1, .ref q2, .null, .null, .null, .int 0, .int 0, .int 0])), (q1, .inl (cy 1, 6, .inl (fun _ => 0))), (q2, .inl (cy 1, 6, .inl (fun _ => 0)))] H := hP
  have hD : va_D A [(h0, .inr (4, [.null, .null, .ref q1, .ref q2, .null, .null, .null, .int 0, .int 0, .int 0])), (q1, .inl (cy 1, 6, .inl (fun _ => 0))), (q2, .inl (cy 1, 6, .inl (fun _ => 0)))] := hD
  refine lv_aload_n hx hb dX4_init_20 rfl (lv_at hl 0 rfl) ?_
  refine lv_bipush (v := (6 : Int32)) hx hb dX4_init_21 (by decide) ?_
  refine xn_newa X hA hP hD hS (ty := .int) (a0 := (6, .inl (fun _ => 0))) (N := 6) 1 rfl xt_1_91 rfl (fun _ _ h1 h2 => Option.some.inj (h1.symm.trans h2)) (fun _ => rfl) (by decide) (by decide) (by decide) (Nat.le_of_ble_eq_true rfl) (Nat.le_of_ble_eq_true rfl) dX4_init_23 (fun q3 H hP hD hS => ?_)
  have hP : va_P D vwCl [(h0, .inr (4, [.null, .null, .ref q1, .ref q2, .null, .null, .null, .int 0, .int 0, .int 0])), (q1, .inl (cy 1, 6, .inl (fun _ => 0))), (q2, .inl (cy 1, 6, .inl (fun _ => 0))), (q3, .inl (cy 1, 6, .inl (fun _ => 0)))] H := hP
  have hD : va_D A [(h0, .inr (4, [.null, .null, .ref q1, .ref q2, .null, .null, .null, .int 0, .int 0, .int 0])), (q1, .inl (cy 1, 6, .inl (fun _ => 0))), (q2, .inl (cy 1, 6, .inl (fun _ => 0))), (q3, .inl (cy 1, 6, .inl (fun _ => 0)))] := hD
  refine va_putF (D := D) (ci := 4) (v := .ref q3) (ty := (.array .int)) (C := RX4) (T := TX4) (N := 10) hx hb hts xt_inX4 tyX4 tyX4_ok nmX4 hown hK hP hD hS 0 rfl rfl 4 (by decide) (hts _ xt_2_38) (fun _ h9 => h9) rfl hin rfl (by decide +kernel) rfl rfl (Nat.le_of_ble_eq_true rfl) dX4_init_25 (fun H locs hP hD hS => ?_)
  have hP : va_P D vwCl [(h0, .inr (4, [.null, .null, .ref q1, .ref q2, .ref q3, .null, .null, .int 0, .int 0, .int 0])), (q1, .inl (cy 1, 6, .inl (fun _ => 0))), (q2, .inl (cy 1, 6, .inl (fun _ => 0))), (q3, .inl (cy 1, 6, .inl (fun _ => 0)))] H := hP
  have hD : va_D A [(h0, .inr (4, [.null, .null, .ref q1, .ref q2, .ref q3, .null, .null, .int 0, .int 0, .int 0])), (q1, .inl (cy 1, 6, .inl (fun _ => 0))), (q2, .inl (cy 1, 6, .inl (fun _ => 0))), (q3, .inl (cy 1, 6, .inl (fun _ => 0)))] := hD
  refine lv_aload_n hx hb dX4_init_28 rfl (lv_at hl 0 rfl) ?_
  refine va_new (ci := 10) (fs := [.null]) (C := RX10) (T := TX10) (N := 1) hx hb hts xt_inX10 tyX10 tyX10_ok hown (hts _ xt_2_20) (hts _ xi_X10) (hts _ xt_1_10) hK hP hD hS hA rfl (fun j hj => by match j, hj with | 0, _ => rfl | k + 1, h => exact absurd h (by omega)) (Nat.le_of_ble_eq_true rfl) (Nat.le_of_ble_eq_true rfl) dX4_init_29 (fun q4 H hP hD hS => ?_)
  have hP : va_P D vwCl [(h0, .inr (4, [.null, .null, .ref q1, .ref q2, .ref q3, .null, .null, .int 0, .int 0, .int 0])), (q1, .inl (cy 1, 6, .inl (fun _ => 0))), (q2, .inl (cy 1, 6, .inl (fun _ => 0))), (q3, .inl (cy 1, 6, .inl (fun _ => 0))), (q4, .inr (10, [.null]))] H := hP
  have hD : va_D A [(h0, .inr (4, [.null, .null, .ref q1, .ref q2, .ref q3, .null, .null, .int 0, .int 0, .int 0])), (q1, .inl (cy 1, 6, .inl (fun _ => 0))), (q2, .inl (cy 1, 6, .inl (fun _ => 0))), (q3, .inl (cy 1, 6, .inl (fun _ => 0))), (q4, .inr (10, [.null]))] := hD
  refine lv_dup hx hb dX4_init_32 rfl ?_
  refine xn_call hA hP hD hS 4 rfl (xn_run (As := []) (rest := [.ref q4, .ref h0]) X hP 4 rfl (xn_Timetable l D cy q4) xm_X10_init xt_2_23 rfl (Or.inl xt_2_22) ⟨Nat.le_of_ble_eq_true rfl, Nat.le_of_ble_eq_true rfl⟩ rfl rfl hl.1 (Nat.le_of_ble_eq_true rfl) dX4_init_33 ⟨Nat.le_of_ble_eq_true rfl, Nat.le_of_ble_eq_true rfl⟩) [0, 1, 2, 3] (wr := [(h0, .inr (4, [.null, .null, .ref q1, .ref q2, .ref q3, .null, .null, .int 0, .int 0, .int 0])), (q1, .inl (cy 1, 6, .inl (fun _ => 0))), (q2, .inl (cy 1, 6, .inl (fun _ => 0))), (q3, .inl (cy 1, 6, .inl (fun _ => 0)))]) rfl (by decide) (by decide) (fun u5 H locs hP hD hS => ?_)
  have hP : va_P D vwCl [(h0, .inr (4, [.null, .null, .ref q1, .ref q2, .ref q3, .null, .null, .int 0, .int 0, .int 0])), (q1, .inl (cy 1, 6, .inl (fun _ => 0))), (q2, .inl (cy 1, 6, .inl (fun _ => 0))), (q3, .inl (cy 1, 6, .inl (fun _ => 0))), (q4, .inr (10, [.ref (u5 0)])), ((u5 0), .inl (cy 1, 24, .inl xn_m1))] H := hP
  have hD : va_D A [(h0, .inr (4, [.null, .null, .ref q1, .ref q2, .ref q3, .null, .null, .int 0, .int 0, .int 0])), (q1, .inl (cy 1, 6, .inl (fun _ => 0))), (q2, .inl (cy 1, 6, .inl (fun _ => 0))), (q3, .inl (cy 1, 6, .inl (fun _ => 0))), (q4, .inr (10, [.ref (u5 0)])), ((u5 0), .inl (cy 1, 24, .inl xn_m1))] := hD
  refine va_putF (D := D) (ci := 4) (v := .ref q4) (ty := (.object "ShowRings$Timetable")) (C := RX4) (T := TX4) (N := 10) hx hb hts xt_inX4 tyX4 tyX4_ok nmX4 hown hK hP hD hS 0 rfl rfl 5 (by decide) (hts _ xt_2_39) (fun _ h9 => h9) rfl hin rfl (by decide +kernel) rfl rfl (Nat.le_of_ble_eq_true rfl) dX4_init_36 (fun H locs hP hD hS => ?_)
  have hP : va_P D vwCl [(h0, .inr (4, [.null, .null, .ref q1, .ref q2, .ref q3, .ref q4, .null, .int 0, .int 0, .int 0])), (q1, .inl (cy 1, 6, .inl (fun _ => 0))), (q2, .inl (cy 1, 6, .inl (fun _ => 0))), (q3, .inl (cy 1, 6, .inl (fun _ => 0))), (q4, .inr (10, [.ref (u5 0)])), ((u5 0), .inl (cy 1, 24, .inl xn_m1))] H := hP
  have hD : va_D A [(h0, .inr (4, [.null, .null, .ref q1, .ref q2, .ref q3, .ref q4, .null, .int 0, .int 0, .int 0])), (q1, .inl (cy 1, 6, .inl (fun _ => 0))), (q2, .inl (cy 1, 6, .inl (fun _ => 0))), (q3, .inl (cy 1, 6, .inl (fun _ => 0))), (q4, .inr (10, [.ref (u5 0)])), ((u5 0), .inl (cy 1, 24, .inl xn_m1))] := hD
  refine lv_aload_n hx hb dX4_init_39 rfl (lv_at hl 0 rfl) ?_
  refine va_new (ci := 10) (fs := [.null]) (C := RX10) (T := TX10) (N := 1) hx hb hts xt_inX10 tyX10 tyX10_ok hown (hts _ xt_2_20) (hts _ xi_X10) (hts _ xt_1_10) hK hP hD hS hA rfl (fun j hj => by match j, hj with | 0, _ => rfl | k + 1, h => exact absurd h (by omega)) (Nat.le_of_ble_eq_true rfl) (Nat.le_of_ble_eq_true rfl) dX4_init_40 (fun q6 H hP hD hS => ?_)
  have hP : va_P D vwCl [(h0, .inr (4, [.null, .null, .ref q1, .ref q2, .ref q3, .ref q4, .null, .int 0, .int 0, .int 0])), (q1, .inl (cy 1, 6, .inl (fun _ => 0))), (q2, .inl (cy 1, 6, .inl (fun _ => 0))), (q3, .inl (cy 1, 6, .inl (fun _ => 0))), (q4, .inr (10, [.ref (u5 0)])), ((u5 0), .inl (cy 1, 24, .inl xn_m1)), (q6, .inr (10, [.null]))] H := hP
  have hD : va_D A [(h0, .inr (4, [.null, .null, .ref q1, .ref q2, .ref q3, .ref q4, .null, .int 0, .int 0, .int 0])), (q1, .inl (cy 1, 6, .inl (fun _ => 0))), (q2, .inl (cy 1, 6, .inl (fun _ => 0))), (q3, .inl (cy 1, 6, .inl (fun _ => 0))), (q4, .inr (10, [.ref (u5 0)])), ((u5 0), .inl (cy 1, 24, .inl xn_m1)), (q6, .inr (10, [.null]))] := hD
  refine lv_dup hx hb dX4_init_43 rfl ?_
  refine xn_call hA hP hD hS 6 rfl (xn_run (As := []) (rest := [.ref q6, .ref h0]) X hP 6 rfl (xn_Timetable l D cy q6) xm_X10_init xt_2_23 rfl (Or.inl xt_2_22) ⟨Nat.le_of_ble_eq_true rfl, Nat.le_of_ble_eq_true rfl⟩ rfl rfl hl.1 (Nat.le_of_ble_eq_true rfl) dX4_init_44 ⟨Nat.le_of_ble_eq_true rfl, Nat.le_of_ble_eq_true rfl⟩) [0, 1, 2, 3, 4, 5] (wr := [(h0, .inr (4, [.null, .null, .ref q1, .ref q2, .ref q3, .ref q4, .null, .int 0, .int 0, .int 0])), (q1, .inl (cy 1, 6, .inl (fun _ => 0))), (q2, .inl (cy 1, 6, .inl (fun _ => 0))), (q3, .inl (cy 1, 6, .inl (fun _ => 0))), (q4, .inr (10, [.ref (u5 0)])), ((u5 0), .inl (cy 1, 24, .inl xn_m1))]) rfl (by decide) (by decide) (fun u7 H locs hP hD hS => ?_)
  have hP : va_P D vwCl [(h0, .inr (4, [.null, .null, .ref q1, .ref q2, .ref q3, .ref q4, .null, .int 0, .int 0, .int 0])), (q1, .inl (cy 1, 6, .inl (fun _ => 0))), (q2, .inl (cy 1, 6, .inl (fun _ => 0))), (q3, .inl (cy 1, 6, .inl (fun _ => 0))), (q4, .inr (10, [.ref (u5 0)])), ((u5 0), .inl (cy 1, 24, .inl xn_m1)), (q6, .inr (10, [.ref (u7 0)])), ((u7 0), .inl (cy 1, 24, .inl xn_m1))] H := hP
  have hD : va_D A [(h0, .inr (4, [.null, .null, .ref q1, .ref q2, .ref q3, .ref q4, .null, .int 0, .int 0, .int 0])), (q1, .inl (cy 1, 6, .inl (fun _ => 0))), (q2, .inl (cy 1, 6, .inl (fun _ => 0))), (q3, .inl (cy 1, 6, .inl (fun _ => 0))), (q4, .inr (10, [.ref (u5 0)])), ((u5 0), .inl (cy 1, 24, .inl xn_m1)), (q6, .inr (10, [.ref (u7 0)])), ((u7 0), .inl (cy 1, 24, .inl xn_m1))] := hD
  refine va_putF (D := D) (ci := 4) (v := .ref q6) (ty := (.object "ShowRings$Timetable")) (C := RX4) (T := TX4) (N := 10) hx hb hts xt_inX4 tyX4 tyX4_ok nmX4 hown hK hP hD hS 0 rfl rfl 6 (by decide) (hts _ xt_2_40) (fun _ h9 => h9) rfl hin rfl (by decide +kernel) rfl rfl (Nat.le_of_ble_eq_true rfl) dX4_init_47 (fun H locs hP hD hS => ?_)
  have hP : va_P D vwCl [(h0, .inr (4, [.null, .null, .ref q1, .ref q2, .ref q3, .ref q4, .ref q6, .int 0, .int 0, .int 0])), (q1, .inl (cy 1, 6, .inl (fun _ => 0))), (q2, .inl (cy 1, 6, .inl (fun _ => 0))), (q3, .inl (cy 1, 6, .inl (fun _ => 0))), (q4, .inr (10, [.ref (u5 0)])), ((u5 0), .inl (cy 1, 24, .inl xn_m1)), (q6, .inr (10, [.ref (u7 0)])), ((u7 0), .inl (cy 1, 24, .inl xn_m1))] H := hP
  have hD : va_D A [(h0, .inr (4, [.null, .null, .ref q1, .ref q2, .ref q3, .ref q4, .ref q6, .int 0, .int 0, .int 0])), (q1, .inl (cy 1, 6, .inl (fun _ => 0))), (q2, .inl (cy 1, 6, .inl (fun _ => 0))), (q3, .inl (cy 1, 6, .inl (fun _ => 0))), (q4, .inr (10, [.ref (u5 0)])), ((u5 0), .inl (cy 1, 24, .inl xn_m1)), (q6, .inr (10, [.ref (u7 0)])), ((u7 0), .inl (cy 1, 24, .inl xn_m1))] := hD
  refine lv_aload_n hx hb dX4_init_50 rfl (lv_at hl 0 rfl) ?_
  refine lv_iconst (v := (1 : Int32)) hx hb dX4_init_51 (by decide) ?_
  refine va_put (D := D) (ci := 4) (v := .int (1 : Int32)) (ty := .int) (C := RX4) (T := TX4) (N := 10) hx hb hts xt_inX4 tyX4 tyX4_ok nmX4 hown hK hP hD hS 0 rfl rfl 7 (by decide) (hts _ xt_2_42) (fun _ h9 => h9) rfl (by decide +kernel) rfl rfl (Nat.le_of_ble_eq_true rfl) dX4_init_52 (fun H locs hP hD hS => ?_)
  have hP : va_P D vwCl [(h0, .inr (4, [.null, .null, .ref q1, .ref q2, .ref q3, .ref q4, .ref q6, .int (1 : Int32), .int 0, .int 0])), (q1, .inl (cy 1, 6, .inl (fun _ => 0))), (q2, .inl (cy 1, 6, .inl (fun _ => 0))), (q3, .inl (cy 1, 6, .inl (fun _ => 0))), (q4, .inr (10, [.ref (u5 0)])), ((u5 0), .inl (cy 1, 24, .inl xn_m1)), (q6, .inr (10, [.ref (u7 0)])), ((u7 0), .inl (cy 1, 24, .inl xn_m1))] H := hP
  have hD : va_D A [(h0, .inr (4, [.null, .null, .ref q1, .ref q2, .ref q3, .ref q4, .ref q6, .int (1 : Int32), .int 0, .int 0])), (q1, .inl (cy 1, 6, .inl (fun _ => 0))), (q2, .inl (cy 1, 6, .inl (fun _ => 0))), (q3, .inl (cy 1, 6, .inl (fun _ => 0))), (q4, .inr (10, [.ref (u5 0)])), ((u5 0), .inl (cy 1, 24, .inl xn_m1)), (q6, .inr (10, [.ref (u7 0)])), ((u7 0), .inl (cy 1, 24, .inl xn_m1))] := hD
  refine lv_aload_n hx hb dX4_init_55 rfl (lv_at hl 0 rfl) ?_
  refine lv_iconst (v := (0 : Int32)) hx hb dX4_init_56 (by decide) ?_
  refine va_put (D := D) (ci := 4) (v := .int (0 : Int32)) (ty := .int) (C := RX4) (T := TX4) (N := 10) hx hb hts xt_inX4 tyX4 tyX4_ok nmX4 hown hK hP hD hS 0 rfl rfl 8 (by decide) (hts _ xt_2_43) (fun _ h9 => h9) rfl (by decide +kernel) rfl rfl (Nat.le_of_ble_eq_true rfl) dX4_init_57 (fun H locs hP hD hS => ?_)
  have hP : va_P D vwCl [(h0, .inr (4, [.null, .null, .ref q1, .ref q2, .ref q3, .ref q4, .ref q6, .int (1 : Int32), .int (0 : Int32), .int 0])), (q1, .inl (cy 1, 6, .inl (fun _ => 0))), (q2, .inl (cy 1, 6, .inl (fun _ => 0))), (q3, .inl (cy 1, 6, .inl (fun _ => 0))), (q4, .inr (10, [.ref (u5 0)])), ((u5 0), .inl (cy 1, 24, .inl xn_m1)), (q6, .inr (10, [.ref (u7 0)])), ((u7 0), .inl (cy 1, 24, .inl xn_m1))] H := hP
  have hD : va_D A [(h0, .inr (4, [.null, .null, .ref q1, .ref q2, .ref q3, .ref q4, .ref q6, .int (1 : Int32), .int (0 : Int32), .int 0])), (q1, .inl (cy 1, 6, .inl (fun _ => 0))), (q2, .inl (cy 1, 6, .inl (fun _ => 0))), (q3, .inl (cy 1, 6, .inl (fun _ => 0))), (q4, .inr (10, [.ref (u5 0)])), ((u5 0), .inl (cy 1, 24, .inl xn_m1)), (q6, .inr (10, [.ref (u7 0)])), ((u7 0), .inl (cy 1, 24, .inl xn_m1))] := hD
  refine lv_aload_n hx hb dX4_init_60 rfl (lv_at hl 0 rfl) ?_
  refine lv_iconst (v := (0 : Int32)) hx hb dX4_init_61 (by decide) ?_
  refine va_put (D := D) (ci := 4) (v := .int (0 : Int32)) (ty := .int) (C := RX4) (T := TX4) (N := 10) hx hb hts xt_inX4 tyX4 tyX4_ok nmX4 hown hK hP hD hS 0 rfl rfl 9 (by decide) (hts _ xt_2_45) (fun _ h9 => h9) rfl (by decide +kernel) rfl rfl (Nat.le_of_ble_eq_true rfl) dX4_init_62 (fun H locs hP hD hS => ?_)
  have hP : va_P D vwCl [(h0, .inr (4, [.null, .null, .ref q1, .ref q2, .ref q3, .ref q4, .ref q6, .int (1 : Int32), .int (0 : Int32), .int (0 : Int32)])), (q1, .inl (cy 1, 6, .inl (fun _ => 0))), (q2, .inl (cy 1, 6, .inl (fun _ => 0))), (q3, .inl (cy 1, 6, .inl (fun _ => 0))), (q4, .inr (10, [.ref (u5 0)])), ((u5 0), .inl (cy 1, 24, .inl xn_m1)), (q6, .inr (10, [.ref (u7 0)])), ((u7 0), .inl (cy 1, 24, .inl xn_m1))] H := hP
  have hD : va_D A [(h0, .inr (4, [.null, .null, .ref q1, .ref q2, .ref q3, .ref q4, .ref q6, .int (1 : Int32), .int (0 : Int32), .int (0 : Int32)])), (q1, .inl (cy 1, 6, .inl (fun _ => 0))), (q2, .inl (cy 1, 6, .inl (fun _ => 0))), (q3, .inl (cy 1, 6, .inl (fun _ => 0))), (q4, .inr (10, [.ref (u5 0)])), ((u5 0), .inl (cy 1, 24, .inl xn_m1)), (q6, .inr (10, [.ref (u7 0)])), ((u7 0), .inl (cy 1, 24, .inl xn_m1))] := hD
  refine lv_aload_n hx hb dX4_init_65 rfl (lv_at hl 0 rfl) ?_
  refine lv_aload_n hx hb dX4_init_66 rfl (lv_at hl 1 rfl) ?_
  refine va_putF (D := D) (ci := 4) (v := .ref r1) (ty := (.object "ShowRings$Kennel")) (C := RX4) (T := TX4) (N := 10) hx hb hts xt_inX4 tyX4 tyX4_ok nmX4 hown hK hP hD hS 0 rfl rfl 0 (by decide) (hts _ xt_2_34) (fun _ h9 => h9) rfl hin rfl (by decide +kernel) rfl rfl (Nat.le_of_ble_eq_true rfl) dX4_init_67 (fun H locs hP hD hS => ?_)
  have hP : va_P D vwCl [(h0, .inr (4, [.ref r1, .null, .ref q1, .ref q2, .ref q3, .ref q4, .ref q6, .int (1 : Int32), .int (0 : Int32), .int (0 : Int32)])), (q1, .inl (cy 1, 6, .inl (fun _ => 0))), (q2, .inl (cy 1, 6, .inl (fun _ => 0))), (q3, .inl (cy 1, 6, .inl (fun _ => 0))), (q4, .inr (10, [.ref (u5 0)])), ((u5 0), .inl (cy 1, 24, .inl xn_m1)), (q6, .inr (10, [.ref (u7 0)])), ((u7 0), .inl (cy 1, 24, .inl xn_m1))] H := hP
  have hD : va_D A [(h0, .inr (4, [.ref r1, .null, .ref q1, .ref q2, .ref q3, .ref q4, .ref q6, .int (1 : Int32), .int (0 : Int32), .int (0 : Int32)])), (q1, .inl (cy 1, 6, .inl (fun _ => 0))), (q2, .inl (cy 1, 6, .inl (fun _ => 0))), (q3, .inl (cy 1, 6, .inl (fun _ => 0))), (q4, .inr (10, [.ref (u5 0)])), ((u5 0), .inl (cy 1, 24, .inl xn_m1)), (q6, .inr (10, [.ref (u7 0)])), ((u7 0), .inl (cy 1, 24, .inl xn_m1))] := hD
  refine lv_aload_n hx hb dX4_init_70 rfl (lv_at hl 0 rfl) ?_
  refine lv_aload_n hx hb dX4_init_71 rfl (lv_at hl 2 rfl) ?_
  refine va_putF (D := D) (ci := 4) (v := .ref r2) (ty := (.object "ShowRings$Club")) (C := RX4) (T := TX4) (N := 10) hx hb hts xt_inX4 tyX4 tyX4_ok nmX4 hown hK hP hD hS 0 rfl rfl 1 (by decide) (hts _ xt_2_35) (fun _ h9 => h9) rfl hin rfl (by decide +kernel) rfl rfl (Nat.le_of_ble_eq_true rfl) dX4_init_72 (fun H locs hP hD hS => ?_)
  have hP : va_P D vwCl [(h0, .inr (4, [.ref r1, .ref r2, .ref q1, .ref q2, .ref q3, .ref q4, .ref q6, .int (1 : Int32), .int (0 : Int32), .int (0 : Int32)])), (q1, .inl (cy 1, 6, .inl (fun _ => 0))), (q2, .inl (cy 1, 6, .inl (fun _ => 0))), (q3, .inl (cy 1, 6, .inl (fun _ => 0))), (q4, .inr (10, [.ref (u5 0)])), ((u5 0), .inl (cy 1, 24, .inl xn_m1)), (q6, .inr (10, [.ref (u7 0)])), ((u7 0), .inl (cy 1, 24, .inl xn_m1))] H := hP
  have hD : va_D A [(h0, .inr (4, [.ref r1, .ref r2, .ref q1, .ref q2, .ref q3, .ref q4, .ref q6, .int (1 : Int32), .int (0 : Int32), .int (0 : Int32)])), (q1, .inl (cy 1, 6, .inl (fun _ => 0))), (q2, .inl (cy 1, 6, .inl (fun _ => 0))), (q3, .inl (cy 1, 6, .inl (fun _ => 0))), (q4, .inr (10, [.ref (u5 0)])), ((u5 0), .inl (cy 1, 24, .inl xn_m1)), (q6, .inr (10, [.ref (u7 0)])), ((u7 0), .inl (cy 1, 24, .inl xn_m1))] := hD
  subst hAe
  exact xn_ret (fun k => [q1, q2, q3, q4, (u5 0), q6, (u7 0)].getD k 0) X hr hk hP hD hS (Nat.le_of_ble_eq_true rfl) (Nat.le_of_ble_eq_true rfl) dX4_init_75
