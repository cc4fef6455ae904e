def xs_tx : String := "age     sex     breed   group   class   own     kin     parted  beaten  bar     if      points  title   under   or      and     "
def xs_b : List Int32 := [97, 103, 101, 32, 32, 32, 32, 32, 115, 101, 120, 32, 32, 32, 32, 32, 98, 114, 101, 101, 100, 32, 32, 32, 103, 114, 111, 117, 112, 32, 32, 32, 99, 108, 97, 115, 115, 32, 32, 32, 111, 119, 110, 32, 32, 32, 32, 32, 107, 105, 110, 32, 32, 32, 32, 32, 112, 97, 114, 116, 101, 100, 32, 32, 98, 101, 97, 116, 101, 110, 32, 32, 98, 97, 114, 32, 32, 32, 32, 32, 105, 102, 32, 32, 32, 32, 32, 32, 112, 111, 105, 110, 116, 115, 32, 32, 116, 105, 116, 108, 101, 32, 32, 32, 117, 110, 100, 101, 114, 32, 32, 32, 111, 114, 32, 32, 32, 32, 32, 32, 97, 110, 100, 32, 32, 32, 32, 32]
/-- what a walk knows of the constant of words -/
abbrev xs_G (ak av : Nat) (A : Nat → Prop) (U : State) (H : Heap) : Prop :=
  va_O "java/lang/String" ak A U H ∧ va_OF "java/lang/String" "coder" "B" (.int 0) ak A U H ∧ va_OF "java/lang/String" "value" "[B" (.ref av) ak A U H ∧ va_T .byte av 128 (fun j => .int (xs_b.getD j 0)) A U H ∧ va_Z "java/lang/String" "COMPACT_STRINGS" "Z" (.int 1) A U H ∧ va_Zq "jdk/internal/util/Preconditions" "SIOOBE_FORMATTER" "Ljava/util/function/BiFunction;" A U H ∧ vk_R "ShowRings$Scanner" 63 xs_tx ak U
def xs_pre (D : va_G) (cy : Nat → ClassId) (lay : List xw_E) (q : Nat → Nat) (ak av sz : Nat) (σ : xw_M) (U : State) : Prop := xr_pre D cy lay q sz σ U ∧ xs_G ak av (xw_A lay q sz) U U.heap
theorem xs_blind {D : va_G} {cy : Nat → ClassId} {lay : List xw_E} {q : Nat → Nat} {ak av sz : Nat} {σ : xw_M} {As : List Value} : FrameBlind (va_Pc As (xs_pre D cy lay q ak av sz σ)) := by
  intro a U g mk h
  obtain ⟨h0, ⟨h1, h2, h3, h4, h5⟩, g1, g2, g3, g4, g5, g6, g7⟩ := h
  have hv : U.vm.Alike (U.calling g mk a).vm := Vm.Alike.refl U.vm
  exact ⟨h0, ⟨h1, h2, va_K.moved (u := U) (U := U.calling g mk a) (Vm.Alike.refl U.vm) h3, h4.same rfl, h5⟩, g1.moved hv, g2.moved hv, g3.moved hv, g4.moved hv, g5.moved hv, g6.moved hv, g7.same rfl⟩
def xs_CI (l : Launch) (y : MethodName) (cc : ByteArray) (maxL : Nat) (ret : FieldType) (rm : Room) (D : va_G) (cy : Nat → ClassId) (lay : List xw_E) (q : Nat → Nat) (ak av : Nat) (σ : xw_M) (As : List Value) (Z : Int32 → xw_M → Prop) : Prop :=
  ∀ sz, Met l y (xr_ws y cc maxL (some ret)) rm (va_Pc As (xs_pre D cy lay q ak av sz σ)) (va_Qi Z (xr_po D cy lay q) (xw_A lay q sz)) 0 0 (xw_A lay q sz)
def xs_CV (l : Launch) (y : MethodName) (cc : ByteArray) (maxL : Nat) (rm : Room) (D : va_G) (cy : Nat → ClassId) (lay : List xw_E) (q : Nat → Nat) (ak av : Nat) (σ : xw_M) (As : List Value) (Z : xw_M → Prop) : Prop :=
  ∀ sz, Met l y (xr_ws y cc maxL none) rm (va_Pc As (xs_pre D cy lay q ak av sz σ)) (va_Qv Z (xr_po D cy lay q) (xw_A lay q sz)) 0 0 (xw_A lay q sz)
theorem xs_met {l : Launch} {y : MethodName} {cc : ByteArray} {maxL : Nat} {ret : Option FieldType} {fr lo : Nat} {D : va_G} {cy : Nat → ClassId} {lay : List xw_E} {q : Nat → Nat} {ak av : Nat} {σ : xw_M} {As : List Value} {Qc : Array Value → State → Outcome → State → Prop} {sz : Nat} (own : String) (ho : y.cls = own) (hy : plainName y.cls = true) (hlen : (lg_sl As).length ≤ maxL)
    (body : ∀ p e s m below meth c, s.heap.size = sz → xr_X p s m As.toArray c cc maxL own D cy lay q → xs_G ak av (xw_A lay q s.heap.size) s s.heap → xr_H D cy lay q s σ s.heap [] → meth.sig.returnType = ret → meth.locks = false → ∀ ls, lv_has ls maxL (lv_args 0 As) → W p l e { frames := fr, cells := 0, slots := 0, locals := lo } s m As.toArray below meth c s.heap [] 0 0 (MQ below Qc As.toArray s 0 0 (xw_A lay q s.heap.size)) (F0 m 0 ls [])) :
    Met l y (xr_ws y cc maxL ret) { frames := fr, cells := 0, slots := 0, locals := lo } (va_Pc As (xs_pre D cy lay q ak av sz σ)) Qc 0 0 (xw_A lay q sz) := by
  refine Met.ofW (cc := cc) (maxL := maxL) (ret := ret) hy rfl ?_
  intro p e s m args below meth c s₁ B hml hv
  obtain ⟨rfl, ⟨hsz, hP, hK, hN, hdj⟩, hG⟩ := hv
  have hts := atoms_spec (ws := xr_ws y cc maxL ret) B.pre
  have hown : s.vm.findClass own = some m.cls := by rw [← ho]; exact findClass_of_methodNamed B.named
  have hl := lv_entry As (n := maxL) hlen
  rw [lg_entry_eq]
  generalize (lg_sl As ++ List.replicate (maxL - (lg_sl As).length) Slot.unset).toArray = ls at hl ⊢
  subst hsz
  exact body p e s m below meth c rfl ⟨B.exec, B.bytes, hml, hown, fun w h => hts w (List.mem_cons_of_mem _ h), hN, hK, hdj⟩ hG ⟨hP, va_S.rf⟩ B.returns B.notSynchronized ls hl
theorem xs_CI.of {l : Launch} {y : MethodName} {cc : ByteArray} {maxL : Nat} {ret : FieldType} {fr lo : Nat} {D : va_G} {cy : Nat → ClassId} {lay : List xw_E} {q : Nat → Nat} {ak av : Nat} {σ : xw_M} {As : List Value} {Z : Int32 → xw_M → Prop} (own : String) (ho : y.cls = own) (hy : plainName y.cls = true) (hlen : (lg_sl As).length ≤ maxL)
    (body : ∀ p e s m below meth c, xr_X p s m As.toArray c cc maxL own D cy lay q → xs_G ak av (xw_A lay q s.heap.size) s s.heap → xr_H D cy lay q s σ s.heap [] → meth.sig.returnType = some ret → meth.locks = false → ∀ ls, lv_has ls maxL (lv_args 0 As) → W p l e { frames := fr, cells := 0, slots := 0, locals := lo } s m As.toArray below meth c s.heap [] 0 0 (MQ below (va_Qi Z (xr_po D cy lay q) (xw_A lay q s.heap.size)) As.toArray s 0 0 (xw_A lay q s.heap.size)) (F0 m 0 ls [])) :
    xs_CI l y cc maxL ret { frames := fr, cells := 0, slots := 0, locals := lo } D cy lay q ak av σ As Z := fun _ => xs_met own ho hy hlen (fun p e s m below meth c hsz X hG hw hr hk ls hl => by subst hsz; exact body p e s m below meth c X hG hw hr hk ls hl)
theorem xs_CV.of {l : Launch} {y : MethodName} {cc : ByteArray} {maxL : Nat} {fr lo : Nat} {D : va_G} {cy : Nat → ClassId} {lay : List xw_E} {q : Nat → Nat} {ak av : Nat} {σ : xw_M} {As : List Value} {Z : xw_M → Prop} (own : String) (ho : y.cls = own) (hy : plainName y.cls = true) (hlen : (lg_sl As).length ≤ maxL)
    (body : ∀ p e s m below meth c, xr_X p s m As.toArray c cc maxL own D cy lay q → xs_G ak av (xw_A lay q s.heap.size) s s.heap → xr_H D cy lay q s σ s.heap [] → meth.sig.returnType = none → meth.locks = false → ∀ ls, lv_has ls maxL (lv_args 0 As) → W p l e { frames := fr, cells := 0, slots := 0, locals := lo } s m As.toArray below meth c s.heap [] 0 0 (MQ below (va_Qv Z (xr_po D cy lay q) (xw_A lay q s.heap.size)) As.toArray s 0 0 (xw_A lay q s.heap.size)) (F0 m 0 ls [])) :
    xs_CV l y cc maxL { frames := fr, cells := 0, slots := 0, locals := lo } D cy lay q ak av σ As Z := fun _ => xs_met own ho hy hlen (fun p e s m below meth c hsz X hG hw hr hk ls hl => by subst hsz; exact body p e s m below meth c X hG hw hr hk ls hl)
section XQ
variable {p : Program} {l : Launch} {e : Env} {R : Room} {s : State} {m : MethodId} {args : Array Value} {below : List Frame} {meth : Method} {c : Code} {H : Heap} {locs : List Loc} {cells slots : Nat} {Q : State → Prop}
variable {cc : ByteArray} {nL : Nat} {own : String} {D : va_G} {cy : Nat → ClassId} {lay : List xw_E} {q : Nat → Nat} {ak av : Nat} {σ : xw_M} {pc : Nat} {ls : Array Slot} {rest : List Value}
theorem xs_preU {As : List Value} (X : xr_X p s m args c cc nL own D cy lay q) (hG : xs_G ak av (xw_A lay q s.heap.size) s s.heap) (hw : xr_H D cy lay q s σ H locs) : ∀ U : State, U.heap = H → s.WarmedH U.vm → va_Pc As (xs_pre D cy lay q ak av H.size σ) As.toArray U := by
  intro U hU hW
  obtain ⟨g1, g2, g3, g4, g5, g6, g7⟩ := hG
  have hn : ∀ a, xw_A lay q H.size a → xw_A lay q s.heap.size a := fun a h => xr_free hw h
  refine ⟨rfl, (xr_preU (As := As) X hw U hU hW).2, ?_⟩
  rw [hU]
  exact ⟨((g1.moved hW.alike).kept hw.2.2.1).narrow hn, ((g2.moved hW.alike).kept hw.2.2.1).narrow hn, ((g3.moved hW.alike).kept hw.2.2.1).narrow hn, ((g4.moved hW.alike).kept hw.2.2.1).narrow hn, ((g5.moved hW.alike).kept hw.2.2.1).narrow hn, ((g6.moved hW.alike).kept hw.2.2.1).narrow hn, g7.warm hW⟩
theorem xs_runV {y : MethodName} {bytes : ByteArray} {maxL n idx fr lo : Nat} {ret : Option FieldType} {As st0 : List Value} {b : Addr} {Qc : Array Value → State → Outcome → State → Prop} (X : xr_X p s m args c cc nL own D cy lay q) (hG : xs_G ak av (xw_A lay q s.heap.size) s s.heap) (hw : xr_H D cy lay q s σ H locs)
    (hM : Met l y (xr_ws y bytes maxL ret) { frames := fr, cells := 0, slots := 0, locals := lo } (va_Pc (.ref b :: As) (xs_pre D cy lay q ak av H.size σ)) Qc 0 0 (xw_A lay q H.size)) (hm : xr_MW y bytes maxL ret n) (hl : Cond.methodLink own idx y ∈ xw_T) (hi : Cond.instanceMethod y ∈ xw_T) (hs : Cond.selects y.cls y y ∈ xw_T) (hR : xr_Rm R fr lo maxL)
    (hrec : ∃ cell : Cell, H[b]? = some cell ∧ cell.vm.isStatics = false ∧ s.vm.findClass y.cls = some cell.cls) (hn : As.length = n) (hst : st0 = As.reverse ++ .ref b :: rest) (hls : ls.size = nL) (hcat : (rest.map fun v => v.category).sum ≤ 8) (hd : decode cc pc = .ok (.invokevirtual idx, 3)) (hcs : cells ≤ R.cells ∧ slots ≤ R.slots) :
    va_Run p l e R s m args below meth c H locs cells slots 0 0 (F0 m pc ls st0) rest (Qc (Value.ref b :: As).toArray) (xw_A lay q H.size) :=
  va_runV (As := As) (rest := rest) ⟨X.1, X.2.1, X.2.2.1, X.2.2.2.1, X.2.2.2.2.1⟩ hM ⟨xr_CB X hm hl hR, X.2.2.2.2.1 _ hi, X.2.2.2.2.1 _ hs⟩ ⟨xs_blind, hrec, xs_preU X hG hw⟩ rfl hn hls hst (lv_room hcat) hd hcs
theorem xs_runS {y : MethodName} {bytes : ByteArray} {maxL n idx fr lo : Nat} {ret : Option FieldType} {As st0 : List Value} {Qc : Array Value → State → Outcome → State → Prop} (X : xr_X p s m args c cc nL own D cy lay q) (hG : xs_G ak av (xw_A lay q s.heap.size) s s.heap) (hw : xr_H D cy lay q s σ H locs)
    (hM : Met l y (xr_ws y bytes maxL ret) { frames := fr, cells := 0, slots := 0, locals := lo } (va_Pc As (xs_pre D cy lay q ak av H.size σ)) Qc 0 0 (xw_A lay q H.size)) (hm : xr_MW y bytes maxL ret n) (hl : Cond.methodLink own idx y ∈ xw_T) (hi : Cond.static y ∈ xw_T) (hR : xr_Rm R fr lo maxL)
    (hn : As.length = n) (hst : st0 = As.reverse ++ rest) (hls : ls.size = nL) (hcat : (rest.map fun v => v.category).sum ≤ 8) (hd : decode cc pc = .ok (.invokestatic idx, 3)) (hcs : cells ≤ R.cells ∧ slots ≤ R.slots) :
    va_Run p l e R s m args below meth c H locs cells slots 0 0 (F0 m pc ls st0) rest (Qc As.toArray) (xw_A lay q H.size) :=
  va_runS (As := As) (rest := rest) ⟨X.1, X.2.1, X.2.2.1, X.2.2.2.1, X.2.2.2.2.1⟩ hM ⟨xr_CB X hm hl hR, X.2.2.2.2.1 _ hi⟩ ⟨xs_blind, xs_preU X hG hw⟩ rfl hn hls hst (lv_room hcat) hd hcs
theorem xs_rec (hG : xs_G ak av (xw_A lay q s.heap.size) s s.heap) (hw : xr_H D cy lay q s σ H locs) : ∃ cell : Cell, H[ak]? = some cell ∧ cell.vm.isStatics = false ∧ s.vm.findClass "java/lang/String" = some cell.cls := by
  obtain ⟨cell, h1, h2, h3, -⟩ := hG.1.kept hw.2.2.1
  exact ⟨cell, h1, h2, h3⟩
theorem xs_recL {ci c0 : Nat} {fs : List (Option Nat)} {v : vw_C} {C : String} (X : xr_X p s m args c cc nL own D cy lay q) (hw : xr_H D cy lay q s σ H locs) (hl0 : lay[c0]? = some (.inl (ci, fs))) (hc : vwCl[ci]? = some v) (hv : v.1 = C) : ∃ cell : Cell, H[q c0]? = some cell ∧ cell.vm.isStatics = false ∧ s.vm.findClass C = some cell.cls := by
  have hrec := va_recv X.2.2.2.2.2.2.1 hw.1 hc (xw_at_o (cy := cy) (q := q) (σ := σ) hl0)
  rw [hv] at hrec
  exact hrec
end XQ
theorem xm_J0_coder_7d493 : xr_MW yJ0_coder_7d493 cJ0_coder_7d493 1 (some .byte) 0 := ⟨xt_2_208, xt_1_14, by decide, by decide, by decide +kernel⟩
theorem xm_J0_length_8abf5 : xr_MW yJ0_length_8abf5 cJ0_length_8abf5 1 (some .int) 0 := ⟨xt_2_204, xt_1_14, by decide, by decide, by decide +kernel⟩
theorem xm_J0_isLatin1_aae02 : xr_MW yJ0_isLatin1_aae02 cJ0_isLatin1_aae02 1 (some .boolean) 0 := ⟨xt_2_222, xt_1_14, by decide, by decide, by decide +kernel⟩
theorem xm_J0_charAt_5068e : xr_MW yJ0_charAt_5068e cJ0_charAt_5068e 2 (some .char) 1 := ⟨xt_2_218, xt_1_14, by decide, by decide, by decide +kernel⟩
theorem xm_J0_checkIndex_df160 : xr_MW yJ0_checkIndex_df160 cJ0_checkIndex_df160 2 none 2 := ⟨xt_2_228, xt_1_14, by decide, by decide, by decide +kernel⟩
theorem xm_J3_checkIndex_8e157 : xr_MW yJ3_checkIndex_8e157 cJ3_checkIndex_8e157 3 (some .int) 3 := ⟨xt_2_233, xt_1_16, by decide, by decide, by decide +kernel⟩
theorem xm_J1_charAt_3b067 : xr_MW yJ1_charAt_3b067 cJ1_charAt_3b067 2 (some .char) 2 := ⟨xt_2_225, xt_1_15, by decide, by decide, by decide +kernel⟩
theorem xc_J0_coder_7d493 (l : Launch) (D : va_G) (cy : Nat → ClassId) (q : Nat → Nat) (ak av : Nat) (σ : xw_M) {Z : Int32 → xw_M → Prop} (hZ : Z 0 σ) : xs_CI l yJ0_coder_7d493 cJ0_coder_7d493 1 .byte { frames := 0, cells := 0, slots := 0, locals := 0 } D cy xl_A q ak av σ [.ref ak] Z := by
  refine xs_CI.of RJ0 rfl (by decide) (Nat.le_of_ble_eq_true rfl) (fun p e s m below meth c X hG hw hr hk ls hl => ?_)
  have hx := X.1
  have hb := X.2.1
  have hl : lv_has ls 1 [(0, .ref ak)] := hl
  have hG2 := hG
  obtain ⟨g1, g2, g3, g4, g5, g6, g7⟩ := hG2
  refine va_gets hx hb g5 hw.2 X.2.2.2.1 (X.2.2.2.2.1 _ xt_2_209) (fun _ h => h) dJ0_coder_7d493_0 ?_
  refine lv_if_eq (tgt := 13) hx hb dJ0_coder_7d493_3 (by decide) (fun hc => absurd hc (by decide)) (fun _ => ?_)
  refine lv_aload_n hx hb dJ0_coder_7d493_6 rfl (lv_at hl 0 rfl) ?_
  refine vk_getf hx hb g2 hw.2 X.2.2.2.1 (X.2.2.2.2.1 _ xt_6_202) (fun _ h => h) dJ0_coder_7d493_7 ?_
  refine lv_goto (tgt := 14) hx hb dJ0_coder_7d493_10 (by decide) ?_
  exact W.zret hx hb hr rfl (fun t ht hW => ⟨⟨_, σ, rfl, hZ, by unfold xr_po; rw [ht]; exact hw.1⟩, hw.2.F ht⟩) hw.2.2.2 dJ0_coder_7d493_14 hk
theorem xc_J0_isLatin1_aae02 (l : Launch) (D : va_G) (cy : Nat → ClassId) (q : Nat → Nat) (ak av : Nat) (σ : xw_M) {Z : Int32 → xw_M → Prop} (hZ : Z 1 σ) : xs_CI l yJ0_isLatin1_aae02 cJ0_isLatin1_aae02 1 .boolean { frames := 0, cells := 0, slots := 0, locals := 0 } D cy xl_A q ak av σ [.ref ak] Z := by
  refine xs_CI.of RJ0 rfl (by decide) (Nat.le_of_ble_eq_true rfl) (fun p e s m below meth c X hG hw hr hk ls hl => ?_)
  have hx := X.1
  have hb := X.2.1
  have hl : lv_has ls 1 [(0, .ref ak)] := hl
  have hG2 := hG
  obtain ⟨g1, g2, g3, g4, g5, g6, g7⟩ := hG2
  refine va_gets hx hb g5 hw.2 X.2.2.2.1 (X.2.2.2.2.1 _ xt_2_209) (fun _ h => h) dJ0_isLatin1_aae02_0 ?_
  refine lv_if_eq (tgt := 17) hx hb dJ0_isLatin1_aae02_3 (by decide) (fun hc => absurd hc (by decide)) (fun _ => ?_)
  refine lv_aload_n hx hb dJ0_isLatin1_aae02_6 rfl (lv_at hl 0 rfl) ?_
  refine vk_getf hx hb g2 hw.2 X.2.2.2.1 (X.2.2.2.2.1 _ xt_6_202) (fun _ h => h) dJ0_isLatin1_aae02_7 ?_
  refine lv_if_ne (tgt := 17) hx hb dJ0_isLatin1_aae02_10 (by decide) (fun hc => absurd rfl hc) (fun _ => ?_)
  refine lv_iconst (v := 1) hx hb dJ0_isLatin1_aae02_13 (by decide) ?_
  refine lv_goto (tgt := 18) hx hb dJ0_isLatin1_aae02_14 (by decide) ?_
  exact W.zret hx hb hr rfl (fun t ht hW => ⟨⟨_, σ, rfl, hZ, by unfold xr_po; rw [ht]; exact hw.1⟩, hw.2.F ht⟩) hw.2.2.2 dJ0_isLatin1_aae02_18 hk
theorem xc_J0_length_8abf5 (l : Launch) (D : va_G) (cy : Nat → ClassId) (q : Nat → Nat) (ak av : Nat) (σ : xw_M) {Z : Int32 → xw_M → Prop} (hZ : Z 128 σ) : xs_CI l yJ0_length_8abf5 cJ0_length_8abf5 1 .int { frames := 1, cells := 0, slots := 0, locals := 20 } D cy xl_A q ak av σ [.ref ak] Z := by
  refine xs_CI.of RJ0 rfl (by decide) (Nat.le_of_ble_eq_true rfl) (fun p e s m below meth c X hG hw hr hk ls hl => ?_)
  have hx := X.1
  have hb := X.2.1
  have hl : lv_has ls 1 [(0, .ref ak)] := hl
  have hG2 := hG
  obtain ⟨g1, g2, g3, g4, g5, g6, g7⟩ := hG2
  refine lv_aload_n hx hb dJ0_length_8abf5_0 rfl (lv_at hl 0 rfl) ?_
  refine vk_getf hx hb g3 hw.2 X.2.2.2.1 (X.2.2.2.2.1 _ xt_6_201) (fun _ h => h) dJ0_length_8abf5_1 ?_
  refine va_tlen hx hb g4 hw.2 (v := 128) (by decide) dJ0_length_8abf5_4 ?_
  refine lv_aload_n hx hb dJ0_length_8abf5_5 rfl (lv_at hl 0 rfl) ?_
  refine xr_i hw (xs_runV (As := []) (rest := [.int 128]) X hG hw (xc_J0_coder_7d493 l D cy q ak av σ (Z := fun r τ => r = 0 ∧ σ = τ) ⟨rfl, rfl⟩ _) xm_J0_coder_7d493 xt_2_205 xt_2_206 xt_2_207 ⟨Nat.le_of_ble_eq_true rfl, Nat.le_of_ble_eq_true rfl⟩ (xs_rec hG hw) rfl rfl hl.1 (Nat.le_of_ble_eq_true rfl) dJ0_length_8abf5_6 ⟨Nat.zero_le _, Nat.zero_le _⟩) (fun r σ1 H locs hB hw => ?_)
  obtain ⟨rfl, rfl⟩ := hB
  refine lv_ishr hx hb dJ0_length_8abf5_9 ?_
  exact xr_iret X hw hr hk hZ dJ0_length_8abf5_10
theorem xc_J3_checkIndex_8e157_r (l : Launch) (D : va_G) (cy : Nat → ClassId) (q : Nat → Nat) (ak av : Nat) (σ : xw_M) (i n : Int32) (t : Nat) (h0 : ¬ i < 0) (h1 : i < n) {Z : Int32 → xw_M → Prop} (hZ : Z i σ) : xs_CI l yJ3_checkIndex_8e157 cJ3_checkIndex_8e157 3 .int { frames := 0, cells := 0, slots := 0, locals := 0 } D cy xl_A q ak av σ [.int i, .int n, .ref t] Z := by
  refine xs_CI.of RJ3 rfl (by decide) (Nat.le_of_ble_eq_true rfl) (fun p e s m below meth c X hG hw hr hk ls hl => ?_)
  have hx := X.1
  have hb := X.2.1
  have hl : lv_has ls 3 [(0, .int i), (1, .int n), (2, .ref t)] := hl
  have hG2 := hG
  obtain ⟨g1, g2, g3, g4, g5, g6, g7⟩ := hG2
  refine lv_iload_n hx hb dJ3_checkIndex_8e157_0 rfl (lv_at hl 0 rfl) ?_
  refine lv_if_lt (tgt := 9) hx hb dJ3_checkIndex_8e157_1 (by decide) (fun hc => absurd hc h0) (fun _ => ?_)
  refine lv_iload_n hx hb dJ3_checkIndex_8e157_4 rfl (lv_at hl 0 rfl) ?_
  refine lv_iload_n hx hb dJ3_checkIndex_8e157_5 rfl (lv_at hl 1 rfl) ?_
  refine lv_icmp_lt (tgt := 16) hx hb dJ3_checkIndex_8e157_6 (by decide) (fun _ => ?_) (fun hc => absurd h1 hc)
  refine lv_iload_n hx hb dJ3_checkIndex_8e157_16 rfl (lv_at hl 0 rfl) ?_
  exact xr_iret X hw hr hk hZ dJ3_checkIndex_8e157_17
theorem xc_J3_checkIndex_8e157_n (l : Launch) (D : va_G) (cy : Nat → ClassId) (q : Nat → Nat) (ak av : Nat) (σ : xw_M) (i n : Int32) (h0 : ¬ i < 0) (h1 : i < n) {Z : Int32 → xw_M → Prop} (hZ : Z i σ) : xs_CI l yJ3_checkIndex_8e157 cJ3_checkIndex_8e157 3 .int { frames := 0, cells := 0, slots := 0, locals := 0 } D cy xl_A q ak av σ [.int i, .int n, .null] Z := by
  refine xs_CI.of RJ3 rfl (by decide) (Nat.le_of_ble_eq_true rfl) (fun p e s m below meth c X hG hw hr hk ls hl => ?_)
  have hx := X.1
  have hb := X.2.1
  have hl : lv_has ls 3 [(0, .int i), (1, .int n), (2, .null)] := hl
  have hG2 := hG
  obtain ⟨g1, g2, g3, g4, g5, g6, g7⟩ := hG2
  refine lv_iload_n hx hb dJ3_checkIndex_8e157_0 rfl (lv_at hl 0 rfl) ?_
  refine lv_if_lt (tgt := 9) hx hb dJ3_checkIndex_8e157_1 (by decide) (fun hc => absurd hc h0) (fun _ => ?_)
  refine lv_iload_n hx hb dJ3_checkIndex_8e157_4 rfl (lv_at hl 0 rfl) ?_
  refine lv_iload_n hx hb dJ3_checkIndex_8e157_5 rfl (lv_at hl 1 rfl) ?_
  refine lv_icmp_lt (tgt := 16) hx hb dJ3_checkIndex_8e157_6 (by decide) (fun _ => ?_) (fun hc => absurd h1 hc)
  refine lv_iload_n hx hb dJ3_checkIndex_8e157_16 rfl (lv_at hl 0 rfl) ?_
  exact xr_iret X hw hr hk hZ dJ3_checkIndex_8e157_17
theorem xc_J0_checkIndex_df160 (l : Launch) (D : va_G) (cy : Nat → ClassId) (q : Nat → Nat) (ak av : Nat) (σ : xw_M) (i n : Int32) (h0 : ¬ i < 0) (h1 : i < n) {Z : xw_M → Prop} (hZ : Z σ) : xs_CV l yJ0_checkIndex_df160 cJ0_checkIndex_df160 2 { frames := 1, cells := 0, slots := 0, locals := 22 } D cy xl_A q ak av σ [.int i, .int n] Z := by
  refine xs_CV.of RJ0 rfl (by decide) (Nat.le_of_ble_eq_true rfl) (fun p e s m below meth c X hG hw hr hk ls hl => ?_)
  have hx := X.1
  have hb := X.2.1
  have hl : lv_has ls 2 [(0, .int i), (1, .int n)] := hl
  have hG2 := hG
  obtain ⟨g1, g2, g3, g4, g5, g6, g7⟩ := hG2
  refine lv_iload_n hx hb dJ0_checkIndex_df160_0 rfl (lv_at hl 0 rfl) ?_
  refine lv_iload_n hx hb dJ0_checkIndex_df160_1 rfl (lv_at hl 1 rfl) ?_
  rcases g6 with g6 | ⟨t6, g6⟩
  · refine va_gets hx hb g6 hw.2 X.2.2.2.1 (X.2.2.2.2.1 _ xt_2_229) (fun _ h => h) dJ0_checkIndex_df160_2 ?_
    refine xr_i hw (xs_runS (As := [.int i, .int n, .null]) (rest := []) X hG hw (xc_J3_checkIndex_8e157_n l D cy q ak av σ i n h0 h1 (Z := fun _ τ => σ = τ) rfl _) xm_J3_checkIndex_8e157 xt_2_231 xt_2_232 ⟨Nat.le_of_ble_eq_true rfl, Nat.le_of_ble_eq_true rfl⟩ rfl rfl hl.1 (Nat.le_of_ble_eq_true rfl) dJ0_checkIndex_df160_5 ⟨Nat.zero_le _, Nat.zero_le _⟩) (fun r σ1 H locs hB hw => ?_)
    obtain rfl := hB
    refine lv_pop hx hb dJ0_checkIndex_df160_8 rfl ?_
    exact xr_vret X hw hr hk hZ dJ0_checkIndex_df160_9
  · refine va_gets hx hb g6 hw.2 X.2.2.2.1 (X.2.2.2.2.1 _ xt_2_229) (fun _ h => h) dJ0_checkIndex_df160_2 ?_
    refine xr_i hw (xs_runS (As := [.int i, .int n, .ref t6]) (rest := []) X hG hw (xc_J3_checkIndex_8e157_r l D cy q ak av σ i n t6 h0 h1 (Z := fun _ τ => σ = τ) rfl _) xm_J3_checkIndex_8e157 xt_2_231 xt_2_232 ⟨Nat.le_of_ble_eq_true rfl, Nat.le_of_ble_eq_true rfl⟩ rfl rfl hl.1 (Nat.le_of_ble_eq_true rfl) dJ0_checkIndex_df160_5 ⟨Nat.zero_le _, Nat.zero_le _⟩) (fun r σ1 H locs hB hw => ?_)
    obtain rfl := hB
    refine lv_pop hx hb dJ0_checkIndex_df160_8 rfl ?_
    exact xr_vret X hw hr hk hZ dJ0_checkIndex_df160_9
def xs_ch (i : Int32) : Int32 := (((xs_b.getD i.toNatClampNeg 0) &&& 255).toUInt32 % 65536).toInt32
theorem xs_in {i : Int32} (h : vp_in i 128) : ¬ i < 0 ∧ i < 128 := by
  refine ⟨fun z => h (Or.inl z), ?_⟩
  have h2 := (vp_in_iff.mp h).2
  exact Int32.lt_iff_toInt_lt.mpr (by simpa using h2)
theorem xc_J1_charAt_3b067 (l : Launch) (D : va_G) (cy : Nat → ClassId) (q : Nat → Nat) (ak av : Nat) (σ : xw_M) (i : Int32) (h : vp_in i 128) {Z : Int32 → xw_M → Prop} (hZ : Z (xs_ch i) σ) : xs_CI l yJ1_charAt_3b067 cJ1_charAt_3b067 2 .char { frames := 2, cells := 0, slots := 0, locals := 43 } D cy xl_A q ak av σ [.ref av, .int i] Z := by
  refine xs_CI.of RJ1 rfl (by decide) (Nat.le_of_ble_eq_true rfl) (fun p e s m below meth c X hG hw hr hk ls hl => ?_)
  have hx := X.1
  have hb := X.2.1
  have hl : lv_has ls 2 [(0, .ref av), (1, .int i)] := hl
  have hG2 := hG
  obtain ⟨g1, g2, g3, g4, g5, g6, g7⟩ := hG2
  refine lv_iload_n hx hb dJ1_charAt_3b067_0 rfl (lv_at hl 1 rfl) ?_
  refine lv_aload_n hx hb dJ1_charAt_3b067_1 rfl (lv_at hl 0 rfl) ?_
  refine va_tlen hx hb g4 hw.2 (v := 128) (by decide) dJ1_charAt_3b067_2 ?_
  refine xr_v hw (xs_runS (As := [.int i, .int 128]) (rest := []) X hG hw (xc_J0_checkIndex_df160 l D cy q ak av σ i 128 (xs_in h).1 (xs_in h).2 (Z := fun τ => σ = τ) rfl _) xm_J0_checkIndex_df160 xt_2_226 xt_2_227 ⟨Nat.le_of_ble_eq_true rfl, Nat.le_of_ble_eq_true rfl⟩ rfl rfl hl.1 (Nat.le_of_ble_eq_true rfl) dJ1_charAt_3b067_3 ⟨Nat.zero_le _, Nat.zero_le _⟩) (fun σ1 H locs hB hw => ?_)
  obtain rfl := hB
  refine lv_aload_n hx hb dJ1_charAt_3b067_6 rfl (lv_at hl 0 rfl) ?_
  refine lv_iload_n hx hb dJ1_charAt_3b067_7 rfl (lv_at hl 1 rfl) ?_
  refine va_tb hx hb g4 hw.2 h rfl dJ1_charAt_3b067_8 ?_
  refine lv_sipush (v := 255) hx hb dJ1_charAt_3b067_9 (by decide) ?_
  refine lv_iand hx hb dJ1_charAt_3b067_12 ?_
  refine lv_i2c (v := xs_ch i) hx hb dJ1_charAt_3b067_13 rfl ?_
  exact W.zret hx hb hr (pk_nc _) (fun t ht hW => ⟨⟨_, σ, rfl, hZ, by unfold xr_po; rw [ht]; exact hw.1⟩, hw.2.F ht⟩) hw.2.2.2 dJ1_charAt_3b067_14 hk
theorem xc_J0_charAt_5068e (l : Launch) (D : va_G) (cy : Nat → ClassId) (q : Nat → Nat) (ak av : Nat) (σ : xw_M) (i : Int32) (h : vp_in i 128) {Z : Int32 → xw_M → Prop} (hZ : Z (xs_ch i) σ) : xs_CI l yJ0_charAt_5068e cJ0_charAt_5068e 2 .char { frames := 3, cells := 0, slots := 0, locals := 64 } D cy xl_A q ak av σ [.ref ak, .int i] Z := by
  refine xs_CI.of RJ0 rfl (by decide) (Nat.le_of_ble_eq_true rfl) (fun p e s m below meth c X hG hw hr hk ls hl => ?_)
  have hx := X.1
  have hb := X.2.1
  have hl : lv_has ls 2 [(0, .ref ak), (1, .int i)] := hl
  have hG2 := hG
  obtain ⟨g1, g2, g3, g4, g5, g6, g7⟩ := hG2
  refine lv_aload_n hx hb dJ0_charAt_5068e_0 rfl (lv_at hl 0 rfl) ?_
  refine xr_i hw (xs_runV (As := []) (rest := []) X hG hw (xc_J0_isLatin1_aae02 l D cy q ak av σ (Z := fun r τ => r = 1 ∧ σ = τ) ⟨rfl, rfl⟩ _) xm_J0_isLatin1_aae02 xt_2_219 xt_2_220 xt_2_221 ⟨Nat.le_of_ble_eq_true rfl, Nat.le_of_ble_eq_true rfl⟩ (xs_rec hG hw) rfl rfl hl.1 (Nat.le_of_ble_eq_true rfl) dJ0_charAt_5068e_1 ⟨Nat.zero_le _, Nat.zero_le _⟩) (fun r σ1 H locs hB hw => ?_)
  obtain ⟨rfl, rfl⟩ := hB
  refine lv_if_eq (tgt := 16) hx hb dJ0_charAt_5068e_4 (by decide) (fun hc => absurd hc (by decide)) (fun _ => ?_)
  refine lv_aload_n hx hb dJ0_charAt_5068e_7 rfl (lv_at hl 0 rfl) ?_
  refine vk_getf hx hb g3 hw.2 X.2.2.2.1 (X.2.2.2.2.1 _ xt_6_201) (fun _ h => h) dJ0_charAt_5068e_8 ?_
  refine lv_iload_n hx hb dJ0_charAt_5068e_11 rfl (lv_at hl 1 rfl) ?_
  refine xr_i hw (xs_runS (As := [.ref av, .int i]) (rest := []) X hG hw (xc_J1_charAt_3b067 l D cy q ak av σ i h (Z := fun r τ => r = xs_ch i ∧ σ = τ) ⟨rfl, rfl⟩ _) xm_J1_charAt_3b067 xt_2_223 xt_2_224 ⟨Nat.le_of_ble_eq_true rfl, Nat.le_of_ble_eq_true rfl⟩ rfl rfl hl.1 (Nat.le_of_ble_eq_true rfl) dJ0_charAt_5068e_12 ⟨Nat.zero_le _, Nat.zero_le _⟩) (fun r σ2 H locs hB hw => ?_)
  obtain ⟨rfl, rfl⟩ := hB
  exact W.zret hx hb hr (pk_nc _) (fun t ht hW => ⟨⟨_, σ, rfl, hZ, by unfold xr_po; rw [ht]; exact hw.1⟩, hw.2.F ht⟩) hw.2.2.2 dJ0_charAt_5068e_15 hk
section XL
variable {p : Program} {l : Launch} {e : Env} {R : Room} {s : State} {m : MethodId} {args : Array Value} {below : List Frame} {meth : Method} {c : Code} {H : Heap} {locs : List Loc} {cells slots : Nat} {Q : State → Prop}
variable {cc : ByteArray} {nL : Nat} {D : va_G} {cy : Nat → ClassId} {q : Nat → Nat} {ak av : Nat} {σ : xw_M} {pc : Nat} {ls : Array Slot} {rest : List Value}
theorem xs_len (X : xr_X p s m args c cc nL RX6 D cy xl_A q) (hG : xs_G ak av (xw_A xl_A q s.heap.size) s s.heap) (hw : xr_H D cy xl_A q s σ H locs) (hls : ls.size = nL) (hR : xr_Rm R 1 20 1) (hcat : (rest.map fun v => v.category).sum ≤ 8) (hd : decode cc pc = .ok (.invokevirtual 65, 3)) (hcs : cells ≤ R.cells ∧ slots ≤ R.slots)
    (kk : ∀ H1 locs1, xr_H D cy xl_A q s σ H1 locs1 → W p l e R s m args below meth c H1 locs1 cells slots Q (F0 m (pc + 3) ls (.int 128 :: rest))) : W p l e R s m args below meth c H locs cells slots Q (F0 m pc ls (.ref ak :: rest)) := by
  refine xr_i hw (xs_runV (As := []) (rest := rest) X hG hw (xc_J0_length_8abf5 l D cy q ak av σ (Z := fun r τ => r = 128 ∧ σ = τ) ⟨rfl, rfl⟩ _) xm_J0_length_8abf5 xt_2_201 xt_2_202 xt_2_203 hR (xs_rec hG hw) rfl rfl hls hcat hd hcs) (fun r σ1 H locs hB hw => ?_)
  obtain ⟨rfl, rfl⟩ := hB
  exact kk H locs hw
theorem xs_chr {i : Int32} (X : xr_X p s m args c cc nL RX6 D cy xl_A q) (hG : xs_G ak av (xw_A xl_A q s.heap.size) s s.heap) (hw : xr_H D cy xl_A q s σ H locs) (hi : vp_in i 128) (hls : ls.size = nL) (hR : xr_Rm R 3 64 2) (hcat : (rest.map fun v => v.category).sum ≤ 8) (hd : decode cc pc = .ok (.invokevirtual 74, 3)) (hcs : cells ≤ R.cells ∧ slots ≤ R.slots)
    (kk : ∀ H1 locs1, xr_H D cy xl_A q s σ H1 locs1 → W p l e R s m args below meth c H1 locs1 cells slots Q (F0 m (pc + 3) ls (.int (xs_ch i) :: rest))) : W p l e R s m args below meth c H locs cells slots Q (F0 m pc ls (.int i :: .ref ak :: rest)) := by
  refine xr_i hw (xs_runV (As := [.int i]) (rest := rest) X hG hw (xc_J0_charAt_5068e l D cy q ak av σ i hi (Z := fun r τ => r = xs_ch i ∧ σ = τ) ⟨rfl, rfl⟩ _) xm_J0_charAt_5068e xt_2_215 xt_2_216 xt_2_217 hR (xs_rec hG hw) rfl rfl hls hcat hd hcs) (fun r σ1 H locs hB hw => ?_)
  obtain ⟨rfl, rfl⟩ := hB
  exact kk H locs hw
end XL
