theorem xi_X0 : Cond.instantiable "ShowRings$Club" 4 ∈ xw_T := xw_t1 236 (by decide +kernel) rfl
theorem xi_X1 : Cond.instantiable "ShowRings$Facts" 7 ∈ xw_T := xw_t1 207 (by decide +kernel) rfl
theorem xi_X2 : Cond.instantiable "ShowRings$Kennel" 13 ∈ xw_T := xw_t1 144 (by decide +kernel) rfl
theorem xi_X3 : Cond.instantiable "ShowRings$Parser" 5 ∈ xw_T := xw_t1 93 (by decide +kernel) rfl
theorem xi_X4 : Cond.instantiable "ShowRings$Planner" 10 ∈ xw_T := xw_t2 15 (by decide +kernel) rfl
theorem xi_X5 : Cond.instantiable "ShowRings$Results" 3 ∈ xw_T := xw_t2 68 (by decide +kernel) rfl
theorem xi_X6 : Cond.instantiable "ShowRings$Scanner" 5 ∈ xw_T := xw_t1 95 (by decide +kernel) rfl
theorem xi_X7 : Cond.instantiable "ShowRings$Show" 4 ∈ xw_T := xw_t2 85 (by decide +kernel) rfl
theorem xi_X8 : Cond.instantiable "ShowRings$Tape" 2 ∈ xw_T := xw_t1 30 (by decide +kernel) rfl
theorem xi_X9 : Cond.instantiable "ShowRings$Text" 11 ∈ xw_T := xw_t1 46 (by decide +kernel) rfl
theorem xi_X10 : Cond.instantiable "ShowRings$Timetable" 1 ∈ xw_T := xw_t2 21 (by decide +kernel) rfl
theorem xi_X11 : Cond.instantiable "ShowRings" 12 ∈ xw_T := xw_t1 22 (by decide +kernel) rfl
theorem xi_X12 : Cond.instantiable "ShowRingsModel" 77 ∈ xw_T := xw_t4 162 (by decide +kernel) rfl
def xn_pre (D : va_G) (cy : Nat → ClassId) (W0 : va_W) (sz : Nat) (U : State) : Prop := U.heap.size = sz ∧ va_P D vwCl W0 U.heap ∧ va_K D vwCl (xw_ty cy) U ∧ xw_N U ∧ va_AO "ShowRings$Show" U ∧ va_D (fun _ => True) W0
abbrev xn_X (p : Program) (s : State) (m : MethodId) (args : Array Value) (c : Code) (cc : ByteArray) (nL : Nat) (own : String) (D : va_G) (cy : Nat → ClassId) : Prop :=
  p.tables.exec = Jvm.exec ∧ c.code = cc ∧ c.maxLocals = nL ∧ s.vm.findClass own = some m.cls ∧ (∀ w ∈ xw_T, w.before args s = true) ∧ xw_N s ∧ va_K D vwCl (xw_ty cy) s ∧ va_AO "ShowRings$Show" s
def xn_C (l : Launch) (y : MethodName) (cc : ByteArray) (maxL : Nat) (rm : Room) (D : va_G) (cy : Nat → ClassId) (W0 : va_W) (As : List Value) (W1 : (Nat → Nat) → va_W) (mc ms : Nat) : Prop :=
  ∀ sz, Met l y (xr_ws y cc maxL none) rm (va_Pc As (xn_pre D cy W0 sz)) (va_Qv (fun _ : Nat → Nat => True) (fun u t => va_P D vwCl (W1 u) t.heap ∧ va_D (va_A W0 sz) (W1 u)) (va_A W0 sz)) mc ms (va_A W0 sz)
theorem xn_blind {D : va_G} {cy : Nat → ClassId} {W0 : va_W} {sz : Nat} {As : List Value} : FrameBlind (va_Pc As (xn_pre D cy W0 sz)) := by
  intro a U g mk h
  obtain ⟨h0, h1, h2, h3, h4, h5, h6⟩ := h
  exact ⟨h0, h1, h2, va_K.moved (u := U) (U := U.calling g mk a) (Vm.Alike.refl U.vm) h3, h4.same rfl, va_AO.moved (u := U) (U := U.calling g mk a) (Vm.Alike.refl U.vm) h5, h6⟩
theorem xn_C.of {l : Launch} {y : MethodName} {cc : ByteArray} {maxL : Nat} {fr lo mc ms : Nat} {D : va_G} {cy : Nat → ClassId} {W0 : va_W} {As : List Value} {W1 : (Nat → Nat) → va_W} (own : String) (ho : y.cls = own) (hyn : y.name = "<init>") (hy : plainName y.cls = true) (hlen : (lg_sl As).length ≤ maxL)
    (body : ∀ p e s m below meth c, xn_X p s m As.toArray c cc maxL own D cy → (∀ q, s.heap.size ≤ q → va_A W0 s.heap.size q) → va_P D vwCl W0 s.heap → va_D (va_A W0 s.heap.size) W0 → va_S (va_A W0 s.heap.size) s.heap s.heap [] → meth.sig.returnType = none → meth.locks = false → meth.name = "<init>" → ∀ ls, lv_has ls maxL (lv_args 0 As) → W p l e { frames := fr, cells := mc, slots := ms, locals := lo } s m As.toArray below meth c s.heap [] 0 0 (MQ below (va_Qv (fun _ : Nat → Nat => True) (fun u t => va_P D vwCl (W1 u) t.heap ∧ va_D (va_A W0 s.heap.size) (W1 u)) (va_A W0 s.heap.size)) As.toArray s mc ms (va_A W0 s.heap.size)) (F0 m 0 ls [])) :
    xn_C l y cc maxL { frames := fr, cells := mc, slots := ms, locals := lo } D cy W0 As W1 mc ms := by
  intro sz
  refine Met.ofW (cc := cc) (maxL := maxL) (ret := none) hy rfl ?_
  intro p e s m args below meth c s₁ B hml hv
  obtain ⟨rfl, hsz, hP, hK, hN, hAO, hD⟩ := hv
  have hts := atoms_spec (ws := xr_ws y cc maxL none) B.pre
  have hown : s.vm.findClass own = some m.cls := by rw [← ho]; exact findClass_of_methodNamed B.named
  have hin : meth.name = "<init>" := by rw [← hyn]; exact (name_of_methodNamed B.named B.method).1
  have hl := lv_entry As (n := maxL) hlen
  rw [lg_entry_eq]
  generalize (lg_sl As ++ List.replicate (maxL - (lg_sl As).length) Slot.unset).toArray = ls at hl ⊢
  subst hsz
  exact body p e s m below meth c ⟨B.exec, B.bytes, hml, hown, fun w h => hts w (List.mem_cons_of_mem _ h), hN, hK, hAO⟩ (fun q h => Or.inr h) hP hD.self va_S.rf B.returns B.notSynchronized hin ls hl
section XN
variable {p : Program} {l : Launch} {e : Env} {R : Room} {s : State} {m : MethodId} {args : Array Value} {below : List Frame} {meth : Method} {c : Code} {H : Heap} {locs : List Loc} {cells slots : Nat} {Q : State → Prop}
variable {cc : ByteArray} {nL : Nat} {own : String} {D : va_G} {cy : Nat → ClassId} {pc : Nat} {ls : Array Slot} {rest : List Value} {ws : va_W} {A : Nat → Prop}
theorem xn_obj (X : xn_X p s m args c cc nL own D cy) {idx a : Nat} (hl : Cond.methodLink own idx Lib.objectInit ∈ xw_T) (hls : ls.size = nL) (hd : decode cc pc = .ok (.invokespecial idx, 3)) (hf : 1 ≤ R.frames) (ho : (rest.map fun v => v.category).sum + 12 ≤ R.locals)
    (kk : W p l e R s m args below meth c H locs cells slots Q (F0 m (pc + 3) ls rest)) : W p l e R s m args below meth c H locs cells slots Q (F0 m pc ls (.ref a :: rest)) :=
  W.objInit X.1 X.2.1 X.2.2.2.1 (X.2.2.2.2.1 _ hl) (X.2.2.2.2.1 _ xt_1_27) (X.2.2.2.2.1 _ xt_1_28) rfl (by rw [X.2.2.1]; exact hls) rfl hd hf (by show 2 * 0 + _ + 12 ≤ _; omega) kk
theorem xn_newa (X : xn_X p s m args c cc nL own D cy) (hA : ∀ q, s.heap.size ≤ q → A q) (hP : va_P D vwCl ws H) (hD : va_D A ws) (hS : va_S A s.heap H locs) {atype : ArrayType} {ty : FieldType} (t : Nat) (hty : newarray.typeOf atype = ty) (harr : Cond.arrayClass ty ∈ xw_T) (ht : (xw_ty cy)[t]? = some (cy t, ty)) (hra : ∀ c1 c2, va_RA s c1 ty → va_RA s c2 ty → c1 = c2)
    {n : Int32} {N : Nat} {a0 : vp_A} (ha : ∀ cA : ClassId, vp_cell cA a0 = arrV cA N (fun _ => defaultValue ty)) (hn : ¬ n < 0) (hN : n.toNatClampNeg = N) (hbytes : N * componentBytes ty ≤ 536870912) (hcells : cells + 1 ≤ R.cells) (hslots : slots + N ≤ R.slots) (hd : decode cc pc = .ok (.newarray atype, 2))
    (kk : ∀ (q : Nat) (H1 : Heap), va_P D vwCl (ws ++ [(q, .inl (cy t, a0))]) H1 → va_D A (ws ++ [(q, .inl (cy t, a0))]) → va_S A s.heap H1 locs → W p l e R s m args below meth c H1 locs (cells + 1) (slots + N) Q (F0 m (pc + 2) ls (.ref q :: rest))) : W p l e R s m args below meth c H locs cells slots Q (F0 m pc ls (.int n :: rest)) := by
  subst hty
  refine va_newa X.1 X.2.1 (X.2.2.2.2.1 _ harr) rfl X.2.2.2.2.2.2.1 hP hD hS hA ha hn hN hbytes hcells hslots hd (fun q cA H1 hK1 hP hD hS => ?_)
  have h1 := (hK1.2 5 (cA, newarray.typeOf atype) (by simp [xw_ty])).2
  have h2 := (X.2.2.2.2.2.2.1.2 t _ ht).2
  obtain rfl := hra _ _ h1 h2
  exact kk q H1 hP hD hS
/-- a constructor's call: its object's cell k of the world goes to it, and comes back with what it made -/
theorem xn_call {W1 : (Nat → Nat) → va_W} {st0 : List Value} {a : Array Value} {mc ms : Nat} {b : Nat} {x : va_E} (hA : ∀ q, s.heap.size ≤ q → A q) (hP : va_P D vwCl ws H) (hD : va_D A ws) (hS : va_S A s.heap H locs) (k : Nat) (hk : ws[k]? = some (b, x))
    (hr : va_Run p l e R s m args below meth c H locs cells slots mc ms (F0 m pc ls st0) rest (va_Qv (fun _ : Nat → Nat => True) (fun u t => va_P D vwCl (W1 u) t.heap ∧ va_D (va_A [(b, x)] H.size) (W1 u)) (va_A [(b, x)] H.size) a) (va_A [(b, x)] H.size))
    (isR : List Nat) {wr : va_W} (hR : isR.map (fun i => ws[i]?) = wr.map some) (hn : va_nd isR = true) (hdis : ∀ i ∈ isR, i ∉ [k])
    (kk : ∀ (u : Nat → Nat) (H1 : Heap) (locs1 : List Loc), va_P D vwCl (wr ++ W1 u) H1 → va_D A (wr ++ W1 u) → va_S A s.heap H1 locs1 → W p l e R s m args below meth c H1 locs1 (cells + mc) (slots + ms) Q (F0 m (pc + 3) ls rest)) : W p l e R s m args below meth c H locs cells slots Q (F0 m pc ls st0) := by
  have hFc := va_free (wc := [(b, x)]) hD hS hA [k] (by simp [hk])
  refine va_callv hr hS (fun q _ h => hFc q h) hFc (fun u t H1 locs1 ht _ _ hB _ hk1 hS => ?_)
  obtain ⟨hP1, hD1⟩ := hB
  rw [ht] at hP1
  obtain ⟨hP, hD⟩ := va_join (wr := wr) (w1 := W1 u) hP hD [k] isR (by simp [hk]) hR hn hdis hk1 hFc hP1 hD1
  exact kk u H1 locs1 hP hD hS
theorem xn_preU {As : List Value} {W0 : va_W} (X : xn_X p s m args c cc nL own D cy) (hP0 : va_P D vwCl W0 H) (hD0 : va_D (fun _ => True) W0) : ∀ U : State, U.heap = H → s.WarmedH U.vm → va_Pc As (xn_pre D cy W0 H.size) As.toArray U := by
  intro U hU hW
  exact ⟨rfl, by rw [hU], by rw [hU]; exact hP0, va_K.moved hW.alike X.2.2.2.2.2.2.1, X.2.2.2.2.2.1.warm hW, X.2.2.2.2.2.2.2.moved hW.alike, hD0⟩
theorem xn_run {y : MethodName} {bytes : ByteArray} {maxL n idx fr lo mc ms : Nat} {As st0 : List Value} {b : Nat} {x : va_E} {W1 : (Nat → Nat) → va_W} (X : xn_X p s m args c cc nL own D cy) (hP : va_P D vwCl ws H) (k : Nat) (hk : ws[k]? = some (b, x))
    (hM : xn_C l y bytes maxL { frames := fr, cells := mc, slots := ms, locals := lo } D cy [(b, x)] (.ref b :: As) W1 mc ms) (hm : xr_MW y bytes maxL none n) (hi : Cond.instanceMethod y ∈ xw_T) (hy : y.name = "<init>") (hl : Cond.methodLink own idx y ∈ xw_T ∨ va_Nw (.methodLinkNest own idx y "ShowRings") s) (hR : xr_Rm R fr lo maxL)
    (hn : As.length = n) (hst : st0 = As.reverse ++ .ref b :: rest) (hls : ls.size = nL) (hcat : (rest.map fun v => v.category).sum ≤ 8) (hd : decode cc pc = .ok (.invokespecial idx, 3)) (hcs : cells + mc ≤ R.cells ∧ slots + ms ≤ R.slots) :
    va_Run p l e R s m args below meth c H locs cells slots mc ms (F0 m pc ls st0) rest (va_Qv (fun _ : Nat → Nat => True) (fun u t => va_P D vwCl (W1 u) t.heap ∧ va_D (va_A [(b, x)] H.size) (W1 u)) (va_A [(b, x)] H.size) (Value.ref b :: As).toArray) (va_A [(b, x)] H.size) := by
  have hP0 : va_P D vwCl [(b, x)] H := hP.sub [k] (by simp [hk])
  have hD0 : va_D (fun _ => True) [(b, x)] := ⟨fun i j p q hp hq _ => by
    have h1 := (List.getElem?_eq_some_iff.mp hp).1
    have h2 := (List.getElem?_eq_some_iff.mp hq).1
    simp at h1 h2
    omega, fun _ _ _ => trivial⟩
  rcases hl with h | h
  · exact va_runI (As := As) (rest := rest) ⟨X.1, X.2.1, X.2.2.1, X.2.2.2.1, X.2.2.2.2.1⟩ (hM H.size) ⟨callB_of n X.2.2.2.2.1 (xr_GI hm) rfl rfl rfl (X.2.2.2.2.1 _ hm.2.1) (X.2.2.2.2.1 _ h) ⟨hm.2.2.1, hm.2.2.2.1, hm.2.2.2.2⟩ hR, hy, X.2.2.2.2.1 _ hi⟩ ⟨xn_blind, xn_preU X hP0 hD0⟩ rfl hn hls hst (lv_room hcat) hd hcs
  · exact va_runIN (As := As) (rest := rest) ⟨X.1, X.2.1, X.2.2.1, X.2.2.2.1, X.2.2.2.2.1⟩ (hM H.size) ⟨va_cnB n X.2.2.2.2.1 (xr_GI hm) rfl rfl rfl h (X.2.2.2.2.1 _ hm.2.1) ⟨hm.2.2.1, hm.2.2.2.1, hm.2.2.2.2⟩ hR, hy, X.2.2.2.2.1 _ hi⟩ ⟨xn_blind, xn_preU X hP0 hD0⟩ rfl hn hls hst (lv_room hcat) hd hcs
theorem xn_ret {W0 : va_W} {W1 : (Nat → Nat) → va_W} {mc ms : Nat} (u : Nat → Nat) (X : xn_X p s m args c cc nL own D cy) (hr : meth.sig.returnType = none) (hk : meth.locks = false) (hP : va_P D vwCl (W1 u) H) (hD : va_D (va_A W0 s.heap.size) (W1 u)) (hS : va_S (va_A W0 s.heap.size) s.heap H locs) (hc : cells ≤ mc) (hs : slots ≤ ms) (hd : decode cc pc = .ok (.return_, 1)) :
    W p l e R s m args below meth c H locs cells slots (MQ below (va_Qv (fun _ : Nat → Nat => True) (fun u t => va_P D vwCl (W1 u) t.heap ∧ va_D (va_A W0 s.heap.size) (W1 u)) (va_A W0 s.heap.size)) args s mc ms (va_A W0 s.heap.size)) (F0 m pc ls []) := by
  refine W.widen hc hs ?_
  exact W.vret X.1 X.2.1 hr (fun t ht hW => ⟨⟨u, rfl, trivial, by rw [ht]; exact hP, hD⟩, hS.F ht⟩) hS.2.2 hd hk
end XN
set_option maxRecDepth 100000 in
set_option maxHeartbeats 4000000 in
theorem xn_Tape (l : Launch) (D : va_G) (cy : Nat → ClassId) (h0 : Nat)  : xn_C l yX8_init cX8_init 1 { frames := 1, cells := 1, slots := 2000, locals := 20 } D cy [(h0, .inr (8, [.null, .int 0]))] [.ref h0] (fun u => [(h0, .inr (8, [.ref (u 0), .int (0 : Int32)])), ((u 0), .inl (cy 0, 2000, .inl (fun _ => 0)))]) 1 2000 := by
  refine xn_C.of RX8 rfl rfl (by decide) (Nat.le_of_ble_eq_true rfl) (fun p e s m below meth c X hA hP hD hS hr hk hin ls hl => ?_)
  have hx := X.1
  have hb := X.2.1
  have hown := X.2.2.2.1
  have hts := X.2.2.2.2.1
  have hK := X.2.2.2.2.2.2.1
  have hl : lv_has ls 1 [(0, .ref h0)] := hl
  generalize hAe : va_A [(h0, .inr (8, [.null, .int 0]))] s.heap.size = A at hA hD hS ⊢
  refine lv_aload_n hx hb dX8_init_0 rfl (lv_at hl 0 rfl) ?_
  refine xn_obj X xt_1_34 hl.1 dX8_init_1 (Nat.le_of_ble_eq_true rfl) (Nat.le_of_ble_eq_true rfl) ?_
  refine lv_aload_n hx hb dX8_init_4 rfl (lv_at hl 0 rfl) ?_
  refine lv_sipush (v := (2000 : Int32)) hx hb dX8_init_5 (by decide) ?_
  refine xn_newa X hA hP hD hS (ty := .byte) (a0 := (2000, .inl (fun _ => 0))) (N := 2000) 0 rfl xt_1_44 rfl (fun _ _ h1 h2 => Option.some.inj (h1.symm.trans h2)) (fun _ => rfl) (by decide) (by decide) (by decide) (Nat.le_of_ble_eq_true rfl) (Nat.le_of_ble_eq_true rfl) dX8_init_8 (fun q1 H hP hD hS => ?_)
  have hP : va_P D vwCl [(h0, .inr (8, [.null, .int 0])), (q1, .inl (cy 0, 2000, .inl (fun _ => 0)))] H := hP
  have hD : va_D A [(h0, .inr (8, [.null, .int 0])), (q1, .inl (cy 0, 2000, .inl (fun _ => 0)))] := hD
  refine va_putF (D := D) (ci := 8) (v := .ref q1) (ty := (.array .byte)) (C := RX8) (T := TX8) (N := 2) hx hb hts xt_inX8 tyX8 tyX8_ok nmX8 hown hK hP hD hS 0 rfl rfl 0 (by decide) (hts _ xt_1_35) (fun _ h9 => h9) rfl hin rfl (by decide +kernel) rfl rfl (Nat.le_of_ble_eq_true rfl) dX8_init_10 (fun H locs hP hD hS => ?_)
  have hP : va_P D vwCl [(h0, .inr (8, [.ref q1, .int 0])), (q1, .inl (cy 0, 2000, .inl (fun _ => 0)))] H := hP
  have hD : va_D A [(h0, .inr (8, [.ref q1, .int 0])), (q1, .inl (cy 0, 2000, .inl (fun _ => 0)))] := hD
  refine lv_aload_n hx hb dX8_init_13 rfl (lv_at hl 0 rfl) ?_
  refine lv_iconst (v := (0 : Int32)) hx hb dX8_init_14 (by decide) ?_
  refine va_put (D := D) (ci := 8) (v := .int (0 : Int32)) (ty := .int) (C := RX8) (T := TX8) (N := 2) hx hb hts xt_inX8 tyX8 tyX8_ok nmX8 hown hK hP hD hS 0 rfl rfl 1 (by decide) (hts _ xt_1_36) (fun _ h9 => h9) rfl (by decide +kernel) rfl rfl (Nat.le_of_ble_eq_true rfl) dX8_init_15 (fun H locs hP hD hS => ?_)
  have hP : va_P D vwCl [(h0, .inr (8, [.ref q1, .int (0 : Int32)])), (q1, .inl (cy 0, 2000, .inl (fun _ => 0)))] H := hP
  have hD : va_D A [(h0, .inr (8, [.ref q1, .int (0 : Int32)])), (q1, .inl (cy 0, 2000, .inl (fun _ => 0)))] := hD
  subst hAe
  exact xn_ret (fun k => [q1].getD k 0) X hr hk hP hD hS (Nat.le_of_ble_eq_true rfl) (Nat.le_of_ble_eq_true rfl) dX8_init_18
set_option maxRecDepth 100000 in
set_option maxHeartbeats 4000000 in
theorem xn_Text (l : Launch) (D : va_G) (cy : Nat → ClassId) (h0 : Nat)  : xn_C l yX9_init cX9_init 1 { frames := 1, cells := 9, slots := 1296, locals := 20 } D cy [(h0, .inr (9, [.null, .null, .null, .null, .null, .null, .null, .null, .null, .int 0, .int 0]))] [.ref h0] (fun u => [(h0, .inr (9, [.ref (u 0), .ref (u 1), .ref (u 2), .ref (u 3), .ref (u 4), .ref (u 5), .ref (u 6), .ref (u 7), .ref (u 8), .int (0 : Int32), .int (0 : Int32)])), ((u 0), .inl (cy 1, 16, .inl (fun _ => 0))), ((u 1), .inl (cy 1, 16, .inl (fun _ => 0))), ((u 2), .inl (cy 1, 16, .inl (fun _ => 0))), ((u 3), .inl (cy 1, 16, .inl (fun _ => 0))), ((u 4), .inl (cy 1, 16, .inl (fun _ => 0))), ((u 5), .inl (cy 1, 16, .inl (fun _ => 0))), ((u 6), .inl (cy 1, 400, .inl (fun _ => 0))), ((u 7), .inl (cy 1, 400, .inl (fun _ => 0))), ((u 8), .inl (cy 1, 400, .inl (fun _ => 0)))]) 9 1296 := by
  refine xn_C.of RX9 rfl rfl (by decide) (Nat.le_of_ble_eq_true rfl) (fun p e s m below meth c X hA hP hD hS hr hk hin ls hl => ?_)
  have hx := X.1
  have hb := X.2.1
  have hown := X.2.2.2.1
  have hts := X.2.2.2.2.1
  have hK := X.2.2.2.2.2.2.1
  have hl : lv_has ls 1 [(0, .ref h0)] := hl
  generalize hAe : va_A [(h0, .inr (9, [.null, .null, .null, .null, .null, .null, .null, .null, .null, .int 0, .int 0]))] s.heap.size = A at hA hD hS ⊢
  refine lv_aload_n hx hb dX9_init_0 rfl (lv_at hl 0 rfl) ?_
  refine xn_obj X xt_1_50 hl.1 dX9_init_1 (Nat.le_of_ble_eq_true rfl) (Nat.le_of_ble_eq_true rfl) ?_
  refine lv_aload_n hx hb dX9_init_4 rfl (lv_at hl 0 rfl) ?_
  refine lv_bipush (v := (16 : Int32)) hx hb dX9_init_5 (by decide) ?_
  refine xn_newa X hA hP hD hS (ty := .int) (a0 := (16, .inl (fun _ => 0))) (N := 16) 1 rfl xt_1_91 rfl (fun _ _ h1 h2 => Option.some.inj (h1.symm.trans h2)) (fun _ => rfl) (by decide) (by decide) (by decide) (Nat.le_of_ble_eq_true rfl) (Nat.le_of_ble_eq_true rfl) dX9_init_7 (fun q1 H hP hD hS => ?_)
  have hP : va_P D vwCl [(h0, .inr (9, [.null, .null, .null, .null, .null, .null, .null, .null, .null, .int 0, .int 0])), (q1, .inl (cy 1, 16, .inl (fun _ => 0)))] H := hP
  have hD : va_D A [(h0, .inr (9, [.null, .null, .null, .null, .null, .null, .null, .null, .null, .int 0, .int 0])), (q1, .inl (cy 1, 16, .inl (fun _ => 0)))] := hD
  refine va_putF (D := D) (ci := 9) (v := .ref q1) (ty := (.array .int)) (C := RX9) (T := TX9) (N := 11) hx hb hts xt_inX9 tyX9 tyX9_ok nmX9 hown hK hP hD hS 0 rfl rfl 0 (by decide) (hts _ xt_1_51) (fun _ h9 => h9) rfl hin rfl (by decide +kernel) rfl rfl (Nat.le_of_ble_eq_true rfl) dX9_init_9 (fun H locs hP hD hS => ?_)
  have hP : va_P D vwCl [(h0, .inr (9, [.ref q1, .null, .null, .null, .null, .null, .null, .null, .null, .int 0, .int 0])), (q1, .inl (cy 1, 16, .inl (fun _ => 0)))] H := hP
  have hD : va_D A [(h0, .inr (9, [.ref q1, .null, .null, .null, .null, .null, .null, .null, .null, .int 0, .int 0])), (q1, .inl (cy 1, 16, .inl (fun _ => 0)))] := hD
  refine lv_aload_n hx hb dX9_init_12 rfl (lv_at hl 0 rfl) ?_
  refine lv_bipush (v := (16 : Int32)) hx hb dX9_init_13 (by decide) ?_
  refine xn_newa X hA hP hD hS (ty := .int) (a0 := (16, .inl (fun _ => 0))) (N := 16) 1 rfl xt_1_91 rfl (fun _ _ h1 h2 => Option.some.inj (h1.symm.trans h2)) (fun _ => rfl) (by decide) (by decide) (by decide) (Nat.le_of_ble_eq_true rfl) (Nat.le_of_ble_eq_true rfl) dX9_init_15 (fun q2 H hP hD hS => ?_)
  have hP : va_P D vwCl [(h0, .inr (9, [.ref q1, .null, .null, .null, .null, .null, .null, .null, .null, .int 0, .int 0])), (q1, .inl (cy 1, 16, .inl (fun _ => 0))), (q2, .inl (cy 1, 16, .inl (fun _ => 0)))] H := hP
  have hD : va_D A [(h0, .inr (9, [.ref q1, .null, .null, .null, .null, .null, .null, .null, .null, .int 0, .int 0])), (q1, .inl (cy 1, 16, .inl (fun _ => 0))), (q2, .inl (cy 1, 16, .inl (fun _ => 0)))] := hD
  refine va_putF (D := D) (ci := 9) (v := .ref q2) (ty := (.array .int)) (C := RX9) (T := TX9) (N := 11) hx hb hts xt_inX9 tyX9 tyX9_ok nmX9 hown hK hP hD hS 0 rfl rfl 1 (by decide) (hts _ xt_1_52) (fun _ h9 => h9) rfl hin rfl (by decide +kernel) rfl rfl (Nat.le_of_ble_eq_true rfl) dX9_init_17 (fun H locs hP hD hS => ?_)
  have hP : va_P D vwCl [(h0, .inr (9, [.ref q1, .ref q2, .null, .null, .null, .null, .null, .null, .null, .int 0, .int 0])), (q1, .inl (cy 1, 16, .inl (fun _ => 0))), (q2, .inl (cy 1, 16, .inl (fun _ => 0)))] H := hP
  have hD : va_D A [(h0, .inr (9, [.ref q1, .ref q2, .null, .null, .null, .null, .null, .null, .null, .int 0, .int 0])), (q1, .inl (cy 1, 16, .inl (fun _ => 0))), (q2, .inl (cy 1, 16, .inl (fun _ => 0)))] := hD
  refine lv_aload_n hx hb dX9_init_20 rfl (lv_at hl 0 rfl) ?_
  refine lv_bipush (v := (16 : Int32)) hx hb dX9_init_21 (by decide) ?_
  refine xn_newa X hA hP hD hS (ty := .int) (a0 := (16, .inl (fun _ => 0))) (N := 16) 1 rfl xt_1_91 rfl (fun _ _ h1 h2 => Option.some.inj (h1.symm.trans h2)) (fun _ => rfl) (by decide) (by decide) (by decide) (Nat.le_of_ble_eq_true rfl) (Nat.le_of_ble_eq_true rfl) dX9_init_23 (fun q3 H hP hD hS => ?_)
  have hP : va_P D vwCl [(h0, .inr (9, [.ref q1, .ref q2, .null, .null, .null, .null, .null, .null, .null, .int 0, .int 0])), (q1, .inl (cy 1, 16, .inl (fun _ => 0))), (q2, .inl (cy 1, 16, .inl (fun _ => 0))), (q3, .inl (cy 1, 16, .inl (fun _ => 0)))] H := hP
  have hD : va_D A [(h0, .inr (9, [.ref q1, .ref q2, .null, .null, .null, .null, .null, .null, .null, .int 0, .int 0])), (q1, .inl (cy 1, 16, .inl (fun _ => 0))), (q2, .inl (cy 1, 16, .inl (fun _ => 0))), (q3, .inl (cy 1, 16, .inl (fun _ => 0)))] := hD
  refine va_putF (D := D) (ci := 9) (v := .ref q3) (ty := (.array .int)) (C := RX9) (T := TX9) (N := 11) hx hb hts xt_inX9 tyX9 tyX9_ok nmX9 hown hK hP hD hS 0 rfl rfl 2 (by decide) (hts _ xt_1_55) (fun _ h9 => h9) rfl hin rfl (by decide +kernel) rfl rfl (Nat.le_of_ble_eq_true rfl) dX9_init_25 (fun H locs hP hD hS => ?_)
  have hP : va_P D vwCl [(h0, .inr (9, [.ref q1, .ref q2, .ref q3, .null, .null, .null, .null, .null, .null, .int 0, .int 0])), (q1, .inl (cy 1, 16, .inl (fun _ => 0))), (q2, .inl (cy 1, 16, .inl (fun _ => 0))), (q3, .inl (cy 1, 16, .inl (fun _ => 0)))] H := hP
  have hD : va_D A [(h0, .inr (9, [.ref q1, .ref q2, .ref q3, .null, .null, .null, .null, .null, .null, .int 0, .int 0])), (q1, .inl (cy 1, 16, .inl (fun _ => 0))), (q2, .inl (cy 1, 16, .inl (fun _ => 0))), (q3, .inl (cy 1, 16, .inl (fun _ => 0)))] := hD
  refine lv_aload_n hx hb dX9_init_28 rfl (lv_at hl 0 rfl) ?_
  refine lv_bipush (v := (16 : Int32)) hx hb dX9_init_29 (by decide) ?_
  refine xn_newa X hA hP hD hS (ty := .int) (a0 := (16, .inl (fun _ => 0))) (N := 16) 1 rfl xt_1_91 rfl (fun _ _ h1 h2 => Option.some.inj (h1.symm.trans h2)) (fun _ => rfl) (by decide) (by decide) (by decide) (Nat.le_of_ble_eq_true rfl) (Nat.le_of_ble_eq_true rfl) dX9_init_31 (fun q4 H hP hD hS => ?_)
  have hP : va_P D vwCl [(h0, .inr (9, [.ref q1, .ref q2, .ref q3, .null, .null, .null, .null, .null, .null, .int 0, .int 0])), (q1, .inl (cy 1, 16, .inl (fun _ => 0))), (q2, .inl (cy 1, 16, .inl (fun _ => 0))), (q3, .inl (cy 1, 16, .inl (fun _ => 0))), (q4, .inl (cy 1, 16, .inl (fun _ => 0)))] H := hP
  have hD : va_D A [(h0, .inr (9, [.ref q1, .ref q2, .ref q3, .null, .null, .null, .null, .null, .null, .int 0, .int 0])), (q1, .inl (cy 1, 16, .inl (fun _ => 0))), (q2, .inl (cy 1, 16, .inl (fun _ => 0))), (q3, .inl (cy 1, 16, .inl (fun _ => 0))), (q4, .inl (cy 1, 16, .inl (fun _ => 0)))] := hD
  refine va_putF (D := D) (ci := 9) (v := .ref q4) (ty := (.array .int)) (C := RX9) (T := TX9) (N := 11) hx hb hts xt_inX9 tyX9 tyX9_ok nmX9 hown hK hP hD hS 0 rfl rfl 3 (by decide) (hts _ xt_1_57) (fun _ h9 => h9) rfl hin rfl (by decide +kernel) rfl rfl (Nat.le_of_ble_eq_true rfl) dX9_init_33 (fun H locs hP hD hS => ?_)
  have hP : va_P D vwCl [(h0, .inr (9, [.ref q1, .ref q2, .ref q3, .ref q4, .null, .null, .null, .null, .null, .int 0, .int 0])), (q1, .inl (cy 1, 16, .inl (fun _ => 0))), (q2, .inl (cy 1, 16, .inl (fun _ => 0))), (q3, .inl (cy 1, 16, .inl (fun _ => 0))), (q4, .inl (cy 1, 16, .inl (fun _ => 0)))] H := hP
  have hD : va_D A [(h0, .inr (9, [.ref q1, .ref q2, .ref q3, .ref q4, .null, .null, .null, .null, .null, .int 0, .int 0])), (q1, .inl (cy 1, 16, .inl (fun _ => 0))), (q2, .inl (cy 1, 16, .inl (fun _ => 0))), (q3, .inl (cy 1, 16, .inl (fun _ => 0))), (q4, .inl (cy 1, 16, .inl (fun _ => 0)))] := hD
  refine lv_aload_n hx hb dX9_init_36 rfl (lv_at hl 0 rfl) ?_
  refine lv_bipush (v := (16 : Int32)) hx hb dX9_init_37 (by decide) ?_
  refine xn_newa X hA hP hD hS (ty := .int) (a0 := (16, .inl (fun _ => 0))) (N := 16) 1 rfl xt_1_91 rfl (fun _ _ h1 h2 => Option.some.inj (h1.symm.trans h2)) (fun _ => rfl) (by decide) (by decide) (by decide) (Nat.le_of_ble_eq_true rfl) (Nat.le_of_ble_eq_true rfl) dX9_init_39 (fun q5 H hP hD hS => ?_)
  have hP : va_P D vwCl [(h0, .inr (9, [.ref q1, .ref q2, .ref q3, .ref q4, .null, .null, .null, .null, .null, .int 0, .int 0])), (q1, .inl (cy 1, 16, .inl (fun _ => 0))), (q2, .inl (cy 1, 16, .inl (fun _ => 0))), (q3, .inl (cy 1, 16, .inl (fun _ => 0))), (q4, .inl (cy 1, 16, .inl (fun _ => 0))), (q5, .inl (cy 1, 16, .inl (fun _ => 0)))] H := hP
  have hD : va_D A [(h0, .inr (9, [.ref q1, .ref q2, .ref q3, .ref q4, .null, .null, .null, .null, .null, .int 0, .int 0])), (q1, .inl (cy 1, 16, .inl (fun _ => 0))), (q2, .inl (cy 1, 16, .inl (fun _ => 0))), (q3, .inl (cy 1, 16, .inl (fun _ => 0))), (q4, .inl (cy 1, 16, .inl (fun _ => 0))), (q5, .inl (cy 1, 16, .inl (fun _ => 0)))] := hD
  refine va_putF (D := D) (ci := 9) (v := .ref q5) (ty := (.array .int)) (C := RX9) (T := TX9) (N := 11) hx hb hts xt_inX9 tyX9 tyX9_ok nmX9 hown hK hP hD hS 0 rfl rfl 4 (by decide) (hts _ xt_1_58) (fun _ h9 => h9) rfl hin rfl (by decide +kernel) rfl rfl (Nat.le_of_ble_eq_true rfl) dX9_init_41 (fun H locs hP hD hS => ?_)
  have hP : va_P D vwCl [(h0, .inr (9, [.ref q1, .ref q2, .ref q3, .ref q4, .ref q5, .null, .null, .null, .null, .int 0, .int 0])), (q1, .inl (cy 1, 16, .inl (fun _ => 0))), (q2, .inl (cy 1, 16, .inl (fun _ => 0))), (q3, .inl (cy 1, 16, .inl (fun _ => 0))), (q4, .inl (cy 1, 16, .inl (fun _ => 0))), (q5, .inl (cy 1, 16, .inl (fun _ => 0)))] H := hP
  have hD : va_D A [(h0, .inr (9, [.ref q1, .ref q2, .ref q3, .ref q4, .ref q5, .null, .null, .null, .null, .int 0, .int 0])), (q1, .inl (cy 1, 16, .inl (fun _ => 0))), (q2, .inl (cy 1, 16, .inl (fun _ => 0))), (q3, .inl (cy 1, 16, .inl (fun _ => 0))), (q4, .inl (cy 1, 16, .inl (fun _ => 0))), (q5, .inl (cy 1, 16, .inl (fun _ => 0)))] := hD
  refine lv_aload_n hx hb dX9_init_44 rfl (lv_at hl 0 rfl) ?_
  refine lv_bipush (v := (16 : Int32)) hx hb dX9_init_45 (by decide) ?_
  refine xn_newa X hA hP hD hS (ty := .int) (a0 := (16, .inl (fun _ => 0))) (N := 16) 1 rfl xt_1_91 rfl (fun _ _ h1 h2 => Option.some.inj (h1.symm.trans h2)) (fun _ => rfl) (by decide) (by decide) (by decide) (Nat.le_of_ble_eq_true rfl) (Nat.le_of_ble_eq_true rfl) dX9_init_47 (fun q6 H hP hD hS => ?_)
  have hP : va_P D vwCl [(h0, .inr (9, [.ref q1, .ref q2, .ref q3, .ref q4, .ref q5, .null, .null, .null, .null, .int 0, .int 0])), (q1, .inl (cy 1, 16, .inl (fun _ => 0))), (q2, .inl (cy 1, 16, .inl (fun _ => 0))), (q3, .inl (cy 1, 16, .inl (fun _ => 0))), (q4, .inl (cy 1, 16, .inl (fun _ => 0))), (q5, .inl (cy 1, 16, .inl (fun _ => 0))), (q6, .inl (cy 1, 16, .inl (fun _ => 0)))] H := hP
  have hD : va_D A [(h0, .inr (9, [.ref q1, .ref q2, .ref q3, .ref q4, .ref q5, .null, .null, .null, .null, .int 0, .int 0])), (q1, .inl (cy 1, 16, .inl (fun _ => 0))), (q2, .inl (cy 1, 16, .inl (fun _ => 0))), (q3, .inl (cy 1, 16, .inl (fun _ => 0))), (q4, .inl (cy 1, 16, .inl (fun _ => 0))), (q5, .inl (cy 1, 16, .inl (fun _ => 0))), (q6, .inl (cy 1, 16, .inl (fun _ => 0)))] := hD
  refine va_putF (D := D) (ci := 9) (v := .ref q6) (ty := (.array .int)) (C := RX9) (T := TX9) (N := 11) hx hb hts xt_inX9 tyX9 tyX9_ok nmX9 hown hK hP hD hS 0 rfl rfl 5 (by decide) (hts _ xt_1_59) (fun _ h9 => h9) rfl hin rfl (by decide +kernel) rfl rfl (Nat.le_of_ble_eq_true rfl) dX9_init_49 (fun H locs hP hD hS => ?_)
  have hP : va_P D vwCl [(h0, .inr (9, [.ref q1, .ref q2, .ref q3, .ref q4, .ref q5, .ref q6, .null, .null, .null, .int 0, .int 0])), (q1, .inl (cy 1, 16, .inl (fun _ => 0))), (q2, .inl (cy 1, 16, .inl (fun _ => 0))), (q3, .inl (cy 1, 16, .inl (fun _ => 0))), (q4, .inl (cy 1, 16, .inl (fun _ => 0))), (q5, .inl (cy 1, 16, .inl (fun _ => 0))), (q6, .inl (cy 1, 16, .inl (fun _ => 0)))] H := hP
  have hD : va_D A [(h0, .inr (9, [.ref q1, .ref q2, .ref q3, .ref q4, .ref q5, .ref q6, .null, .null, .null, .int 0, .int 0])), (q1, .inl (cy 1, 16, .inl (fun _ => 0))), (q2, .inl (cy 1, 16, .inl (fun _ => 0))), (q3, .inl (cy 1, 16, .inl (fun _ => 0))), (q4, .inl (cy 1, 16, .inl (fun _ => 0))), (q5, .inl (cy 1, 16, .inl (fun _ => 0))), (q6, .inl (cy 1, 16, .inl (fun _ => 0)))] := hD
  refine lv_aload_n hx hb dX9_init_52 rfl (lv_at hl 0 rfl) ?_
  refine lv_sipush (v := (400 : Int32)) hx hb dX9_init_53 (by decide) ?_
  refine xn_newa X hA hP hD hS (ty := .int) (a0 := (400, .inl (fun _ => 0))) (N := 400) 1 rfl xt_1_91 rfl (fun _ _ h1 h2 => Option.some.inj (h1.symm.trans h2)) (fun _ => rfl) (by decide) (by decide) (by decide) (Nat.le_of_ble_eq_true rfl) (Nat.le_of_ble_eq_true rfl) dX9_init_56 (fun q7 H hP hD hS => ?_)
  have hP : va_P D vwCl [(h0, .inr (9, [.ref q1, .ref q2, .ref q3, .ref q4, .ref q5, .ref q6, .null, .null, .null, .int 0, .int 0])), (q1, .inl (cy 1, 16, .inl (fun _ => 0))), (q2, .inl (cy 1, 16, .inl (fun _ => 0))), (q3, .inl (cy 1, 16, .inl (fun _ => 0))), (q4, .inl (cy 1, 16, .inl (fun _ => 0))), (q5, .inl (cy 1, 16, .inl (fun _ => 0))), (q6, .inl (cy 1, 16, .inl (fun _ => 0))), (q7, .inl (cy 1, 400, .inl (fun _ => 0)))] H := hP
  have hD : va_D A [(h0, .inr (9, [.ref q1, .ref q2, .ref q3, .ref q4, .ref q5, .ref q6, .null, .null, .null, .int 0, .int 0])), (q1, .inl (cy 1, 16, .inl (fun _ => 0))), (q2, .inl (cy 1, 16, .inl (fun _ => 0))), (q3, .inl (cy 1, 16, .inl (fun _ => 0))), (q4, .inl (cy 1, 16, .inl (fun _ => 0))), (q5, .inl (cy 1, 16, .inl (fun _ => 0))), (q6, .inl (cy 1, 16, .inl (fun _ => 0))), (q7, .inl (cy 1, 400, .inl (fun _ => 0)))] := hD
  refine va_putF (D := D) (ci := 9) (v := .ref q7) (ty := (.array .int)) (C := RX9) (T := TX9) (N := 11) hx hb hts xt_inX9 tyX9 tyX9_ok nmX9 hown hK hP hD hS 0 rfl rfl 6 (by decide) (hts _ xt_1_60) (fun _ h9 => h9) rfl hin rfl (by decide +kernel) rfl rfl (Nat.le_of_ble_eq_true rfl) dX9_init_58 (fun H locs hP hD hS => ?_)
  have hP : va_P D vwCl [(h0, .inr (9, [.ref q1, .ref q2, .ref q3, .ref q4, .ref q5, .ref q6, .ref q7, .null, .null, .int 0, .int 0])), (q1, .inl (cy 1, 16, .inl (fun _ => 0))), (q2, .inl (cy 1, 16, .inl (fun _ => 0))), (q3, .inl (cy 1, 16, .inl (fun _ => 0))), (q4, .inl (cy 1, 16, .inl (fun _ => 0))), (q5, .inl (cy 1, 16, .inl (fun _ => 0))), (q6, .inl (cy 1, 16, .inl (fun _ => 0))), (q7, .inl (cy 1, 400, .inl (fun _ => 0)))] H := hP
  have hD : va_D A [(h0, .inr (9, [.ref q1, .ref q2, .ref q3, .ref q4, .ref q5, .ref q6, .ref q7, .null, .null, .int 0, .int 0])), (q1, .inl (cy 1, 16, .inl (fun _ => 0))), (q2, .inl (cy 1, 16, .inl (fun _ => 0))), (q3, .inl (cy 1, 16, .inl (fun _ => 0))), (q4, .inl (cy 1, 16, .inl (fun _ => 0))), (q5, .inl (cy 1, 16, .inl (fun _ => 0))), (q6, .inl (cy 1, 16, .inl (fun _ => 0))), (q7, .inl (cy 1, 400, .inl (fun _ => 0)))] := hD
  refine lv_aload_n hx hb dX9_init_61 rfl (lv_at hl 0 rfl) ?_
  refine lv_sipush (v := (400 : Int32)) hx hb dX9_init_62 (by decide) ?_
  refine xn_newa X hA hP hD hS (ty := .int) (a0 := (400, .inl (fun _ => 0))) (N := 400) 1 rfl xt_1_91 rfl (fun _ _ h1 h2 => Option.some.inj (h1.symm.trans h2)) (fun _ => rfl) (by decide) (by decide) (by decide) (Nat.le_of_ble_eq_true rfl) (Nat.le_of_ble_eq_true rfl) dX9_init_65 (fun q8 H hP hD hS => ?_)
  have hP : va_P D vwCl [(h0, .inr (9, [.ref q1, .ref q2, .ref q3, .ref q4, .ref q5, .ref q6, .ref q7, .null, .null, .int 0, .int 0])), (q1, .inl (cy 1, 16, .inl (fun _ => 0))), (q2, .inl (cy 1, 16, .inl (fun _ => 0))), (q3, .inl (cy 1, 16, .inl (fun _ => 0))), (q4, .inl (cy 1, 16, .inl (fun _ => 0))), (q5, .inl (cy 1, 16, .inl (fun _ => 0))), (q6, .inl (cy 1, 16, .inl (fun _ => 0))), (q7, .inl (cy 1, 400, .inl (fun _ => 0))), (q8, .inl (cy 1, 400, .inl (fun _ => 0)))] H := hP
  have hD : va_D A [(h0, .inr (9, [.ref q1, .ref q2, .ref q3, .ref q4, .ref q5, .ref q6, .ref q7, .null, .null, .int 0, .int 0])), (q1, .inl (cy 1, 16, .inl (fun _ => 0))), (q2, .inl (cy 1, 16, .inl (fun _ => 0))), (q3, .inl (cy 1, 16, .inl (fun _ => 0))), (q4, .inl (cy 1, 16, .inl (fun _ => 0))), (q5, .inl (cy 1, 16, .inl (fun _ => 0))), (q6, .inl (cy 1, 16, .inl (fun _ => 0))), (q7, .inl (cy 1, 400, .inl (fun _ => 0))), (q8, .inl (cy 1, 400, .inl (fun _ => 0)))] := hD
  refine va_putF (D := D) (ci := 9) (v := .ref q8) (ty := (.array .int)) (C := RX9) (T := TX9) (N := 11) hx hb hts xt_inX9 tyX9 tyX9_ok nmX9 hown hK hP hD hS 0 rfl rfl 7 (by decide) (hts _ xt_1_61) (fun _ h9 => h9) rfl hin rfl (by decide +kernel) rfl rfl (Nat.le_of_ble_eq_true rfl) dX9_init_67 (fun H locs hP hD hS => ?_)
  have hP : va_P D vwCl [(h0, .inr (9, [.ref q1, .ref q2, .ref q3, .ref q4, .ref q5, .ref q6, .ref q7, .ref q8, .null, .int 0, .int 0])), (q1, .inl (cy 1, 16, .inl (fun _ => 0))), (q2, .inl (cy 1, 16, .inl (fun _ => 0))), (q3, .inl (cy 1, 16, .inl (fun _ => 0))), (q4, .inl (cy 1, 16, .inl (fun _ => 0))), (q5, .inl (cy 1, 16, .inl (fun _ => 0))), (q6, .inl (cy 1, 16, .inl (fun _ => 0))), (q7, .inl (cy 1, 400, .inl (fun _ => 0))), (q8, .inl (cy 1, 400, .inl (fun _ => 0)))] H := hP
  have hD : va_D A [(h0, .inr (9, [.ref q1, .ref q2, .ref q3, .ref q4, .ref q5, .ref q6, .ref q7, .ref q8, .null, .int 0, .int 0])), (q1, .inl (cy 1, 16, .inl (fun _ => 0))), (q2, .inl (cy 1, 16, .inl (fun _ => 0))), (q3, .inl (cy 1, 16, .inl (fun _ => 0))), (q4, .inl (cy 1, 16, .inl (fun _ => 0))), (q5, .inl (cy 1, 16, .inl (fun _ => 0))), (q6, .inl (cy 1, 16, .inl (fun _ => 0))), (q7, .inl (cy 1, 400, .inl (fun _ => 0))), (q8, .inl (cy 1, 400, .inl (fun _ => 0)))] := hD
  refine lv_aload_n hx hb dX9_init_70 rfl (lv_at hl 0 rfl) ?_
  refine lv_sipush (v := (400 : Int32)) hx hb dX9_init_71 (by decide) ?_
  refine xn_newa X hA hP hD hS (ty := .int) (a0 := (400, .inl (fun _ => 0))) (N := 400) 1 rfl xt_1_91 rfl (fun _ _ h1 h2 => Option.some.inj (h1.symm.trans h2)) (fun _ => rfl) (by decide) (by decide) (by decide) (Nat.le_of_ble_eq_true rfl) (Nat.le_of_ble_eq_true rfl) dX9_init_74 (fun q9 H hP hD hS => ?_)
  have hP : va_P D vwCl [(h0, .inr (9, [.ref q1, .ref q2, .ref q3, .ref q4, .ref q5, .ref q6, .ref q7, .ref q8, .null, .int 0, .int 0])), (q1, .inl (cy 1, 16, .inl (fun _ => 0))), (q2, .inl (cy 1, 16, .inl (fun _ => 0))), (q3, .inl (cy 1, 16, .inl (fun _ => 0))), (q4, .inl (cy 1, 16, .inl (fun _ => 0))), (q5, .inl (cy 1, 16, .inl (fun _ => 0))), (q6, .inl (cy 1, 16, .inl (fun _ => 0))), (q7, .inl (cy 1, 400, .inl (fun _ => 0))), (q8, .inl (cy 1, 400, .inl (fun _ => 0))), (q9, .inl (cy 1, 400, .inl (fun _ => 0)))] H := hP
  have hD : va_D A [(h0, .inr (9, [.ref q1, .ref q2, .ref q3, .ref q4, .ref q5, .ref q6, .ref q7, .ref q8, .null, .int 0, .int 0])), (q1, .inl (cy 1, 16, .inl (fun _ => 0))), (q2, .inl (cy 1, 16, .inl (fun _ => 0))), (q3, .inl (cy 1, 16, .inl (fun _ => 0))), (q4, .inl (cy 1, 16, .inl (fun _ => 0))), (q5, .inl (cy 1, 16, .inl (fun _ => 0))), (q6, .inl (cy 1, 16, .inl (fun _ => 0))), (q7, .inl (cy 1, 400, .inl (fun _ => 0))), (q8, .inl (cy 1, 400, .inl (fun _ => 0))), (q9, .inl (cy 1, 400, .inl (fun _ => 0)))] := hD
  refine va_putF (D := D) (ci := 9) (v := .ref q9) (ty := (.array .int)) (C := RX9) (T := TX9) (N := 11) hx hb hts xt_inX9 tyX9 tyX9_ok nmX9 hown hK hP hD hS 0 rfl rfl 8 (by decide) (hts _ xt_1_62) (fun _ h9 => h9) rfl hin rfl (by decide +kernel) rfl rfl (Nat.le_of_ble_eq_true rfl) dX9_init_76 (fun H locs hP hD hS => ?_)
  have hP : va_P D vwCl [(h0, .inr (9, [.ref q1, .ref q2, .ref q3, .ref q4, .ref q5, .ref q6, .ref q7, .ref q8, .ref q9, .int 0, .int 0])), (q1, .inl (cy 1, 16, .inl (fun _ => 0))), (q2, .inl (cy 1, 16, .inl (fun _ => 0))), (q3, .inl (cy 1, 16, .inl (fun _ => 0))), (q4, .inl (cy 1, 16, .inl (fun _ => 0))), (q5, .inl (cy 1, 16, .inl (fun _ => 0))), (q6, .inl (cy 1, 16, .inl (fun _ => 0))), (q7, .inl (cy 1, 400, .inl (fun _ => 0))), (q8, .inl (cy 1, 400, .inl (fun _ => 0))), (q9, .inl (cy 1, 400, .inl (fun _ => 0)))] H := hP
  have hD : va_D A [(h0, .inr (9, [.ref q1, .ref q2, .ref q3, .ref q4, .ref q5, .ref q6, .ref q7, .ref q8, .ref q9, .int 0, .int 0])), (q1, .inl (cy 1, 16, .inl (fun _ => 0))), (q2, .inl (cy 1, 16, .inl (fun _ => 0))), (q3, .inl (cy 1, 16, .inl (fun _ => 0))), (q4, .inl (cy 1, 16, .inl (fun _ => 0))), (q5, .inl (cy 1, 16, .inl (fun _ => 0))), (q6, .inl (cy 1, 16, .inl (fun _ => 0))), (q7, .inl (cy 1, 400, .inl (fun _ => 0))), (q8, .inl (cy 1, 400, .inl (fun _ => 0))), (q9, .inl (cy 1, 400, .inl (fun _ => 0)))] := hD
  refine lv_aload_n hx hb dX9_init_79 rfl (lv_at hl 0 rfl) ?_
  refine lv_iconst (v := (0 : Int32)) hx hb dX9_init_80 (by decide) ?_
  refine va_put (D := D) (ci := 9) (v := .int (0 : Int32)) (ty := .int) (C := RX9) (T := TX9) (N := 11) hx hb hts xt_inX9 tyX9 tyX9_ok nmX9 hown hK hP hD hS 0 rfl rfl 9 (by decide) (hts _ xt_1_63) (fun _ h9 => h9) rfl (by decide +kernel) rfl rfl (Nat.le_of_ble_eq_true rfl) dX9_init_81 (fun H locs hP hD hS => ?_)
  have hP : va_P D vwCl [(h0, .inr (9, [.ref q1, .ref q2, .ref q3, .ref q4, .ref q5, .ref q6, .ref q7, .ref q8, .ref q9, .int (0 : Int32), .int 0])), (q1, .inl (cy 1, 16, .inl (fun _ => 0))), (q2, .inl (cy 1, 16, .inl (fun _ => 0))), (q3, .inl (cy 1, 16, .inl (fun _ => 0))), (q4, .inl (cy 1, 16, .inl (fun _ => 0))), (q5, .inl (cy 1, 16, .inl (fun _ => 0))), (q6, .inl (cy 1, 16, .inl (fun _ => 0))), (q7, .inl (cy 1, 400, .inl (fun _ => 0))), (q8, .inl (cy 1, 400, .inl (fun _ => 0))), (q9, .inl (cy 1, 400, .inl (fun _ => 0)))] H := hP
  have hD : va_D A [(h0, .inr (9, [.ref q1, .ref q2, .ref q3, .ref q4, .ref q5, .ref q6, .ref q7, .ref q8, .ref q9, .int (0 : Int32), .int 0])), (q1, .inl (cy 1, 16, .inl (fun _ => 0))), (q2, .inl (cy 1, 16, .inl (fun _ => 0))), (q3, .inl (cy 1, 16, .inl (fun _ => 0))), (q4, .inl (cy 1, 16, .inl (fun _ => 0))), (q5, .inl (cy 1, 16, .inl (fun _ => 0))), (q6, .inl (cy 1, 16, .inl (fun _ => 0))), (q7, .inl (cy 1, 400, .inl (fun _ => 0))), (q8, .inl (cy 1, 400, .inl (fun _ => 0))), (q9, .inl (cy 1, 400, .inl (fun _ => 0)))] := hD
  refine lv_aload_n hx hb dX9_init_84 rfl (lv_at hl 0 rfl) ?_
  refine lv_iconst (v := (0 : Int32)) hx hb dX9_init_85 (by decide) ?_
  refine va_put (D := D) (ci := 9) (v := .int (0 : Int32)) (ty := .int) (C := RX9) (T := TX9) (N := 11) hx hb hts xt_inX9 tyX9 tyX9_ok nmX9 hown hK hP hD hS 0 rfl rfl 10 (by decide) (hts _ xt_1_66) (fun _ h9 => h9) rfl (by decide +kernel) rfl rfl (Nat.le_of_ble_eq_true rfl) dX9_init_86 (fun H locs hP hD hS => ?_)
  have hP : va_P D vwCl [(h0, .inr (9, [.ref q1, .ref q2, .ref q3, .ref q4, .ref q5, .ref q6, .ref q7, .ref q8, .ref q9, .int (0 : Int32), .int (0 : Int32)])), (q1, .inl (cy 1, 16, .inl (fun _ => 0))), (q2, .inl (cy 1, 16, .inl (fun _ => 0))), (q3, .inl (cy 1, 16, .inl (fun _ => 0))), (q4, .inl (cy 1, 16, .inl (fun _ => 0))), (q5, .inl (cy 1, 16, .inl (fun _ => 0))), (q6, .inl (cy 1, 16, .inl (fun _ => 0))), (q7, .inl (cy 1, 400, .inl (fun _ => 0))), (q8, .inl (cy 1, 400, .inl (fun _ => 0))), (q9, .inl (cy 1, 400, .inl (fun _ => 0)))] H := hP
  have hD : va_D A [(h0, .inr (9, [.ref q1, .ref q2, .ref q3, .ref q4, .ref q5, .ref q6, .ref q7, .ref q8, .ref q9, .int (0 : Int32), .int (0 : Int32)])), (q1, .inl (cy 1, 16, .inl (fun _ => 0))), (q2, .inl (cy 1, 16, .inl (fun _ => 0))), (q3, .inl (cy 1, 16, .inl (fun _ => 0))), (q4, .inl (cy 1, 16, .inl (fun _ => 0))), (q5, .inl (cy 1, 16, .inl (fun _ => 0))), (q6, .inl (cy 1, 16, .inl (fun _ => 0))), (q7, .inl (cy 1, 400, .inl (fun _ => 0))), (q8, .inl (cy 1, 400, .inl (fun _ => 0))), (q9, .inl (cy 1, 400, .inl (fun _ => 0)))] := hD
  subst hAe
  exact xn_ret (fun k => [q1, q2, q3, q4, q5, q6, q7, q8, q9].getD k 0) X hr hk hP hD hS (Nat.le_of_ble_eq_true rfl) (Nat.le_of_ble_eq_true rfl) dX9_init_89
set_option maxRecDepth 100000 in
set_option maxHeartbeats 4000000 in
theorem xn_Scanner (l : Launch) (D : va_G) (cy : Nat → ClassId) (h0 : Nat) (r1 : Nat) : xn_C l yX6_init cX6_init 2 { frames := 1, cells := 3, slots := 1203, locals := 20 } D cy [(h0, .inr (6, [.null, .null, .null, .null, .int 0]))] [.ref h0, .ref r1] (fun u => [(h0, .inr (6, [.ref r1, .ref (u 0), .ref (u 1), .ref (u 2), .int (0 : Int32)])), ((u 0), .inl (cy 1, 401, .inl (fun _ => 0))), ((u 1), .inl (cy 1, 401, .inl (fun _ => 0))), ((u 2), .inl (cy 1, 401, .inl (fun _ => 0)))]) 3 1203 := by
  refine xn_C.of RX6 rfl rfl (by decide) (Nat.le_of_ble_eq_true rfl) (fun p e s m below meth c X hA hP hD hS hr hk hin ls hl => ?_)
  have hx := X.1
  have hb := X.2.1
  have hown := X.2.2.2.1
  have hts := X.2.2.2.2.1
  have hK := X.2.2.2.2.2.2.1
  have hl : lv_has ls 2 [(0, .ref h0), (1, .ref r1)] := hl
  generalize hAe : va_A [(h0, .inr (6, [.null, .null, .null, .null, .int 0]))] s.heap.size = A at hA hD hS ⊢
  refine lv_aload_n hx hb dX6_init_0 rfl (lv_at hl 0 rfl) ?_
  refine xn_obj X xt_1_99 hl.1 dX6_init_1 (Nat.le_of_ble_eq_true rfl) (Nat.le_of_ble_eq_true rfl) ?_
  refine lv_aload_n hx hb dX6_init_4 rfl (lv_at hl 0 rfl) ?_
  refine lv_sipush (v := (401 : Int32)) hx hb dX6_init_5 (by decide) ?_
  refine xn_newa X hA hP hD hS (ty := .int) (a0 := (401, .inl (fun _ => 0))) (N := 401) 1 rfl xt_1_91 rfl (fun _ _ h1 h2 => Option.some.inj (h1.symm.trans h2)) (fun _ => rfl) (by decide) (by decide) (by decide) (Nat.le_of_ble_eq_true rfl) (Nat.le_of_ble_eq_true rfl) dX6_init_8 (fun q1 H hP hD hS => ?_)
  have hP : va_P D vwCl [(h0, .inr (6, [.null, .null, .null, .null, .int 0])), (q1, .inl (cy 1, 401, .inl (fun _ => 0)))] H := hP
  have hD : va_D A [(h0, .inr (6, [.null, .null, .null, .null, .int 0])), (q1, .inl (cy 1, 401, .inl (fun _ => 0)))] := hD
  refine va_putF (D := D) (ci := 6) (v := .ref q1) (ty := (.array .int)) (C := RX6) (T := TX6) (N := 5) hx hb hts xt_inX6 tyX6 tyX6_ok nmX6 hown hK hP hD hS 0 rfl rfl 1 (by decide) (hts _ xt_1_101) (fun _ h9 => h9) rfl hin rfl (by decide +kernel) rfl rfl (Nat.le_of_ble_eq_true rfl) dX6_init_10 (fun H locs hP hD hS => ?_)
  have hP : va_P D vwCl [(h0, .inr (6, [.null, .ref q1, .null, .null, .int 0])), (q1, .inl (cy 1, 401, .inl (fun _ => 0)))] H := hP
  have hD : va_D A [(h0, .inr (6, [.null, .ref q1, .null, .null, .int 0])), (q1, .inl (cy 1, 401, .inl (fun _ => 0)))] := hD
  refine lv_aload_n hx hb dX6_init_13 rfl (lv_at hl 0 rfl) ?_
  refine lv_sipush (v := (401 : Int32)) hx hb dX6_init_14 (by decide) ?_
  refine xn_newa X hA hP hD hS (ty := .int) (a0 := (401, .inl (fun _ => 0))) (N := 401) 1 rfl xt_1_91 rfl (fun _ _ h1 h2 => Option.some.inj (h1.symm.trans h2)) (fun _ => rfl) (by decide) (by decide) (by decide) (Nat.le_of_ble_eq_true rfl) (Nat.le_of_ble_eq_true rfl) dX6_init_17 (fun q2 H hP hD hS => ?_)
  have hP : va_P D vwCl [(h0, .inr (6, [.null, .ref q1, .null, .null, .int 0])), (q1, .inl (cy 1, 401, .inl (fun _ => 0))), (q2, .inl (cy 1, 401, .inl (fun _ => 0)))] H := hP
  have hD : va_D A [(h0, .inr (6, [.null, .ref q1, .null, .null, .int 0])), (q1, .inl (cy 1, 401, .inl (fun _ => 0))), (q2, .inl (cy 1, 401, .inl (fun _ => 0)))] := hD
  refine va_putF (D := D) (ci := 6) (v := .ref q2) (ty := (.array .int)) (C := RX6) (T := TX6) (N := 5) hx hb hts xt_inX6 tyX6 tyX6_ok nmX6 hown hK hP hD hS 0 rfl rfl 2 (by decide) (hts _ xt_1_103) (fun _ h9 => h9) rfl hin rfl (by decide +kernel) rfl rfl (Nat.le_of_ble_eq_true rfl) dX6_init_19 (fun H locs hP hD hS => ?_)
  have hP : va_P D vwCl [(h0, .inr (6, [.null, .ref q1, .ref q2, .null, .int 0])), (q1, .inl (cy 1, 401, .inl (fun _ => 0))), (q2, .inl (cy 1, 401, .inl (fun _ => 0)))] H := hP
  have hD : va_D A [(h0, .inr (6, [.null, .ref q1, .ref q2, .null, .int 0])), (q1, .inl (cy 1, 401, .inl (fun _ => 0))), (q2, .inl (cy 1, 401, .inl (fun _ => 0)))] := hD
  refine lv_aload_n hx hb dX6_init_22 rfl (lv_at hl 0 rfl) ?_
  refine lv_sipush (v := (401 : Int32)) hx hb dX6_init_23 (by decide) ?_
  refine xn_newa X hA hP hD hS (ty := .int) (a0 := (401, .inl (fun _ => 0))) (N := 401) 1 rfl xt_1_91 rfl (fun _ _ h1 h2 => Option.some.inj (h1.symm.trans h2)) (fun _ => rfl) (by decide) (by decide) (by decide) (Nat.le_of_ble_eq_true rfl) (Nat.le_of_ble_eq_true rfl) dX6_init_26 (fun q3 H hP hD hS => ?_)
  have hP : va_P D vwCl [(h0, .inr (6, [.null, .ref q1, .ref q2, .null, .int 0])), (q1, .inl (cy 1, 401, .inl (fun _ => 0))), (q2, .inl (cy 1, 401, .inl (fun _ => 0))), (q3, .inl (cy 1, 401, .inl (fun _ => 0)))] H := hP
  have hD : va_D A [(h0, .inr (6, [.null, .ref q1, .ref q2, .null, .int 0])), (q1, .inl (cy 1, 401, .inl (fun _ => 0))), (q2, .inl (cy 1, 401, .inl (fun _ => 0))), (q3, .inl (cy 1, 401, .inl (fun _ => 0)))] := hD
  refine va_putF (D := D) (ci := 6) (v := .ref q3) (ty := (.array .int)) (C := RX6) (T := TX6) (N := 5) hx hb hts xt_inX6 tyX6 tyX6_ok nmX6 hown hK hP hD hS 0 rfl rfl 3 (by decide) (hts _ xt_1_105) (fun _ h9 => h9) rfl hin rfl (by decide +kernel) rfl rfl (Nat.le_of_ble_eq_true rfl) dX6_init_28 (fun H locs hP hD hS => ?_)
  have hP : va_P D vwCl [(h0, .inr (6, [.null, .ref q1, .ref q2, .ref q3, .int 0])), (q1, .inl (cy 1, 401, .inl (fun _ => 0))), (q2, .inl (cy 1, 401, .inl (fun _ => 0))), (q3, .inl (cy 1, 401, .inl (fun _ => 0)))] H := hP
  have hD : va_D A [(h0, .inr (6, [.null, .ref q1, .ref q2, .ref q3, .int 0])), (q1, .inl (cy 1, 401, .inl (fun _ => 0))), (q2, .inl (cy 1, 401, .inl (fun _ => 0))), (q3, .inl (cy 1, 401, .inl (fun _ => 0)))] := hD
  refine lv_aload_n hx hb dX6_init_31 rfl (lv_at hl 0 rfl) ?_
  refine lv_iconst (v := (0 : Int32)) hx hb dX6_init_32 (by decide) ?_
  refine va_put (D := D) (ci := 6) (v := .int (0 : Int32)) (ty := .int) (C := RX6) (T := TX6) (N := 5) hx hb hts xt_inX6 tyX6 tyX6_ok nmX6 hown hK hP hD hS 0 rfl rfl 4 (by decide) (hts _ xt_1_107) (fun _ h9 => h9) rfl (by decide +kernel) rfl rfl (Nat.le_of_ble_eq_true rfl) dX6_init_33 (fun H locs hP hD hS => ?_)
  have hP : va_P D vwCl [(h0, .inr (6, [.null, .ref q1, .ref q2, .ref q3, .int (0 : Int32)])), (q1, .inl (cy 1, 401, .inl (fun _ => 0))), (q2, .inl (cy 1, 401, .inl (fun _ => 0))), (q3, .inl (cy 1, 401, .inl (fun _ => 0)))] H := hP
  have hD : va_D A [(h0, .inr (6, [.null, .ref q1, .ref q2, .ref q3, .int (0 : Int32)])), (q1, .inl (cy 1, 401, .inl (fun _ => 0))), (q2, .inl (cy 1, 401, .inl (fun _ => 0))), (q3, .inl (cy 1, 401, .inl (fun _ => 0)))] := hD
  refine lv_aload_n hx hb dX6_init_36 rfl (lv_at hl 0 rfl) ?_
  refine lv_aload_n hx hb dX6_init_37 rfl (lv_at hl 1 rfl) ?_
  refine va_putF (D := D) (ci := 6) (v := .ref r1) (ty := (.object "ShowRings$Tape")) (C := RX6) (T := TX6) (N := 5) hx hb hts xt_inX6 tyX6 tyX6_ok nmX6 hown hK hP hD hS 0 rfl rfl 0 (by decide) (hts _ xt_1_100) (fun _ h9 => h9) rfl hin rfl (by decide +kernel) rfl rfl (Nat.le_of_ble_eq_true rfl) dX6_init_38 (fun H locs hP hD hS => ?_)
  have hP : va_P D vwCl [(h0, .inr (6, [.ref r1, .ref q1, .ref q2, .ref q3, .int (0 : Int32)])), (q1, .inl (cy 1, 401, .inl (fun _ => 0))), (q2, .inl (cy 1, 401, .inl (fun _ => 0))), (q3, .inl (cy 1, 401, .inl (fun _ => 0)))] H := hP
  have hD : va_D A [(h0, .inr (6, [.ref r1, .ref q1, .ref q2, .ref q3, .int (0 : Int32)])), (q1, .inl (cy 1, 401, .inl (fun _ => 0))), (q2, .inl (cy 1, 401, .inl (fun _ => 0))), (q3, .inl (cy 1, 401, .inl (fun _ => 0)))] := hD
  subst hAe
  exact xn_ret (fun k => [q1, q2, q3].getD k 0) X hr hk hP hD hS (Nat.le_of_ble_eq_true rfl) (Nat.le_of_ble_eq_true rfl) dX6_init_41
set_option maxRecDepth 100000 in
set_option maxHeartbeats 4000000 in
theorem xn_Parser (l : Launch) (D : va_G) (cy : Nat → ClassId) (h0 : Nat) (r1 : Nat) (r2 : Nat) : xn_C l yX3_init cX3_init 3 { frames := 1, cells := 0, slots := 0, locals := 20 } D cy [(h0, .inr (3, [.null, .null, .int 0, .int 0, .int 0]))] [.ref h0, .ref r1, .ref r2] (fun u => [(h0, .inr (3, [.ref r1, .ref r2, .int (0 : Int32), .int (0 : Int32), .int (-1 : Int32)]))]) 0 0 := by
  refine xn_C.of RX3 rfl rfl (by decide) (Nat.le_of_ble_eq_true rfl) (fun p e s m below meth c X hA hP hD hS hr hk hin ls hl => ?_)
  have hx := X.1
  have hb := X.2.1
  have hown := X.2.2.2.1
  have hts := X.2.2.2.2.1
  have hK := X.2.2.2.2.2.2.1
  have hl : lv_has ls 3 [(0, .ref h0), (1, .ref r1), (2, .ref r2)] := hl
  generalize hAe : va_A [(h0, .inr (3, [.null, .null, .int 0, .int 0, .int 0]))] s.heap.size = A at hA hD hS ⊢
  refine lv_aload_n hx hb dX3_init_0 rfl (lv_at hl 0 rfl) ?_
  refine xn_obj X xt_1_123 hl.1 dX3_init_1 (Nat.le_of_ble_eq_true rfl) (Nat.le_of_ble_eq_true rfl) ?_
  refine lv_aload_n hx hb dX3_init_4 rfl (lv_at hl 0 rfl) ?_
  refine lv_iconst (v := (0 : Int32)) hx hb dX3_init_5 (by decide) ?_
  refine va_put (D := D) (ci := 3) (v := .int (0 : Int32)) (ty := .int) (C := RX3) (T := TX3) (N := 5) hx hb hts xt_inX3 tyX3 tyX3_ok nmX3 hown hK hP hD hS 0 rfl rfl 2 (by decide) (hts _ xt_1_127) (fun _ h9 => h9) rfl (by decide +kernel) rfl rfl (Nat.le_of_ble_eq_true rfl) dX3_init_6 (fun H locs hP hD hS => ?_)
  have hP : va_P D vwCl [(h0, .inr (3, [.null, .null, .int (0 : Int32), .int 0, .int 0]))] H := hP
  have hD : va_D A [(h0, .inr (3, [.null, .null, .int (0 : Int32), .int 0, .int 0]))] := hD
  refine lv_aload_n hx hb dX3_init_9 rfl (lv_at hl 0 rfl) ?_
  refine lv_iconst (v := (0 : Int32)) hx hb dX3_init_10 (by decide) ?_
  refine va_put (D := D) (ci := 3) (v := .int (0 : Int32)) (ty := .int) (C := RX3) (T := TX3) (N := 5) hx hb hts xt_inX3 tyX3 tyX3_ok nmX3 hown hK hP hD hS 0 rfl rfl 3 (by decide) (hts _ xt_1_128) (fun _ h9 => h9) rfl (by decide +kernel) rfl rfl (Nat.le_of_ble_eq_true rfl) dX3_init_11 (fun H locs hP hD hS => ?_)
  have hP : va_P D vwCl [(h0, .inr (3, [.null, .null, .int (0 : Int32), .int (0 : Int32), .int 0]))] H := hP
  have hD : va_D A [(h0, .inr (3, [.null, .null, .int (0 : Int32), .int (0 : Int32), .int 0]))] := hD
  refine lv_aload_n hx hb dX3_init_14 rfl (lv_at hl 0 rfl) ?_
  refine lv_iconst (v := (-1 : Int32)) hx hb dX3_init_15 (by decide) ?_
  refine va_put (D := D) (ci := 3) (v := .int (-1 : Int32)) (ty := .int) (C := RX3) (T := TX3) (N := 5) hx hb hts xt_inX3 tyX3 tyX3_ok nmX3 hown hK hP hD hS 0 rfl rfl 4 (by decide) (hts _ xt_1_130) (fun _ h9 => h9) rfl (by decide +kernel) rfl rfl (Nat.le_of_ble_eq_true rfl) dX3_init_16 (fun H locs hP hD hS => ?_)
  have hP : va_P D vwCl [(h0, .inr (3, [.null, .null, .int (0 : Int32), .int (0 : Int32), .int (-1 : Int32)]))] H := hP
  have hD : va_D A [(h0, .inr (3, [.null, .null, .int (0 : Int32), .int (0 : Int32), .int (-1 : Int32)]))] := hD
  refine lv_aload_n hx hb dX3_init_19 rfl (lv_at hl 0 rfl) ?_
  refine lv_aload_n hx hb dX3_init_20 rfl (lv_at hl 1 rfl) ?_
  refine va_putF (D := D) (ci := 3) (v := .ref r1) (ty := (.object "ShowRings$Scanner")) (C := RX3) (T := TX3) (N := 5) hx hb hts xt_inX3 tyX3 tyX3_ok nmX3 hown hK hP hD hS 0 rfl rfl 0 (by decide) (hts _ xt_1_124) (fun _ h9 => h9) rfl hin rfl (by decide +kernel) rfl rfl (Nat.le_of_ble_eq_true rfl) dX3_init_21 (fun H locs hP hD hS => ?_)
  have hP : va_P D vwCl [(h0, .inr (3, [.ref r1, .null, .int (0 : Int32), .int (0 : Int32), .int (-1 : Int32)]))] H := hP
  have hD : va_D A [(h0, .inr (3, [.ref r1, .null, .int (0 : Int32), .int (0 : Int32), .int (-1 : Int32)]))] := hD
  refine lv_aload_n hx hb dX3_init_24 rfl (lv_at hl 0 rfl) ?_
  refine lv_aload_n hx hb dX3_init_25 rfl (lv_at hl 2 rfl) ?_
  refine va_putF (D := D) (ci := 3) (v := .ref r2) (ty := (.object "ShowRings$Text")) (C := RX3) (T := TX3) (N := 5) hx hb hts xt_inX3 tyX3 tyX3_ok nmX3 hown hK hP hD hS 0 rfl rfl 1 (by decide) (hts _ xt_1_125) (fun _ h9 => h9) rfl hin rfl (by decide +kernel) rfl rfl (Nat.le_of_ble_eq_true rfl) dX3_init_26 (fun H locs hP hD hS => ?_)
  have hP : va_P D vwCl [(h0, .inr (3, [.ref r1, .ref r2, .int (0 : Int32), .int (0 : Int32), .int (-1 : Int32)]))] H := hP
  have hD : va_D A [(h0, .inr (3, [.ref r1, .ref r2, .int (0 : Int32), .int (0 : Int32), .int (-1 : Int32)]))] := hD
  subst hAe
  exact xn_ret (fun k => [].getD k 0) X hr hk hP hD hS (Nat.le_of_ble_eq_true rfl) (Nat.le_of_ble_eq_true rfl) dX3_init_29
set_option maxRecDepth 100000 in
set_option maxHeartbeats 4000000 in
theorem xn_Kennel (l : Launch) (D : va_G) (cy : Nat → ClassId) (h0 : Nat)  : xn_C l yX2_init cX2_init 1 { frames := 1, cells := 11, slots := 148, locals := 20 } D cy [(h0, .inr (2, [.null, .null, .null, .null, .null, .null, .null, .null, .null, .null, .null, .int 0, .int 0]))] [.ref h0] (fun u => [(h0, .inr (2, [.ref (u 0), .ref (u 1), .ref (u 2), .ref (u 3), .ref (u 4), .ref (u 5), .ref (u 6), .ref (u 7), .ref (u 8), .ref (u 9), .ref (u 10), .int (0 : Int32), .int (0 : Int32)])), ((u 0), .inl (cy 1, 12, .inl (fun _ => 0))), ((u 1), .inl (cy 1, 12, .inl (fun _ => 0))), ((u 2), .inl (cy 1, 6, .inl (fun _ => 0))), ((u 3), .inl (cy 1, 6, .inl (fun _ => 0))), ((u 4), .inl (cy 1, 6, .inl (fun _ => 0))), ((u 5), .inl (cy 1, 6, .inl (fun _ => 0))), ((u 6), .inl (cy 1, 20, .inl (fun _ => 0))), ((u 7), .inl (cy 1, 20, .inl (fun _ => 0))), ((u 8), .inl (cy 1, 20, .inl (fun _ => 0))), ((u 9), .inl (cy 1, 20, .inl (fun _ => 0))), ((u 10), .inl (cy 1, 20, .inl (fun _ => 0)))]) 11 148 := by
  refine xn_C.of RX2 rfl rfl (by decide) (Nat.le_of_ble_eq_true rfl) (fun p e s m below meth c X hA hP hD hS hr hk hin ls hl => ?_)
  have hx := X.1
  have hb := X.2.1
  have hown := X.2.2.2.1
  have hts := X.2.2.2.2.1
  have hK := X.2.2.2.2.2.2.1
  have hl : lv_has ls 1 [(0, .ref h0)] := hl
  generalize hAe : va_A [(h0, .inr (2, [.null, .null, .null, .null, .null, .null, .null, .null, .null, .null, .null, .int 0, .int 0]))] s.heap.size = A at hA hD hS ⊢
  refine lv_aload_n hx hb dX2_init_0 rfl (lv_at hl 0 rfl) ?_
  refine xn_obj X xt_1_148 hl.1 dX2_init_1 (Nat.le_of_ble_eq_true rfl) (Nat.le_of_ble_eq_true rfl) ?_
  refine lv_aload_n hx hb dX2_init_4 rfl (lv_at hl 0 rfl) ?_
  refine lv_bipush (v := (12 : Int32)) hx hb dX2_init_5 (by decide) ?_
  refine xn_newa X hA hP hD hS (ty := .int) (a0 := (12, .inl (fun _ => 0))) (N := 12) 1 rfl xt_1_91 rfl (fun _ _ h1 h2 => Option.some.inj (h1.symm.trans h2)) (fun _ => rfl) (by decide) (by decide) (by decide) (Nat.le_of_ble_eq_true rfl) (Nat.le_of_ble_eq_true rfl) dX2_init_7 (fun q1 H hP hD hS => ?_)
  have hP : va_P D vwCl [(h0, .inr (2, [.null, .null, .null, .null, .null, .null, .null, .null, .null, .null, .null, .int 0, .int 0])), (q1, .inl (cy 1, 12, .inl (fun _ => 0)))] H := hP
  have hD : va_D A [(h0, .inr (2, [.null, .null, .null, .null, .null, .null, .null, .null, .null, .null, .null, .int 0, .int 0])), (q1, .inl (cy 1, 12, .inl (fun _ => 0)))] := hD
  refine va_putF (D := D) (ci := 2) (v := .ref q1) (ty := (.array .int)) (C := RX2) (T := TX2) (N := 13) hx hb hts xt_inX2 tyX2 tyX2_ok nmX2 hown hK hP hD hS 0 rfl rfl 0 (by decide) (hts _ xt_1_149) (fun _ h9 => h9) rfl hin rfl (by decide +kernel) rfl rfl (Nat.le_of_ble_eq_true rfl) dX2_init_9 (fun H locs hP hD hS => ?_)
  have hP : va_P D vwCl [(h0, .inr (2, [.ref q1, .null, .null, .null, .null, .null, .null, .null, .null, .null, .null, .int 0, .int 0])), (q1, .inl (cy 1, 12, .inl (fun _ => 0)))] H := hP
  have hD : va_D A [(h0, .inr (2, [.ref q1, .null, .null, .null, .null, .null, .null, .null, .null, .null, .null, .int 0, .int 0])), (q1, .inl (cy 1, 12, .inl (fun _ => 0)))] := hD
  refine lv_aload_n hx hb dX2_init_12 rfl (lv_at hl 0 rfl) ?_
  refine lv_bipush (v := (12 : Int32)) hx hb dX2_init_13 (by decide) ?_
  refine xn_newa X hA hP hD hS (ty := .int) (a0 := (12, .inl (fun _ => 0))) (N := 12) 1 rfl xt_1_91 rfl (fun _ _ h1 h2 => Option.some.inj (h1.symm.trans h2)) (fun _ => rfl) (by decide) (by decide) (by decide) (Nat.le_of_ble_eq_true rfl) (Nat.le_of_ble_eq_true rfl) dX2_init_15 (fun q2 H hP hD hS => ?_)
  have hP : va_P D vwCl [(h0, .inr (2, [.ref q1, .null, .null, .null, .null, .null, .null, .null, .null, .null, .null, .int 0, .int 0])), (q1, .inl (cy 1, 12, .inl (fun _ => 0))), (q2, .inl (cy 1, 12, .inl (fun _ => 0)))] H := hP
  have hD : va_D A [(h0, .inr (2, [.ref q1, .null, .null, .null, .null, .null, .null, .null, .null, .null, .null, .int 0, .int 0])), (q1, .inl (cy 1, 12, .inl (fun _ => 0))), (q2, .inl (cy 1, 12, .inl (fun _ => 0)))] := hD
  refine va_putF (D := D) (ci := 2) (v := .ref q2) (ty := (.array .int)) (C := RX2) (T := TX2) (N := 13) hx hb hts xt_inX2 tyX2 tyX2_ok nmX2 hown hK hP hD hS 0 rfl rfl 1 (by decide) (hts _ xt_1_150) (fun _ h9 => h9) rfl hin rfl (by decide +kernel) rfl rfl (Nat.le_of_ble_eq_true rfl) dX2_init_17 (fun H locs hP hD hS => ?_)
  have hP : va_P D vwCl [(h0, .inr (2, [.ref q1, .ref q2, .null, .null, .null, .null, .null, .null, .null, .null, .null, .int 0, .int 0])), (q1, .inl (cy 1, 12, .inl (fun _ => 0))), (q2, .inl (cy 1, 12, .inl (fun _ => 0)))] H := hP
  have hD : va_D A [(h0, .inr (2, [.ref q1, .ref q2, .null, .null, .null, .null, .null, .null, .null, .null, .null, .int 0, .int 0])), (q1, .inl (cy 1, 12, .inl (fun _ => 0))), (q2, .inl (cy 1, 12, .inl (fun _ => 0)))] := hD
  refine lv_aload_n hx hb dX2_init_20 rfl (lv_at hl 0 rfl) ?_
  refine lv_bipush (v := (6 : Int32)) hx hb dX2_init_21 (by decide) ?_
  refine xn_newa X hA hP hD hS (ty := .int) (a0 := (6, .inl (fun _ => 0))) (N := 6) 1 rfl xt_1_91 rfl (fun _ _ h1 h2 => Option.some.inj (h1.symm.trans h2)) (fun _ => rfl) (by decide) (by decide) (by decide) (Nat.le_of_ble_eq_true rfl) (Nat.le_of_ble_eq_true rfl) dX2_init_23 (fun q3 H hP hD hS => ?_)
  have hP : va_P D vwCl [(h0, .inr (2, [.ref q1, .ref q2, .null, .null, .null, .null, .null, .null, .null, .null, .null, .int 0, .int 0])), (q1, .inl (cy 1, 12, .inl (fun _ => 0))), (q2, .inl (cy 1, 12, .inl (fun _ => 0))), (q3, .inl (cy 1, 6, .inl (fun _ => 0)))] H := hP
  have hD : va_D A [(h0, .inr (2, [.ref q1, .ref q2, .null, .null, .null, .null, .null, .null, .null, .null, .null, .int 0, .int 0])), (q1, .inl (cy 1, 12, .inl (fun _ => 0))), (q2, .inl (cy 1, 12, .inl (fun _ => 0))), (q3, .inl (cy 1, 6, .inl (fun _ => 0)))] := hD
  refine va_putF (D := D) (ci := 2) (v := .ref q3) (ty := (.array .int)) (C := RX2) (T := TX2) (N := 13) hx hb hts xt_inX2 tyX2 tyX2_ok nmX2 hown hK hP hD hS 0 rfl rfl 2 (by decide) (hts _ xt_1_153) (fun _ h9 => h9) rfl hin rfl (by decide +kernel) rfl rfl (Nat.le_of_ble_eq_true rfl) dX2_init_25 (fun H locs hP hD hS => ?_)
  have hP : va_P D vwCl [(h0, .inr (2, [.ref q1, .ref q2, .ref q3, .null, .null, .null, .null, .null, .null, .null, .null, .int 0, .int 0])), (q1, .inl (cy 1, 12, .inl (fun _ => 0))), (q2, .inl (cy 1, 12, .inl (fun _ => 0))), (q3, .inl (cy 1, 6, .inl (fun _ => 0)))] H := hP
  have hD : va_D A [(h0, .inr (2, [.ref q1, .ref q2, .ref q3, .null, .null, .null, .null, .null, .null, .null, .null, .int 0, .int 0])), (q1, .inl (cy 1, 12, .inl (fun _ => 0))), (q2, .inl (cy 1, 12, .inl (fun _ => 0))), (q3, .inl (cy 1, 6, .inl (fun _ => 0)))] := hD
  refine lv_aload_n hx hb dX2_init_28 rfl (lv_at hl 0 rfl) ?_
  refine lv_bipush (v := (6 : Int32)) hx hb dX2_init_29 (by decide) ?_
  refine xn_newa X hA hP hD hS (ty := .int) (a0 := (6, .inl (fun _ => 0))) (N := 6) 1 rfl xt_1_91 rfl (fun _ _ h1 h2 => Option.some.inj (h1.symm.trans h2)) (fun _ => rfl) (by decide) (by decide) (by decide) (Nat.le_of_ble_eq_true rfl) (Nat.le_of_ble_eq_true rfl) dX2_init_31 (fun q4 H hP hD hS => ?_)
  have hP : va_P D vwCl [(h0, .inr (2, [.ref q1, .ref q2, .ref q3, .null, .null, .null, .null, .null, .null, .null, .null, .int 0, .int 0])), (q1, .inl (cy 1, 12, .inl (fun _ => 0))), (q2, .inl (cy 1, 12, .inl (fun _ => 0))), (q3, .inl (cy 1, 6, .inl (fun _ => 0))), (q4, .inl (cy 1, 6, .inl (fun _ => 0)))] H := hP
  have hD : va_D A [(h0, .inr (2, [.ref q1, .ref q2, .ref q3, .null, .null, .null, .null, .null, .null, .null, .null, .int 0, .int 0])), (q1, .inl (cy 1, 12, .inl (fun _ => 0))), (q2, .inl (cy 1, 12, .inl (fun _ => 0))), (q3, .inl (cy 1, 6, .inl (fun _ => 0))), (q4, .inl (cy 1, 6, .inl (fun _ => 0)))] := hD
  refine va_putF (D := D) (ci := 2) (v := .ref q4) (ty := (.array .int)) (C := RX2) (T := TX2) (N := 13) hx hb hts xt_inX2 tyX2 tyX2_ok nmX2 hown hK hP hD hS 0 rfl rfl 3 (by decide) (hts _ xt_1_155) (fun _ h9 => h9) rfl hin rfl (by decide +kernel) rfl rfl (Nat.le_of_ble_eq_true rfl) dX2_init_33 (fun H locs hP hD hS => ?_)
  have hP : va_P D vwCl [(h0, .inr (2, [.ref q1, .ref q2, .ref q3, .ref q4, .null, .null, .null, .null, .null, .null, .null, .int 0, .int 0])), (q1, .inl (cy 1, 12, .inl (fun _ => 0))), (q2, .inl (cy 1, 12, .inl (fun _ => 0))), (q3, .inl (cy 1, 6, .inl (fun _ => 0))), (q4, .inl (cy 1, 6, .inl (fun _ => 0)))] H := hP
  have hD : va_D A [(h0, .inr (2, [.ref q1, .ref q2, .ref q3, .ref q4, .null, .null, .null, .null, .null, .null, .null, .int 0, .int 0])), (q1, .inl (cy 1, 12, .inl (fun _ => 0))), (q2, .inl (cy 1, 12, .inl (fun _ => 0))), (q3, .inl (cy 1, 6, .inl (fun _ => 0))), (q4, .inl (cy 1, 6, .inl (fun _ => 0)))] := hD
  refine lv_aload_n hx hb dX2_init_36 rfl (lv_at hl 0 rfl) ?_
  refine lv_bipush (v := (6 : Int32)) hx hb dX2_init_37 (by decide) ?_
  refine xn_newa X hA hP hD hS (ty := .int) (a0 := (6, .inl (fun _ => 0))) (N := 6) 1 rfl xt_1_91 rfl (fun _ _ h1 h2 => Option.some.inj (h1.symm.trans h2)) (fun _ => rfl) (by decide) (by decide) (by decide) (Nat.le_of_ble_eq_true rfl) (Nat.le_of_ble_eq_true rfl) dX2_init_39 (fun q5 H hP hD hS => ?_)
  have hP : va_P D vwCl [(h0, .inr (2, [.ref q1, .ref q2, .ref q3, .ref q4, .null, .null, .null, .null, .null, .null, .null, .int 0, .int 0])), (q1, .inl (cy 1, 12, .inl (fun _ => 0))), (q2, .inl (cy 1, 12, .inl (fun _ => 0))), (q3, .inl (cy 1, 6, .inl (fun _ => 0))), (q4, .inl (cy 1, 6, .inl (fun _ => 0))), (q5, .inl (cy 1, 6, .inl (fun _ => 0)))] H := hP
  have hD : va_D A [(h0, .inr (2, [.ref q1, .ref q2, .ref q3, .ref q4, .null, .null, .null, .null, .null, .null, .null, .int 0, .int 0])), (q1, .inl (cy 1, 12, .inl (fun _ => 0))), (q2, .inl (cy 1, 12, .inl (fun _ => 0))), (q3, .inl (cy 1, 6, .inl (fun _ => 0))), (q4, .inl (cy 1, 6, .inl (fun _ => 0))), (q5, .inl (cy 1, 6, .inl (fun _ => 0)))] := hD
  refine va_putF (D := D) (ci := 2) (v := .ref q5) (ty := (.array .int)) (C := RX2) (T := TX2) (N := 13) hx hb hts xt_inX2 tyX2 tyX2_ok nmX2 hown hK hP hD hS 0 rfl rfl 4 (by decide) (hts _ xt_1_157) (fun _ h9 => h9) rfl hin rfl (by decide +kernel) rfl rfl (Nat.le_of_ble_eq_true rfl) dX2_init_41 (fun H locs hP hD hS => ?_)
  have hP : va_P D vwCl [(h0, .inr (2, [.ref q1, .ref q2, .ref q3, .ref q4, .ref q5, .null, .null, .null, .null, .null, .null, .int 0, .int 0])), (q1, .inl (cy 1, 12, .inl (fun _ => 0))), (q2, .inl (cy 1, 12, .inl (fun _ => 0))), (q3, .inl (cy 1, 6, .inl (fun _ => 0))), (q4, .inl (cy 1, 6, .inl (fun _ => 0))), (q5, .inl (cy 1, 6, .inl (fun _ => 0)))] H := hP
  have hD : va_D A [(h0, .inr (2, [.ref q1, .ref q2, .ref q3, .ref q4, .ref q5, .null, .null, .null, .null, .null, .null, .int 0, .int 0])), (q1, .inl (cy 1, 12, .inl (fun _ => 0))), (q2, .inl (cy 1, 12, .inl (fun _ => 0))), (q3, .inl (cy 1, 6, .inl (fun _ => 0))), (q4, .inl (cy 1, 6, .inl (fun _ => 0))), (q5, .inl (cy 1, 6, .inl (fun _ => 0)))] := hD
  refine lv_aload_n hx hb dX2_init_44 rfl (lv_at hl 0 rfl) ?_
  refine lv_bipush (v := (6 : Int32)) hx hb dX2_init_45 (by decide) ?_
  refine xn_newa X hA hP hD hS (ty := .int) (a0 := (6, .inl (fun _ => 0))) (N := 6) 1 rfl xt_1_91 rfl (fun _ _ h1 h2 => Option.some.inj (h1.symm.trans h2)) (fun _ => rfl) (by decide) (by decide) (by decide) (Nat.le_of_ble_eq_true rfl) (Nat.le_of_ble_eq_true rfl) dX2_init_47 (fun q6 H hP hD hS => ?_)
  have hP : va_P D vwCl [(h0, .inr (2, [.ref q1, .ref q2, .ref q3, .ref q4, .ref q5, .null, .null, .null, .null, .null, .null, .int 0, .int 0])), (q1, .inl (cy 1, 12, .inl (fun _ => 0))), (q2, .inl (cy 1, 12, .inl (fun _ => 0))), (q3, .inl (cy 1, 6, .inl (fun _ => 0))), (q4, .inl (cy 1, 6, .inl (fun _ => 0))), (q5, .inl (cy 1, 6, .inl (fun _ => 0))), (q6, .inl (cy 1, 6, .inl (fun _ => 0)))] H := hP
  have hD : va_D A [(h0, .inr (2, [.ref q1, .ref q2, .ref q3, .ref q4, .ref q5, .null, .null, .null, .null, .null, .null, .int 0, .int 0])), (q1, .inl (cy 1, 12, .inl (fun _ => 0))), (q2, .inl (cy 1, 12, .inl (fun _ => 0))), (q3, .inl (cy 1, 6, .inl (fun _ => 0))), (q4, .inl (cy 1, 6, .inl (fun _ => 0))), (q5, .inl (cy 1, 6, .inl (fun _ => 0))), (q6, .inl (cy 1, 6, .inl (fun _ => 0)))] := hD
  refine va_putF (D := D) (ci := 2) (v := .ref q6) (ty := (.array .int)) (C := RX2) (T := TX2) (N := 13) hx hb hts xt_inX2 tyX2 tyX2_ok nmX2 hown hK hP hD hS 0 rfl rfl 5 (by decide) (hts _ xt_1_158) (fun _ h9 => h9) rfl hin rfl (by decide +kernel) rfl rfl (Nat.le_of_ble_eq_true rfl) dX2_init_49 (fun H locs hP hD hS => ?_)
  have hP : va_P D vwCl [(h0, .inr (2, [.ref q1, .ref q2, .ref q3, .ref q4, .ref q5, .ref q6, .null, .null, .null, .null, .null, .int 0, .int 0])), (q1, .inl (cy 1, 12, .inl (fun _ => 0))), (q2, .inl (cy 1, 12, .inl (fun _ => 0))), (q3, .inl (cy 1, 6, .inl (fun _ => 0))), (q4, .inl (cy 1, 6, .inl (fun _ => 0))), (q5, .inl (cy 1, 6, .inl (fun _ => 0))), (q6, .inl (cy 1, 6, .inl (fun _ => 0)))] H := hP
  have hD : va_D A [(h0, .inr (2, [.ref q1, .ref q2, .ref q3, .ref q4, .ref q5, .ref q6, .null, .null, .null, .null, .null, .int 0, .int 0])), (q1, .inl (cy 1, 12, .inl (fun _ => 0))), (q2, .inl (cy 1, 12, .inl (fun _ => 0))), (q3, .inl (cy 1, 6, .inl (fun _ => 0))), (q4, .inl (cy 1, 6, .inl (fun _ => 0))), (q5, .inl (cy 1, 6, .inl (fun _ => 0))), (q6, .inl (cy 1, 6, .inl (fun _ => 0)))] := hD
  refine lv_aload_n hx hb dX2_init_52 rfl (lv_at hl 0 rfl) ?_
  refine lv_bipush (v := (20 : Int32)) hx hb dX2_init_53 (by decide) ?_
  refine xn_newa X hA hP hD hS (ty := .int) (a0 := (20, .inl (fun _ => 0))) (N := 20) 1 rfl xt_1_91 rfl (fun _ _ h1 h2 => Option.some.inj (h1.symm.trans h2)) (fun _ => rfl) (by decide) (by decide) (by decide) (Nat.le_of_ble_eq_true rfl) (Nat.le_of_ble_eq_true rfl) dX2_init_55 (fun q7 H hP hD hS => ?_)
  have hP : va_P D vwCl [(h0, .inr (2, [.ref q1, .ref q2, .ref q3, .ref q4, .ref q5, .ref q6, .null, .null, .null, .null, .null, .int 0, .int 0])), (q1, .inl (cy 1, 12, .inl (fun _ => 0))), (q2, .inl (cy 1, 12, .inl (fun _ => 0))), (q3, .inl (cy 1, 6, .inl (fun _ => 0))), (q4, .inl (cy 1, 6, .inl (fun _ => 0))), (q5, .inl (cy 1, 6, .inl (fun _ => 0))), (q6, .inl (cy 1, 6, .inl (fun _ => 0))), (q7, .inl (cy 1, 20, .inl (fun _ => 0)))] H := hP
  have hD : va_D A [(h0, .inr (2, [.ref q1, .ref q2, .ref q3, .ref q4, .ref q5, .ref q6, .null, .null, .null, .null, .null, .int 0, .int 0])), (q1, .inl (cy 1, 12, .inl (fun _ => 0))), (q2, .inl (cy 1, 12, .inl (fun _ => 0))), (q3, .inl (cy 1, 6, .inl (fun _ => 0))), (q4, .inl (cy 1, 6, .inl (fun _ => 0))), (q5, .inl (cy 1, 6, .inl (fun _ => 0))), (q6, .inl (cy 1, 6, .inl (fun _ => 0))), (q7, .inl (cy 1, 20, .inl (fun _ => 0)))] := hD
  refine va_putF (D := D) (ci := 2) (v := .ref q7) (ty := (.array .int)) (C := RX2) (T := TX2) (N := 13) hx hb hts xt_inX2 tyX2 tyX2_ok nmX2 hown hK hP hD hS 0 rfl rfl 6 (by decide) (hts _ xt_1_159) (fun _ h9 => h9) rfl hin rfl (by decide +kernel) rfl rfl (Nat.le_of_ble_eq_true rfl) dX2_init_57 (fun H locs hP hD hS => ?_)
  have hP : va_P D vwCl [(h0, .inr (2, [.ref q1, .ref q2, .ref q3, .ref q4, .ref q5, .ref q6, .ref q7, .null, .null, .null, .null, .int 0, .int 0])), (q1, .inl (cy 1, 12, .inl (fun _ => 0))), (q2, .inl (cy 1, 12, .inl (fun _ => 0))), (q3, .inl (cy 1, 6, .inl (fun _ => 0))), (q4, .inl (cy 1, 6, .inl (fun _ => 0))), (q5, .inl (cy 1, 6, .inl (fun _ => 0))), (q6, .inl (cy 1, 6, .inl (fun _ => 0))), (q7, .inl (cy 1, 20, .inl (fun _ => 0)))] H := hP
  have hD : va_D A [(h0, .inr (2, [.ref q1, .ref q2, .ref q3, .ref q4, .ref q5, .ref q6, .ref q7, .null, .null, .null, .null, .int 0, .int 0])), (q1, .inl (cy 1, 12, .inl (fun _ => 0))), (q2, .inl (cy 1, 12, .inl (fun _ => 0))), (q3, .inl (cy 1, 6, .inl (fun _ => 0))), (q4, .inl (cy 1, 6, .inl (fun _ => 0))), (q5, .inl (cy 1, 6, .inl (fun _ => 0))), (q6, .inl (cy 1, 6, .inl (fun _ => 0))), (q7, .inl (cy 1, 20, .inl (fun _ => 0)))] := hD
  refine lv_aload_n hx hb dX2_init_60 rfl (lv_at hl 0 rfl) ?_
  refine lv_bipush (v := (20 : Int32)) hx hb dX2_init_61 (by decide) ?_
  refine xn_newa X hA hP hD hS (ty := .int) (a0 := (20, .inl (fun _ => 0))) (N := 20) 1 rfl xt_1_91 rfl (fun _ _ h1 h2 => Option.some.inj (h1.symm.trans h2)) (fun _ => rfl) (by decide) (by decide) (by decide) (Nat.le_of_ble_eq_true rfl) (Nat.le_of_ble_eq_true rfl) dX2_init_63 (fun q8 H hP hD hS => ?_)
  have hP : va_P D vwCl [(h0, .inr (2, [.ref q1, .ref q2, .ref q3, .ref q4, .ref q5, .ref q6, .ref q7, .null, .null, .null, .null, .int 0, .int 0])), (q1, .inl (cy 1, 12, .inl (fun _ => 0))), (q2, .inl (cy 1, 12, .inl (fun _ => 0))), (q3, .inl (cy 1, 6, .inl (fun _ => 0))), (q4, .inl (cy 1, 6, .inl (fun _ => 0))), (q5, .inl (cy 1, 6, .inl (fun _ => 0))), (q6, .inl (cy 1, 6, .inl (fun _ => 0))), (q7, .inl (cy 1, 20, .inl (fun _ => 0))), (q8, .inl (cy 1, 20, .inl (fun _ => 0)))] H := hP
  have hD : va_D A [(h0, .inr (2, [.ref q1, .ref q2, .ref q3, .ref q4, .ref q5, .ref q6, .ref q7, .null, .null, .null, .null, .int 0, .int 0])), (q1, .inl (cy 1, 12, .inl (fun _ => 0))), (q2, .inl (cy 1, 12, .inl (fun _ => 0))), (q3, .inl (cy 1, 6, .inl (fun _ => 0))), (q4, .inl (cy 1, 6, .inl (fun _ => 0))), (q5, .inl (cy 1, 6, .inl (fun _ => 0))), (q6, .inl (cy 1, 6, .inl (fun _ => 0))), (q7, .inl (cy 1, 20, .inl (fun _ => 0))), (q8, .inl (cy 1, 20, .inl (fun _ => 0)))] := hD
  refine va_putF (D := D) (ci := 2) (v := .ref q8) (ty := (.array .int)) (C := RX2) (T := TX2) (N := 13) hx hb hts xt_inX2 tyX2 tyX2_ok nmX2 hown hK hP hD hS 0 rfl rfl 7 (by decide) (hts _ xt_1_163) (fun _ h9 => h9) rfl hin rfl (by decide +kernel) rfl rfl (Nat.le_of_ble_eq_true rfl) dX2_init_65 (fun H locs hP hD hS => ?_)
  have hP : va_P D vwCl [(h0, .inr (2, [.ref q1, .ref q2, .ref q3, .ref q4, .ref q5, .ref q6, .ref q7, .ref q8, .null, .null, .null, .int 0, .int 0])), (q1, .inl (cy 1, 12, .inl (fun _ => 0))), (q2, .inl (cy 1, 12, .inl (fun _ => 0))), (q3, .inl (cy 1, 6, .inl (fun _ => 0))), (q4, .inl (cy 1, 6, .inl (fun _ => 0))), (q5, .inl (cy 1, 6, .inl (fun _ => 0))), (q6, .inl (cy 1, 6, .inl (fun _ => 0))), (q7, .inl (cy 1, 20, .inl (fun _ => 0))), (q8, .inl (cy 1, 20, .inl (fun _ => 0)))] H := hP
  have hD : va_D A [(h0, .inr (2, [.ref q1, .ref q2, .ref q3, .ref q4, .ref q5, .ref q6, .ref q7, .ref q8, .null, .null, .null, .int 0, .int 0])), (q1, .inl (cy 1, 12, .inl (fun _ => 0))), (q2, .inl (cy 1, 12, .inl (fun _ => 0))), (q3, .inl (cy 1, 6, .inl (fun _ => 0))), (q4, .inl (cy 1, 6, .inl (fun _ => 0))), (q5, .inl (cy 1, 6, .inl (fun _ => 0))), (q6, .inl (cy 1, 6, .inl (fun _ => 0))), (q7, .inl (cy 1, 20, .inl (fun _ => 0))), (q8, .inl (cy 1, 20, .inl (fun _ => 0)))] := hD
  refine lv_aload_n hx hb dX2_init_68 rfl (lv_at hl 0 rfl) ?_
  refine lv_bipush (v := (20 : Int32)) hx hb dX2_init_69 (by decide) ?_
  refine xn_newa X hA hP hD hS (ty := .int) (a0 := (20, .inl (fun _ => 0))) (N := 20) 1 rfl xt_1_91 rfl (fun _ _ h1 h2 => Option.some.inj (h1.symm.trans h2)) (fun _ => rfl) (by decide) (by decide) (by decide) (Nat.le_of_ble_eq_true rfl) (Nat.le_of_ble_eq_true rfl) dX2_init_71 (fun q9 H hP hD hS => ?_)
  have hP : va_P D vwCl [(h0, .inr (2, [.ref q1, .ref q2, .ref q3, .ref q4, .ref q5, .ref q6, .ref q7, .ref q8, .null, .null, .null, .int 0, .int 0])), (q1, .inl (cy 1, 12, .inl (fun _ => 0))), (q2, .inl (cy 1, 12, .inl (fun _ => 0))), (q3, .inl (cy 1, 6, .inl (fun _ => 0))), (q4, .inl (cy 1, 6, .inl (fun _ => 0))), (q5, .inl (cy 1, 6, .inl (fun _ => 0))), (q6, .inl (cy 1, 6, .inl (fun _ => 0))), (q7, .inl (cy 1, 20, .inl (fun _ => 0))), (q8, .inl (cy 1, 20, .inl (fun _ => 0))), (q9, .inl (cy 1, 20, .inl (fun _ => 0)))] H := hP
  have hD : va_D A [(h0, .inr (2, [.ref q1, .ref q2, .ref q3, .ref q4, .ref q5, .ref q6, .ref q7, .ref q8, .null, .null, .null, .int 0, .int 0])), (q1, .inl (cy 1, 12, .inl (fun _ => 0))), (q2, .inl (cy 1, 12, .inl (fun _ => 0))), (q3, .inl (cy 1, 6, .inl (fun _ => 0))), (q4, .inl (cy 1, 6, .inl (fun _ => 0))), (q5, .inl (cy 1, 6, .inl (fun _ => 0))), (q6, .inl (cy 1, 6, .inl (fun _ => 0))), (q7, .inl (cy 1, 20, .inl (fun _ => 0))), (q8, .inl (cy 1, 20, .inl (fun _ => 0))), (q9, .inl (cy 1, 20, .inl (fun _ => 0)))] := hD
  refine va_putF (D := D) (ci := 2) (v := .ref q9) (ty := (.array .int)) (C := RX2) (T := TX2) (N := 13) hx hb hts xt_inX2 tyX2 tyX2_ok nmX2 hown hK hP hD hS 0 rfl rfl 8 (by decide) (hts _ xt_1_165) (fun _ h9 => h9) rfl hin rfl (by decide +kernel) rfl rfl (Nat.le_of_ble_eq_true rfl) dX2_init_73 (fun H locs hP hD hS => ?_)
  have hP : va_P D vwCl [(h0, .inr (2, [.ref q1, .ref q2, .ref q3, .ref q4, .ref q5, .ref q6, .ref q7, .ref q8, .ref q9, .null, .null, .int 0, .int 0])), (q1, .inl (cy 1, 12, .inl (fun _ => 0))), (q2, .inl (cy 1, 12, .inl (fun _ => 0))), (q3, .inl (cy 1, 6, .inl (fun _ => 0))), (q4, .inl (cy 1, 6, .inl (fun _ => 0))), (q5, .inl (cy 1, 6, .inl (fun _ => 0))), (q6, .inl (cy 1, 6, .inl (fun _ => 0))), (q7, .inl (cy 1, 20, .inl (fun _ => 0))), (q8, .inl (cy 1, 20, .inl (fun _ => 0))), (q9, .inl (cy 1, 20, .inl (fun _ => 0)))] H := hP
  have hD : va_D A [(h0, .inr (2, [.ref q1, .ref q2, .ref q3, .ref q4, .ref q5, .ref q6, .ref q7, .ref q8, .ref q9, .null, .null, .int 0, .int 0])), (q1, .inl (cy 1, 12, .inl (fun _ => 0))), (q2, .inl (cy 1, 12, .inl (fun _ => 0))), (q3, .inl (cy 1, 6, .inl (fun _ => 0))), (q4, .inl (cy 1, 6, .inl (fun _ => 0))), (q5, .inl (cy 1, 6, .inl (fun _ => 0))), (q6, .inl (cy 1, 6, .inl (fun _ => 0))), (q7, .inl (cy 1, 20, .inl (fun _ => 0))), (q8, .inl (cy 1, 20, .inl (fun _ => 0))), (q9, .inl (cy 1, 20, .inl (fun _ => 0)))] := hD
  refine lv_aload_n hx hb dX2_init_76 rfl (lv_at hl 0 rfl) ?_
  refine lv_bipush (v := (20 : Int32)) hx hb dX2_init_77 (by decide) ?_
  refine xn_newa X hA hP hD hS (ty := .int) (a0 := (20, .inl (fun _ => 0))) (N := 20) 1 rfl xt_1_91 rfl (fun _ _ h1 h2 => Option.some.inj (h1.symm.trans h2)) (fun _ => rfl) (by decide) (by decide) (by decide) (Nat.le_of_ble_eq_true rfl) (Nat.le_of_ble_eq_true rfl) dX2_init_79 (fun q10 H hP hD hS => ?_)
  have hP : va_P D vwCl [(h0, .inr (2, [.ref q1, .ref q2, .ref q3, .ref q4, .ref q5, .ref q6, .ref q7, .ref q8, .ref q9, .null, .null, .int 0, .int 0])), (q1, .inl (cy 1, 12, .inl (fun _ => 0))), (q2, .inl (cy 1, 12, .inl (fun _ => 0))), (q3, .inl (cy 1, 6, .inl (fun _ => 0))), (q4, .inl (cy 1, 6, .inl (fun _ => 0))), (q5, .inl (cy 1, 6, .inl (fun _ => 0))), (q6, .inl (cy 1, 6, .inl (fun _ => 0))), (q7, .inl (cy 1, 20, .inl (fun _ => 0))), (q8, .inl (cy 1, 20, .inl (fun _ => 0))), (q9, .inl (cy 1, 20, .inl (fun _ => 0))), (q10, .inl (cy 1, 20, .inl (fun _ => 0)))] H := hP
  have hD : va_D A [(h0, .inr (2, [.ref q1, .ref q2, .ref q3, .ref q4, .ref q5, .ref q6, .ref q7, .ref q8, .ref q9, .null, .null, .int 0, .int 0])), (q1, .inl (cy 1, 12, .inl (fun _ => 0))), (q2, .inl (cy 1, 12, .inl (fun _ => 0))), (q3, .inl (cy 1, 6, .inl (fun _ => 0))), (q4, .inl (cy 1, 6, .inl (fun _ => 0))), (q5, .inl (cy 1, 6, .inl (fun _ => 0))), (q6, .inl (cy 1, 6, .inl (fun _ => 0))), (q7, .inl (cy 1, 20, .inl (fun _ => 0))), (q8, .inl (cy 1, 20, .inl (fun _ => 0))), (q9, .inl (cy 1, 20, .inl (fun _ => 0))), (q10, .inl (cy 1, 20, .inl (fun _ => 0)))] := hD
  refine va_putF (D := D) (ci := 2) (v := .ref q10) (ty := (.array .int)) (C := RX2) (T := TX2) (N := 13) hx hb hts xt_inX2 tyX2 tyX2_ok nmX2 hown hK hP hD hS 0 rfl rfl 9 (by decide) (hts _ xt_1_167) (fun _ h9 => h9) rfl hin rfl (by decide +kernel) rfl rfl (Nat.le_of_ble_eq_true rfl) dX2_init_81 (fun H locs hP hD hS => ?_)
  have hP : va_P D vwCl [(h0, .inr (2, [.ref q1, .ref q2, .ref q3, .ref q4, .ref q5, .ref q6, .ref q7, .ref q8, .ref q9, .ref q10, .null, .int 0, .int 0])), (q1, .inl (cy 1, 12, .inl (fun _ => 0))), (q2, .inl (cy 1, 12, .inl (fun _ => 0))), (q3, .inl (cy 1, 6, .inl (fun _ => 0))), (q4, .inl (cy 1, 6, .inl (fun _ => 0))), (q5, .inl (cy 1, 6, .inl (fun _ => 0))), (q6, .inl (cy 1, 6, .inl (fun _ => 0))), (q7, .inl (cy 1, 20, .inl (fun _ => 0))), (q8, .inl (cy 1, 20, .inl (fun _ => 0))), (q9, .inl (cy 1, 20, .inl (fun _ => 0))), (q10, .inl (cy 1, 20, .inl (fun _ => 0)))] H := hP
  have hD : va_D A [(h0, .inr (2, [.ref q1, .ref q2, .ref q3, .ref q4, .ref q5, .ref q6, .ref q7, .ref q8, .ref q9, .ref q10, .null, .int 0, .int 0])), (q1, .inl (cy 1, 12, .inl (fun _ => 0))), (q2, .inl (cy 1, 12, .inl (fun _ => 0))), (q3, .inl (cy 1, 6, .inl (fun _ => 0))), (q4, .inl (cy 1, 6, .inl (fun _ => 0))), (q5, .inl (cy 1, 6, .inl (fun _ => 0))), (q6, .inl (cy 1, 6, .inl (fun _ => 0))), (q7, .inl (cy 1, 20, .inl (fun _ => 0))), (q8, .inl (cy 1, 20, .inl (fun _ => 0))), (q9, .inl (cy 1, 20, .inl (fun _ => 0))), (q10, .inl (cy 1, 20, .inl (fun _ => 0)))] := hD
  refine lv_aload_n hx hb dX2_init_84 rfl (lv_at hl 0 rfl) ?_
  refine lv_bipush (v := (20 : Int32)) hx hb dX2_init_85 (by decide) ?_
  refine xn_newa X hA hP hD hS (ty := .int) (a0 := (20, .inl (fun _ => 0))) (N := 20) 1 rfl xt_1_91 rfl (fun _ _ h1 h2 => Option.some.inj (h1.symm.trans h2)) (fun _ => rfl) (by decide) (by decide) (by decide) (Nat.le_of_ble_eq_true rfl) (Nat.le_of_ble_eq_true rfl) dX2_init_87 (fun q11 H hP hD hS => ?_)
  have hP : va_P D vwCl [(h0, .inr (2, [.ref q1, .ref q2, .ref q3, .ref q4, .ref q5, .ref q6, .ref q7, .ref q8, .ref q9, .ref q10, .null, .int 0, .int 0])), (q1, .inl (cy 1, 12, .inl (fun _ => 0))), (q2, .inl (cy 1, 12, .inl (fun _ => 0))), (q3, .inl (cy 1, 6, .inl (fun _ => 0))), (q4, .inl (cy 1, 6, .inl (fun _ => 0))), (q5, .inl (cy 1, 6, .inl (fun _ => 0))), (q6, .inl (cy 1, 6, .inl (fun _ => 0))), (q7, .inl (cy 1, 20, .inl (fun _ => 0))), (q8, .inl (cy 1, 20, .inl (fun _ => 0))), (q9, .inl (cy 1, 20, .inl (fun _ => 0))), (q10, .inl (cy 1, 20, .inl (fun _ => 0))), (q11, .inl (cy 1, 20, .inl (fun _ => 0)))] H := hP
  have hD : va_D A [(h0, .inr (2, [.ref q1, .ref q2, .ref q3, .ref q4, .ref q5, .ref q6, .ref q7, .ref q8, .ref q9, .ref q10, .null, .int 0, .int 0])), (q1, .inl (cy 1, 12, .inl (fun _ => 0))), (q2, .inl (cy 1, 12, .inl (fun _ => 0))), (q3, .inl (cy 1, 6, .inl (fun _ => 0))), (q4, .inl (cy 1, 6, .inl (fun _ => 0))), (q5, .inl (cy 1, 6, .inl (fun _ => 0))), (q6, .inl (cy 1, 6, .inl (fun _ => 0))), (q7, .inl (cy 1, 20, .inl (fun _ => 0))), (q8, .inl (cy 1, 20, .inl (fun _ => 0))), (q9, .inl (cy 1, 20, .inl (fun _ => 0))), (q10, .inl (cy 1, 20, .inl (fun _ => 0))), (q11, .inl (cy 1, 20, .inl (fun _ => 0)))] := hD
  refine va_putF (D := D) (ci := 2) (v := .ref q11) (ty := (.array .int)) (C := RX2) (T := TX2) (N := 13) hx hb hts xt_inX2 tyX2 tyX2_ok nmX2 hown hK hP hD hS 0 rfl rfl 10 (by decide) (hts _ xt_1_169) (fun _ h9 => h9) rfl hin rfl (by decide +kernel) rfl rfl (Nat.le_of_ble_eq_true rfl) dX2_init_89 (fun H locs hP hD hS => ?_)
  have hP : va_P D vwCl [(h0, .inr (2, [.ref q1, .ref q2, .ref q3, .ref q4, .ref q5, .ref q6, .ref q7, .ref q8, .ref q9, .ref q10, .ref q11, .int 0, .int 0])), (q1, .inl (cy 1, 12, .inl (fun _ => 0))), (q2, .inl (cy 1, 12, .inl (fun _ => 0))), (q3, .inl (cy 1, 6, .inl (fun _ => 0))), (q4, .inl (cy 1, 6, .inl (fun _ => 0))), (q5, .inl (cy 1, 6, .inl (fun _ => 0))), (q6, .inl (cy 1, 6, .inl (fun _ => 0))), (q7, .inl (cy 1, 20, .inl (fun _ => 0))), (q8, .inl (cy 1, 20, .inl (fun _ => 0))), (q9, .inl (cy 1, 20, .inl (fun _ => 0))), (q10, .inl (cy 1, 20, .inl (fun _ => 0))), (q11, .inl (cy 1, 20, .inl (fun _ => 0)))] H := hP
  have hD : va_D A [(h0, .inr (2, [.ref q1, .ref q2, .ref q3, .ref q4, .ref q5, .ref q6, .ref q7, .ref q8, .ref q9, .ref q10, .ref q11, .int 0, .int 0])), (q1, .inl (cy 1, 12, .inl (fun _ => 0))), (q2, .inl (cy 1, 12, .inl (fun _ => 0))), (q3, .inl (cy 1, 6, .inl (fun _ => 0))), (q4, .inl (cy 1, 6, .inl (fun _ => 0))), (q5, .inl (cy 1, 6, .inl (fun _ => 0))), (q6, .inl (cy 1, 6, .inl (fun _ => 0))), (q7, .inl (cy 1, 20, .inl (fun _ => 0))), (q8, .inl (cy 1, 20, .inl (fun _ => 0))), (q9, .inl (cy 1, 20, .inl (fun _ => 0))), (q10, .inl (cy 1, 20, .inl (fun _ => 0))), (q11, .inl (cy 1, 20, .inl (fun _ => 0)))] := hD
  refine lv_aload_n hx hb dX2_init_92 rfl (lv_at hl 0 rfl) ?_
  refine lv_iconst (v := (0 : Int32)) hx hb dX2_init_93 (by decide) ?_
  refine va_put (D := D) (ci := 2) (v := .int (0 : Int32)) (ty := .int) (C := RX2) (T := TX2) (N := 13) hx hb hts xt_inX2 tyX2 tyX2_ok nmX2 hown hK hP hD hS 0 rfl rfl 11 (by decide) (hts _ xt_1_170) (fun _ h9 => h9) rfl (by decide +kernel) rfl rfl (Nat.le_of_ble_eq_true rfl) dX2_init_94 (fun H locs hP hD hS => ?_)
  have hP : va_P D vwCl [(h0, .inr (2, [.ref q1, .ref q2, .ref q3, .ref q4, .ref q5, .ref q6, .ref q7, .ref q8, .ref q9, .ref q10, .ref q11, .int (0 : Int32), .int 0])), (q1, .inl (cy 1, 12, .inl (fun _ => 0))), (q2, .inl (cy 1, 12, .inl (fun _ => 0))), (q3, .inl (cy 1, 6, .inl (fun _ => 0))), (q4, .inl (cy 1, 6, .inl (fun _ => 0))), (q5, .inl (cy 1, 6, .inl (fun _ => 0))), (q6, .inl (cy 1, 6, .inl (fun _ => 0))), (q7, .inl (cy 1, 20, .inl (fun _ => 0))), (q8, .inl (cy 1, 20, .inl (fun _ => 0))), (q9, .inl (cy 1, 20, .inl (fun _ => 0))), (q10, .inl (cy 1, 20, .inl (fun _ => 0))), (q11, .inl (cy 1, 20, .inl (fun _ => 0)))] H := hP
  have hD : va_D A [(h0, .inr (2, [.ref q1, .ref q2, .ref q3, .ref q4, .ref q5, .ref q6, .ref q7, .ref q8, .ref q9, .ref q10, .ref q11, .int (0 : Int32), .int 0])), (q1, .inl (cy 1, 12, .inl (fun _ => 0))), (q2, .inl (cy 1, 12, .inl (fun _ => 0))), (q3, .inl (cy 1, 6, .inl (fun _ => 0))), (q4, .inl (cy 1, 6, .inl (fun _ => 0))), (q5, .inl (cy 1, 6, .inl (fun _ => 0))), (q6, .inl (cy 1, 6, .inl (fun _ => 0))), (q7, .inl (cy 1, 20, .inl (fun _ => 0))), (q8, .inl (cy 1, 20, .inl (fun _ => 0))), (q9, .inl (cy 1, 20, .inl (fun _ => 0))), (q10, .inl (cy 1, 20, .inl (fun _ => 0))), (q11, .inl (cy 1, 20, .inl (fun _ => 0)))] := hD
  refine lv_aload_n hx hb dX2_init_97 rfl (lv_at hl 0 rfl) ?_
  refine lv_iconst (v := (0 : Int32)) hx hb dX2_init_98 (by decide) ?_
  refine va_put (D := D) (ci := 2) (v := .int (0 : Int32)) (ty := .int) (C := RX2) (T := TX2) (N := 13) hx hb hts xt_inX2 tyX2 tyX2_ok nmX2 hown hK hP hD hS 0 rfl rfl 12 (by decide) (hts _ xt_1_173) (fun _ h9 => h9) rfl (by decide +kernel) rfl rfl (Nat.le_of_ble_eq_true rfl) dX2_init_99 (fun H locs hP hD hS => ?_)
  have hP : va_P D vwCl [(h0, .inr (2, [.ref q1, .ref q2, .ref q3, .ref q4, .ref q5, .ref q6, .ref q7, .ref q8, .ref q9, .ref q10, .ref q11, .int (0 : Int32), .int (0 : Int32)])), (q1, .inl (cy 1, 12, .inl (fun _ => 0))), (q2, .inl (cy 1, 12, .inl (fun _ => 0))), (q3, .inl (cy 1, 6, .inl (fun _ => 0))), (q4, .inl (cy 1, 6, .inl (fun _ => 0))), (q5, .inl (cy 1, 6, .inl (fun _ => 0))), (q6, .inl (cy 1, 6, .inl (fun _ => 0))), (q7, .inl (cy 1, 20, .inl (fun _ => 0))), (q8, .inl (cy 1, 20, .inl (fun _ => 0))), (q9, .inl (cy 1, 20, .inl (fun _ => 0))), (q10, .inl (cy 1, 20, .inl (fun _ => 0))), (q11, .inl (cy 1, 20, .inl (fun _ => 0)))] H := hP
  have hD : va_D A [(h0, .inr (2, [.ref q1, .ref q2, .ref q3, .ref q4, .ref q5, .ref q6, .ref q7, .ref q8, .ref q9, .ref q10, .ref q11, .int (0 : Int32), .int (0 : Int32)])), (q1, .inl (cy 1, 12, .inl (fun _ => 0))), (q2, .inl (cy 1, 12, .inl (fun _ => 0))), (q3, .inl (cy 1, 6, .inl (fun _ => 0))), (q4, .inl (cy 1, 6, .inl (fun _ => 0))), (q5, .inl (cy 1, 6, .inl (fun _ => 0))), (q6, .inl (cy 1, 6, .inl (fun _ => 0))), (q7, .inl (cy 1, 20, .inl (fun _ => 0))), (q8, .inl (cy 1, 20, .inl (fun _ => 0))), (q9, .inl (cy 1, 20, .inl (fun _ => 0))), (q10, .inl (cy 1, 20, .inl (fun _ => 0))), (q11, .inl (cy 1, 20, .inl (fun _ => 0)))] := hD
  subst hAe
  exact xn_ret (fun k => [q1, q2, q3, q4, q5, q6, q7, q8, q9, q10, q11].getD k 0) X hr hk hP hD hS (Nat.le_of_ble_eq_true rfl) (Nat.le_of_ble_eq_true rfl) dX2_init_102
set_option maxRecDepth 100000 in
set_option maxHeartbeats 4000000 in
theorem xn_Facts (l : Launch) (D : va_G) (cy : Nat → ClassId) (h0 : Nat) (r1 : Nat) : xn_C l yX1_init cX1_init 2 { frames := 1, cells := 5, slots := 1000, locals := 20 } D cy [(h0, .inr (1, [.null, .null, .null, .null, .null, .null, .int 0]))] [.ref h0, .ref r1] (fun u => [(h0, .inr (1, [.ref r1, .ref (u 0), .ref (u 1), .ref (u 2), .ref (u 3), .ref (u 4), .int (0 : Int32)])), ((u 0), .inl (cy 1, 200, .inl (fun _ => 0))), ((u 1), .inl (cy 1, 200, .inl (fun _ => 0))), ((u 2), .inl (cy 1, 200, .inl (fun _ => 0))), ((u 3), .inl (cy 1, 200, .inl (fun _ => 0))), ((u 4), .inl (cy 1, 200, .inl (fun _ => 0)))]) 5 1000 := by
  refine xn_C.of RX1 rfl rfl (by decide) (Nat.le_of_ble_eq_true rfl) (fun p e s m below meth c X hA hP hD hS hr hk hin ls hl => ?_)
  have hx := X.1
  have hb := X.2.1
  have hown := X.2.2.2.1
  have hts := X.2.2.2.2.1
  have hK := X.2.2.2.2.2.2.1
  have hl : lv_has ls 2 [(0, .ref h0), (1, .ref r1)] := hl
  generalize hAe : va_A [(h0, .inr (1, [.null, .null, .null, .null, .null, .null, .int 0]))] s.heap.size = A at hA hD hS ⊢
  refine lv_aload_n hx hb dX1_init_0 rfl (lv_at hl 0 rfl) ?_
  refine xn_obj X xt_1_211 hl.1 dX1_init_1 (Nat.le_of_ble_eq_true rfl) (Nat.le_of_ble_eq_true rfl) ?_
  refine lv_aload_n hx hb dX1_init_4 rfl (lv_at hl 0 rfl) ?_
  refine lv_sipush (v := (200 : Int32)) hx hb dX1_init_5 (by decide) ?_
  refine xn_newa X hA hP hD hS (ty := .int) (a0 := (200, .inl (fun _ => 0))) (N := 200) 1 rfl xt_1_91 rfl (fun _ _ h1 h2 => Option.some.inj (h1.symm.trans h2)) (fun _ => rfl) (by decide) (by decide) (by decide) (Nat.le_of_ble_eq_true rfl) (Nat.le_of_ble_eq_true rfl) dX1_init_8 (fun q1 H hP hD hS => ?_)
  have hP : va_P D vwCl [(h0, .inr (1, [.null, .null, .null, .null, .null, .null, .int 0])), (q1, .inl (cy 1, 200, .inl (fun _ => 0)))] H := hP
  have hD : va_D A [(h0, .inr (1, [.null, .null, .null, .null, .null, .null, .int 0])), (q1, .inl (cy 1, 200, .inl (fun _ => 0)))] := hD
  refine va_putF (D := D) (ci := 1) (v := .ref q1) (ty := (.array .int)) (C := RX1) (T := TX1) (N := 7) hx hb hts xt_inX1 tyX1 tyX1_ok nmX1 hown hK hP hD hS 0 rfl rfl 1 (by decide) (hts _ xt_1_213) (fun _ h9 => h9) rfl hin rfl (by decide +kernel) rfl rfl (Nat.le_of_ble_eq_true rfl) dX1_init_10 (fun H locs hP hD hS => ?_)
  have hP : va_P D vwCl [(h0, .inr (1, [.null, .ref q1, .null, .null, .null, .null, .int 0])), (q1, .inl (cy 1, 200, .inl (fun _ => 0)))] H := hP
  have hD : va_D A [(h0, .inr (1, [.null, .ref q1, .null, .null, .null, .null, .int 0])), (q1, .inl (cy 1, 200, .inl (fun _ => 0)))] := hD
  refine lv_aload_n hx hb dX1_init_13 rfl (lv_at hl 0 rfl) ?_
  refine lv_sipush (v := (200 : Int32)) hx hb dX1_init_14 (by decide) ?_
  refine xn_newa X hA hP hD hS (ty := .int) (a0 := (200, .inl (fun _ => 0))) (N := 200) 1 rfl xt_1_91 rfl (fun _ _ h1 h2 => Option.some.inj (h1.symm.trans h2)) (fun _ => rfl) (by decide) (by decide) (by decide) (Nat.le_of_ble_eq_true rfl) (Nat.le_of_ble_eq_true rfl) dX1_init_17 (fun q2 H hP hD hS => ?_)
  have hP : va_P D vwCl [(h0, .inr (1, [.null, .ref q1, .null, .null, .null, .null, .int 0])), (q1, .inl (cy 1, 200, .inl (fun _ => 0))), (q2, .inl (cy 1, 200, .inl (fun _ => 0)))] H := hP
  have hD : va_D A [(h0, .inr (1, [.null, .ref q1, .null, .null, .null, .null, .int 0])), (q1, .inl (cy 1, 200, .inl (fun _ => 0))), (q2, .inl (cy 1, 200, .inl (fun _ => 0)))] := hD
  refine va_putF (D := D) (ci := 1) (v := .ref q2) (ty := (.array .int)) (C := RX1) (T := TX1) (N := 7) hx hb hts xt_inX1 tyX1 tyX1_ok nmX1 hown hK hP hD hS 0 rfl rfl 2 (by decide) (hts _ xt_1_214) (fun _ h9 => h9) rfl hin rfl (by decide +kernel) rfl rfl (Nat.le_of_ble_eq_true rfl) dX1_init_19 (fun H locs hP hD hS => ?_)
  have hP : va_P D vwCl [(h0, .inr (1, [.null, .ref q1, .ref q2, .null, .null, .null, .int 0])), (q1, .inl (cy 1, 200, .inl (fun _ => 0))), (q2, .inl (cy 1, 200, .inl (fun _ => 0)))] H := hP
  have hD : va_D A [(h0, .inr (1, [.null, .ref q1, .ref q2, .null, .null, .null, .int 0])), (q1, .inl (cy 1, 200, .inl (fun _ => 0))), (q2, .inl (cy 1, 200, .inl (fun _ => 0)))] := hD
  refine lv_aload_n hx hb dX1_init_22 rfl (lv_at hl 0 rfl) ?_
  refine lv_sipush (v := (200 : Int32)) hx hb dX1_init_23 (by decide) ?_
  refine xn_newa X hA hP hD hS (ty := .int) (a0 := (200, .inl (fun _ => 0))) (N := 200) 1 rfl xt_1_91 rfl (fun _ _ h1 h2 => Option.some.inj (h1.symm.trans h2)) (fun _ => rfl) (by decide) (by decide) (by decide) (Nat.le_of_ble_eq_true rfl) (Nat.le_of_ble_eq_true rfl) dX1_init_26 (fun q3 H hP hD hS => ?_)
  have hP : va_P D vwCl [(h0, .inr (1, [.null, .ref q1, .ref q2, .null, .null, .null, .int 0])), (q1, .inl (cy 1, 200, .inl (fun _ => 0))), (q2, .inl (cy 1, 200, .inl (fun _ => 0))), (q3, .inl (cy 1, 200, .inl (fun _ => 0)))] H := hP
  have hD : va_D A [(h0, .inr (1, [.null, .ref q1, .ref q2, .null, .null, .null, .int 0])), (q1, .inl (cy 1, 200, .inl (fun _ => 0))), (q2, .inl (cy 1, 200, .inl (fun _ => 0))), (q3, .inl (cy 1, 200, .inl (fun _ => 0)))] := hD
  refine va_putF (D := D) (ci := 1) (v := .ref q3) (ty := (.array .int)) (C := RX1) (T := TX1) (N := 7) hx hb hts xt_inX1 tyX1 tyX1_ok nmX1 hown hK hP hD hS 0 rfl rfl 3 (by decide) (hts _ xt_1_215) (fun _ h9 => h9) rfl hin rfl (by decide +kernel) rfl rfl (Nat.le_of_ble_eq_true rfl) dX1_init_28 (fun H locs hP hD hS => ?_)
  have hP : va_P D vwCl [(h0, .inr (1, [.null, .ref q1, .ref q2, .ref q3, .null, .null, .int 0])), (q1, .inl (cy 1, 200, .inl (fun _ => 0))), (q2, .inl (cy 1, 200, .inl (fun _ => 0))), (q3, .inl (cy 1, 200, .inl (fun _ => 0)))] H := hP
  have hD : va_D A [(h0, .inr (1, [.null, .ref q1, .ref q2, .ref q3, .null, .null, .int 0])), (q1, .inl (cy 1, 200, .inl (fun _ => 0))), (q2, .inl (cy 1, 200, .inl (fun _ => 0))), (q3, .inl (cy 1, 200, .inl (fun _ => 0)))] := hD
  refine lv_aload_n hx hb dX1_init_31 rfl (lv_at hl 0 rfl) ?_
  refine lv_sipush (v := (200 : Int32)) hx hb dX1_init_32 (by decide) ?_
  refine xn_newa X hA hP hD hS (ty := .int) (a0 := (200, .inl (fun _ => 0))) (N := 200) 1 rfl xt_1_91 rfl (fun _ _ h1 h2 => Option.some.inj (h1.symm.trans h2)) (fun _ => rfl) (by decide) (by decide) (by decide) (Nat.le_of_ble_eq_true rfl) (Nat.le_of_ble_eq_true rfl) dX1_init_35 (fun q4 H hP hD hS => ?_)
  have hP : va_P D vwCl [(h0, .inr (1, [.null, .ref q1, .ref q2, .ref q3, .null, .null, .int 0])), (q1, .inl (cy 1, 200, .inl (fun _ => 0))), (q2, .inl (cy 1, 200, .inl (fun _ => 0))), (q3, .inl (cy 1, 200, .inl (fun _ => 0))), (q4, .inl (cy 1, 200, .inl (fun _ => 0)))] H := hP
  have hD : va_D A [(h0, .inr (1, [.null, .ref q1, .ref q2, .ref q3, .null, .null, .int 0])), (q1, .inl (cy 1, 200, .inl (fun _ => 0))), (q2, .inl (cy 1, 200, .inl (fun _ => 0))), (q3, .inl (cy 1, 200, .inl (fun _ => 0))), (q4, .inl (cy 1, 200, .inl (fun _ => 0)))] := hD
  refine va_putF (D := D) (ci := 1) (v := .ref q4) (ty := (.array .int)) (C := RX1) (T := TX1) (N := 7) hx hb hts xt_inX1 tyX1 tyX1_ok nmX1 hown hK hP hD hS 0 rfl rfl 4 (by decide) (hts _ xt_1_216) (fun _ h9 => h9) rfl hin rfl (by decide +kernel) rfl rfl (Nat.le_of_ble_eq_true rfl) dX1_init_37 (fun H locs hP hD hS => ?_)
  have hP : va_P D vwCl [(h0, .inr (1, [.null, .ref q1, .ref q2, .ref q3, .ref q4, .null, .int 0])), (q1, .inl (cy 1, 200, .inl (fun _ => 0))), (q2, .inl (cy 1, 200, .inl (fun _ => 0))), (q3, .inl (cy 1, 200, .inl (fun _ => 0))), (q4, .inl (cy 1, 200, .inl (fun _ => 0)))] H := hP
  have hD : va_D A [(h0, .inr (1, [.null, .ref q1, .ref q2, .ref q3, .ref q4, .null, .int 0])), (q1, .inl (cy 1, 200, .inl (fun _ => 0))), (q2, .inl (cy 1, 200, .inl (fun _ => 0))), (q3, .inl (cy 1, 200, .inl (fun _ => 0))), (q4, .inl (cy 1, 200, .inl (fun _ => 0)))] := hD
  refine lv_aload_n hx hb dX1_init_40 rfl (lv_at hl 0 rfl) ?_
  refine lv_sipush (v := (200 : Int32)) hx hb dX1_init_41 (by decide) ?_
  refine xn_newa X hA hP hD hS (ty := .int) (a0 := (200, .inl (fun _ => 0))) (N := 200) 1 rfl xt_1_91 rfl (fun _ _ h1 h2 => Option.some.inj (h1.symm.trans h2)) (fun _ => rfl) (by decide) (by decide) (by decide) (Nat.le_of_ble_eq_true rfl) (Nat.le_of_ble_eq_true rfl) dX1_init_44 (fun q5 H hP hD hS => ?_)
  have hP : va_P D vwCl [(h0, .inr (1, [.null, .ref q1, .ref q2, .ref q3, .ref q4, .null, .int 0])), (q1, .inl (cy 1, 200, .inl (fun _ => 0))), (q2, .inl (cy 1, 200, .inl (fun _ => 0))), (q3, .inl (cy 1, 200, .inl (fun _ => 0))), (q4, .inl (cy 1, 200, .inl (fun _ => 0))), (q5, .inl (cy 1, 200, .inl (fun _ => 0)))] H := hP
  have hD : va_D A [(h0, .inr (1, [.null, .ref q1, .ref q2, .ref q3, .ref q4, .null, .int 0])), (q1, .inl (cy 1, 200, .inl (fun _ => 0))), (q2, .inl (cy 1, 200, .inl (fun _ => 0))), (q3, .inl (cy 1, 200, .inl (fun _ => 0))), (q4, .inl (cy 1, 200, .inl (fun _ => 0))), (q5, .inl (cy 1, 200, .inl (fun _ => 0)))] := hD
  refine va_putF (D := D) (ci := 1) (v := .ref q5) (ty := (.array .int)) (C := RX1) (T := TX1) (N := 7) hx hb hts xt_inX1 tyX1 tyX1_ok nmX1 hown hK hP hD hS 0 rfl rfl 5 (by decide) (hts _ xt_1_217) (fun _ h9 => h9) rfl hin rfl (by decide +kernel) rfl rfl (Nat.le_of_ble_eq_true rfl) dX1_init_46 (fun H locs hP hD hS => ?_)
  have hP : va_P D vwCl [(h0, .inr (1, [.null, .ref q1, .ref q2, .ref q3, .ref q4, .ref q5, .int 0])), (q1, .inl (cy 1, 200, .inl (fun _ => 0))), (q2, .inl (cy 1, 200, .inl (fun _ => 0))), (q3, .inl (cy 1, 200, .inl (fun _ => 0))), (q4, .inl (cy 1, 200, .inl (fun _ => 0))), (q5, .inl (cy 1, 200, .inl (fun _ => 0)))] H := hP
  have hD : va_D A [(h0, .inr (1, [.null, .ref q1, .ref q2, .ref q3, .ref q4, .ref q5, .int 0])), (q1, .inl (cy 1, 200, .inl (fun _ => 0))), (q2, .inl (cy 1, 200, .inl (fun _ => 0))), (q3, .inl (cy 1, 200, .inl (fun _ => 0))), (q4, .inl (cy 1, 200, .inl (fun _ => 0))), (q5, .inl (cy 1, 200, .inl (fun _ => 0)))] := hD
  refine lv_aload_n hx hb dX1_init_49 rfl (lv_at hl 0 rfl) ?_
  refine lv_iconst (v := (0 : Int32)) hx hb dX1_init_50 (by decide) ?_
  refine va_put (D := D) (ci := 1) (v := .int (0 : Int32)) (ty := .int) (C := RX1) (T := TX1) (N := 7) hx hb hts xt_inX1 tyX1 tyX1_ok nmX1 hown hK hP hD hS 0 rfl rfl 6 (by decide) (hts _ xt_1_218) (fun _ h9 => h9) rfl (by decide +kernel) rfl rfl (Nat.le_of_ble_eq_true rfl) dX1_init_51 (fun H locs hP hD hS => ?_)
  have hP : va_P D vwCl [(h0, .inr (1, [.null, .ref q1, .ref q2, .ref q3, .ref q4, .ref q5, .int (0 : Int32)])), (q1, .inl (cy 1, 200, .inl (fun _ => 0))), (q2, .inl (cy 1, 200, .inl (fun _ => 0))), (q3, .inl (cy 1, 200, .inl (fun _ => 0))), (q4, .inl (cy 1, 200, .inl (fun _ => 0))), (q5, .inl (cy 1, 200, .inl (fun _ => 0)))] H := hP
  have hD : va_D A [(h0, .inr (1, [.null, .ref q1, .ref q2, .ref q3, .ref q4, .ref q5, .int (0 : Int32)])), (q1, .inl (cy 1, 200, .inl (fun _ => 0))), (q2, .inl (cy 1, 200, .inl (fun _ => 0))), (q3, .inl (cy 1, 200, .inl (fun _ => 0))), (q4, .inl (cy 1, 200, .inl (fun _ => 0))), (q5, .inl (cy 1, 200, .inl (fun _ => 0)))] := hD
  refine lv_aload_n hx hb dX1_init_54 rfl (lv_at hl 0 rfl) ?_
  refine lv_aload_n hx hb dX1_init_55 rfl (lv_at hl 1 rfl) ?_
  refine va_putF (D := D) (ci := 1) (v := .ref r1) (ty := (.object "ShowRings$Kennel")) (C := RX1) (T := TX1) (N := 7) hx hb hts xt_inX1 tyX1 tyX1_ok nmX1 hown hK hP hD hS 0 rfl rfl 0 (by decide) (hts _ xt_1_212) (fun _ h9 => h9) rfl hin rfl (by decide +kernel) rfl rfl (Nat.le_of_ble_eq_true rfl) dX1_init_56 (fun H locs hP hD hS => ?_)
  have hP : va_P D vwCl [(h0, .inr (1, [.ref r1, .ref q1, .ref q2, .ref q3, .ref q4, .ref q5, .int (0 : Int32)])), (q1, .inl (cy 1, 200, .inl (fun _ => 0))), (q2, .inl (cy 1, 200, .inl (fun _ => 0))), (q3, .inl (cy 1, 200, .inl (fun _ => 0))), (q4, .inl (cy 1, 200, .inl (fun _ => 0))), (q5, .inl (cy 1, 200, .inl (fun _ => 0)))] H := hP
  have hD : va_D A [(h0, .inr (1, [.ref r1, .ref q1, .ref q2, .ref q3, .ref q4, .ref q5, .int (0 : Int32)])), (q1, .inl (cy 1, 200, .inl (fun _ => 0))), (q2, .inl (cy 1, 200, .inl (fun _ => 0))), (q3, .inl (cy 1, 200, .inl (fun _ => 0))), (q4, .inl (cy 1, 200, .inl (fun _ => 0))), (q5, .inl (cy 1, 200, .inl (fun _ => 0)))] := hD
  subst hAe
  exact xn_ret (fun k => [q1, q2, q3, q4, q5].getD k 0) X hr hk hP hD hS (Nat.le_of_ble_eq_true rfl) (Nat.le_of_ble_eq_true rfl) dX1_init_59
set_option maxRecDepth 100000 in
set_option maxHeartbeats 4000000 in
theorem xn_Club (l : Launch) (D : va_G) (cy : Nat → ClassId) (h0 : Nat) (r1 : Nat) (r2 : Nat) (r3 : Nat) : xn_C l yX0_init cX0_init 4 { frames := 1, cells := 1, slots := 9, locals := 20 } D cy [(h0, .inr (0, [.null, .null, .null, .null]))] [.ref h0, .ref r1, .ref r2, .ref r3] (fun u => [(h0, .inr (0, [.ref r1, .ref r2, .ref r3, .ref (u 0)])), ((u 0), .inl (cy 1, 9, .inl (fun _ => 0)))]) 1 9 := by
  refine xn_C.of RX0 rfl rfl (by decide) (Nat.le_of_ble_eq_true rfl) (fun p e s m below meth c X hA hP hD hS hr hk hin ls hl => ?_)
  have hx := X.1
  have hb := X.2.1
  have hown := X.2.2.2.1
  have hts := X.2.2.2.2.1
  have hK := X.2.2.2.2.2.2.1
  have hl : lv_has ls 4 [(0, .ref h0), (1, .ref r1), (2, .ref r2), (3, .ref r3)] := hl
  generalize hAe : va_A [(h0, .inr (0, [.null, .null, .null, .null]))] s.heap.size = A at hA hD hS ⊢
  refine lv_aload_n hx hb dX0_init_0 rfl (lv_at hl 0 rfl) ?_
  refine xn_obj X xt_2_0 hl.1 dX0_init_1 (Nat.le_of_ble_eq_true rfl) (Nat.le_of_ble_eq_true rfl) ?_
  refine lv_aload_n hx hb dX0_init_4 rfl (lv_at hl 0 rfl) ?_
  refine lv_bipush (v := (9 : Int32)) hx hb dX0_init_5 (by decide) ?_
  refine xn_newa X hA hP hD hS (ty := .int) (a0 := (9, .inl (fun _ => 0))) (N := 9) 1 rfl xt_1_91 rfl (fun _ _ h1 h2 => Option.some.inj (h1.symm.trans h2)) (fun _ => rfl) (by decide) (by decide) (by decide) (Nat.le_of_ble_eq_true rfl) (Nat.le_of_ble_eq_true rfl) dX0_init_7 (fun q1 H hP hD hS => ?_)
  have hP : va_P D vwCl [(h0, .inr (0, [.null, .null, .null, .null])), (q1, .inl (cy 1, 9, .inl (fun _ => 0)))] H := hP
  have hD : va_D A [(h0, .inr (0, [.null, .null, .null, .null])), (q1, .inl (cy 1, 9, .inl (fun _ => 0)))] := hD
  refine va_putF (D := D) (ci := 0) (v := .ref q1) (ty := (.array .int)) (C := RX0) (T := TX0) (N := 4) hx hb hts xt_inX0 tyX0 tyX0_ok nmX0 hown hK hP hD hS 0 rfl rfl 3 (by decide) (hts _ xt_2_4) (fun _ h9 => h9) rfl hin rfl (by decide +kernel) rfl rfl (Nat.le_of_ble_eq_true rfl) dX0_init_9 (fun H locs hP hD hS => ?_)
  have hP : va_P D vwCl [(h0, .inr (0, [.null, .null, .null, .ref q1])), (q1, .inl (cy 1, 9, .inl (fun _ => 0)))] H := hP
  have hD : va_D A [(h0, .inr (0, [.null, .null, .null, .ref q1])), (q1, .inl (cy 1, 9, .inl (fun _ => 0)))] := hD
  refine lv_aload_n hx hb dX0_init_12 rfl (lv_at hl 0 rfl) ?_
  refine lv_aload_n hx hb dX0_init_13 rfl (lv_at hl 1 rfl) ?_
  refine va_putF (D := D) (ci := 0) (v := .ref r1) (ty := (.object "ShowRings$Text")) (C := RX0) (T := TX0) (N := 4) hx hb hts xt_inX0 tyX0 tyX0_ok nmX0 hown hK hP hD hS 0 rfl rfl 0 (by decide) (hts _ xt_2_1) (fun _ h9 => h9) rfl hin rfl (by decide +kernel) rfl rfl (Nat.le_of_ble_eq_true rfl) dX0_init_14 (fun H locs hP hD hS => ?_)
  have hP : va_P D vwCl [(h0, .inr (0, [.ref r1, .null, .null, .ref q1])), (q1, .inl (cy 1, 9, .inl (fun _ => 0)))] H := hP
  have hD : va_D A [(h0, .inr (0, [.ref r1, .null, .null, .ref q1])), (q1, .inl (cy 1, 9, .inl (fun _ => 0)))] := hD
  refine lv_aload_n hx hb dX0_init_17 rfl (lv_at hl 0 rfl) ?_
  refine lv_aload_n hx hb dX0_init_18 rfl (lv_at hl 2 rfl) ?_
  refine va_putF (D := D) (ci := 0) (v := .ref r2) (ty := (.object "ShowRings$Kennel")) (C := RX0) (T := TX0) (N := 4) hx hb hts xt_inX0 tyX0 tyX0_ok nmX0 hown hK hP hD hS 0 rfl rfl 1 (by decide) (hts _ xt_2_2) (fun _ h9 => h9) rfl hin rfl (by decide +kernel) rfl rfl (Nat.le_of_ble_eq_true rfl) dX0_init_19 (fun H locs hP hD hS => ?_)
  have hP : va_P D vwCl [(h0, .inr (0, [.ref r1, .ref r2, .null, .ref q1])), (q1, .inl (cy 1, 9, .inl (fun _ => 0)))] H := hP
  have hD : va_D A [(h0, .inr (0, [.ref r1, .ref r2, .null, .ref q1])), (q1, .inl (cy 1, 9, .inl (fun _ => 0)))] := hD
  refine lv_aload_n hx hb dX0_init_22 rfl (lv_at hl 0 rfl) ?_
  refine lv_aload_n hx hb dX0_init_23 rfl (lv_at hl 3 rfl) ?_
  refine va_putF (D := D) (ci := 0) (v := .ref r3) (ty := (.object "ShowRings$Facts")) (C := RX0) (T := TX0) (N := 4) hx hb hts xt_inX0 tyX0 tyX0_ok nmX0 hown hK hP hD hS 0 rfl rfl 2 (by decide) (hts _ xt_2_3) (fun _ h9 => h9) rfl hin rfl (by decide +kernel) rfl rfl (Nat.le_of_ble_eq_true rfl) dX0_init_24 (fun H locs hP hD hS => ?_)
  have hP : va_P D vwCl [(h0, .inr (0, [.ref r1, .ref r2, .ref r3, .ref q1])), (q1, .inl (cy 1, 9, .inl (fun _ => 0)))] H := hP
  have hD : va_D A [(h0, .inr (0, [.ref r1, .ref r2, .ref r3, .ref q1])), (q1, .inl (cy 1, 9, .inl (fun _ => 0)))] := hD
  subst hAe
  exact xn_ret (fun k => [q1].getD k 0) X hr hk hP hD hS (Nat.le_of_ble_eq_true rfl) (Nat.le_of_ble_eq_true rfl) dX0_init_27
set_option maxRecDepth 100000 in
set_option maxHeartbeats 4000000 in
theorem xn_Results (l : Launch) (D : va_G) (cy : Nat → ClassId) (h0 : Nat) (r1 : Nat) (r2 : Nat) (r3 : Nat) : xn_C l yX5_init cX5_init 4 { frames := 1, cells := 0, slots := 0, locals := 20 } D cy [(h0, .inr (5, [.null, .null, .null]))] [.ref h0, .ref r1, .ref r2, .ref r3] (fun u => [(h0, .inr (5, [.ref r1, .ref r2, .ref r3]))]) 0 0 := by
  refine xn_C.of RX5 rfl rfl (by decide) (Nat.le_of_ble_eq_true rfl) (fun p e s m below meth c X hA hP hD hS hr hk hin ls hl => ?_)
  have hx := X.1
  have hb := X.2.1
  have hown := X.2.2.2.1
  have hts := X.2.2.2.2.1
  have hK := X.2.2.2.2.2.2.1
  have hl : lv_has ls 4 [(0, .ref h0), (1, .ref r1), (2, .ref r2), (3, .ref r3)] := hl
  generalize hAe : va_A [(h0, .inr (5, [.null, .null, .null]))] s.heap.size = A at hA hD hS ⊢
  refine lv_aload_n hx hb dX5_init_0 rfl (lv_at hl 0 rfl) ?_
  refine xn_obj X xt_2_72 hl.1 dX5_init_1 (Nat.le_of_ble_eq_true rfl) (Nat.le_of_ble_eq_true rfl) ?_
  refine lv_aload_n hx hb dX5_init_4 rfl (lv_at hl 0 rfl) ?_
  refine lv_aload_n hx hb dX5_init_5 rfl (lv_at hl 1 rfl) ?_
  refine va_putF (D := D) (ci := 5) (v := .ref r1) (ty := (.object "ShowRings$Kennel")) (C := RX5) (T := TX5) (N := 3) hx hb hts xt_inX5 tyX5 tyX5_ok nmX5 hown hK hP hD hS 0 rfl rfl 0 (by decide) (hts _ xt_2_73) (fun _ h9 => h9) rfl hin rfl (by decide +kernel) rfl rfl (Nat.le_of_ble_eq_true rfl) dX5_init_6 (fun H locs hP hD hS => ?_)
  have hP : va_P D vwCl [(h0, .inr (5, [.ref r1, .null, .null]))] H := hP
  have hD : va_D A [(h0, .inr (5, [.ref r1, .null, .null]))] := hD
  refine lv_aload_n hx hb dX5_init_9 rfl (lv_at hl 0 rfl) ?_
  refine lv_aload_n hx hb dX5_init_10 rfl (lv_at hl 2 rfl) ?_
  refine va_putF (D := D) (ci := 5) (v := .ref r2) (ty := (.object "ShowRings$Facts")) (C := RX5) (T := TX5) (N := 3) hx hb hts xt_inX5 tyX5 tyX5_ok nmX5 hown hK hP hD hS 0 rfl rfl 1 (by decide) (hts _ xt_2_74) (fun _ h9 => h9) rfl hin rfl (by decide +kernel) rfl rfl (Nat.le_of_ble_eq_true rfl) dX5_init_11 (fun H locs hP hD hS => ?_)
  have hP : va_P D vwCl [(h0, .inr (5, [.ref r1, .ref r2, .null]))] H := hP
  have hD : va_D A [(h0, .inr (5, [.ref r1, .ref r2, .null]))] := hD
  refine lv_aload_n hx hb dX5_init_14 rfl (lv_at hl 0 rfl) ?_
  refine lv_aload_n hx hb dX5_init_15 rfl (lv_at hl 3 rfl) ?_
  refine va_putF (D := D) (ci := 5) (v := .ref r3) (ty := (.object "ShowRings$Club")) (C := RX5) (T := TX5) (N := 3) hx hb hts xt_inX5 tyX5 tyX5_ok nmX5 hown hK hP hD hS 0 rfl rfl 2 (by decide) (hts _ xt_2_75) (fun _ h9 => h9) rfl hin rfl (by decide +kernel) rfl rfl (Nat.le_of_ble_eq_true rfl) dX5_init_16 (fun H locs hP hD hS => ?_)
  have hP : va_P D vwCl [(h0, .inr (5, [.ref r1, .ref r2, .ref r3]))] H := hP
  have hD : va_D A [(h0, .inr (5, [.ref r1, .ref r2, .ref r3]))] := hD
  subst hAe
  exact xn_ret (fun k => [].getD k 0) X hr hk hP hD hS (Nat.le_of_ble_eq_true rfl) (Nat.le_of_ble_eq_true rfl) dX5_init_19
