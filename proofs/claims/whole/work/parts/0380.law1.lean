/-! THE CLAIM OUT OF ONE WALK OF THE LAW'S BODY. Your part is whole_start (and what it stands on); all else here is the same for every law, but numbers. -/
def R_law : String := "ShowRingsLaw"
def lw_P (b : Addr) (xs : List Int32) (args : Array Value) (s : State) : Prop := args = #[.ref b] ∧ s.IntsAt b xs ∧ xs.length ≤ 3072 ∧ (Jvm.Cond.and given_1 narrow_1).before args s = true
def lw_Q (_ : Array Value) (s : State) (o : Outcome) (t : State) : Prop := o = .returned (some (.int 1)) ∧ Framed s o t [] 600000 7302250
def lw_Z (below : List Frame) (a : Array Value) (s : State) : State → Prop := fun t => ∃ o, t.status = .running ∧ Ended t below o ∧ lw_Q a s o t
/-- the law's own end, with 1 on the stack, nothing written that was there before, its room as the claim has it -/
theorem lw_ret {p : Program} {l : Launch} {e : Env} {s : State} {m : MethodId} {below : List Frame} {meth : Method} {c : Code} {b : Nat} (hx : p.tables.exec = Jvm.exec) (hb : c.code = code) (hr : meth.sig.returnType = ret) (hlocks : meth.locks = false) {pc : Nat} {H : Heap} {ls : Array Slot} (hdg : decode code pc = .ok (.ireturn, 1)) : W p l e room_1 s m #[Value.ref b] below meth c H [] 600000 7302250 (lw_Z below #[Value.ref b] s) (F0 m pc ls [.int 1]) := by
  intro T hT X
  obtain ⟨fs, hret, hrun, hended, hW, hframe⟩ := X.leave (v := some (.int 1)) (hlocks := hlocks) (fun h => by rw [hr] at h; cases h)
  have hmeth' : T.vm.method? m = some meth := X.method'
  refine ⟨T.setFrames fs, ?_, .returned (some (.int 1)), hrun, hended, rfl, ⟨_, rfl⟩, hW, hframe⟩
  jvm_step X.here [X.here.top, hx, hb, hdg, hmeth', hr, ret, narrow_b1]
  (try refine ⟨rfl, ?_⟩); (try refine ⟨rfl, ?_⟩)
  first | (intro acts; rw [hret _ acts rfl rfl rfl]) | rw [hret _ _ rfl rfl rfl]
  exact Steps.refl _
/-- what holds at the law's entry: the machine, the code, the tables' words (any of lw_tbl by 'hts w (by decide +kernel)'), the script of L ints xs at the cell b, what the Statement gives of the start (any of its parts by flat_of_before) -/
def lw_At (p : Program) (s : State) (m : MethodId) (meth : Method) (c : Code) (b L : Nat) (xs : Nat → Int32) : Prop :=
  p.tables.exec = Jvm.exec ∧ c.code = code ∧ meth.sig.returnType = ret ∧ c.maxLocals = 4 ∧ s.vm.findClass R_law = some m.cls ∧ (∀ w ∈ lw_tbl, w.before #[Value.ref b] s = true) ∧ va_X b L xs s s.heap ∧ b < s.heap.size ∧ meth.locks = false ∧ (Jvm.Cond.and given_1 narrow_1).before #[Value.ref b] s = true
theorem xq_tb1 {w : Cond} (h : w ∈ tables_1_1) : w ∈ tables_1 := show w ∈ tables_1_1 ++ (tables_1_2 ++ (tables_1_3 ++ (tables_1_4 ++ (tables_1_5 ++ (tables_1_6))))) from List.mem_append_left _ h
theorem xq_tb2 {w : Cond} (h : w ∈ tables_1_2) : w ∈ tables_1 := show w ∈ tables_1_1 ++ (tables_1_2 ++ (tables_1_3 ++ (tables_1_4 ++ (tables_1_5 ++ (tables_1_6))))) from List.mem_append_right _ (List.mem_append_left _ h)
theorem xq_tb3 {w : Cond} (h : w ∈ tables_1_3) : w ∈ tables_1 := show w ∈ tables_1_1 ++ (tables_1_2 ++ (tables_1_3 ++ (tables_1_4 ++ (tables_1_5 ++ (tables_1_6))))) from List.mem_append_right _ (List.mem_append_right _ (List.mem_append_left _ h))
theorem xq_tb4 {w : Cond} (h : w ∈ tables_1_4) : w ∈ tables_1 := show w ∈ tables_1_1 ++ (tables_1_2 ++ (tables_1_3 ++ (tables_1_4 ++ (tables_1_5 ++ (tables_1_6))))) from List.mem_append_right _ (List.mem_append_right _ (List.mem_append_right _ (List.mem_append_left _ h)))
theorem xq_tb5 {w : Cond} (h : w ∈ tables_1_5) : w ∈ tables_1 := show w ∈ tables_1_1 ++ (tables_1_2 ++ (tables_1_3 ++ (tables_1_4 ++ (tables_1_5 ++ (tables_1_6))))) from List.mem_append_right _ (List.mem_append_right _ (List.mem_append_right _ (List.mem_append_right _ (List.mem_append_left _ h))))
theorem xq_tb6 {w : Cond} (h : w ∈ tables_1_6) : w ∈ tables_1 := show w ∈ tables_1_1 ++ (tables_1_2 ++ (tables_1_3 ++ (tables_1_4 ++ (tables_1_5 ++ (tables_1_6))))) from List.mem_append_right _ (List.mem_append_right _ (List.mem_append_right _ (List.mem_append_right _ (List.mem_append_right _ (h)))))
theorem xq_nF : ∀ f ∈ xw_nF, Cond.fieldLinkNest f.1 f.2.1 f.2.2.1 f.2.2.2.1 f.2.2.2.2 "ShowRings" ∈ lw_tbl := by
  intro f hf
  simp only [xw_nF, List.mem_cons, List.not_mem_nil, or_false] at hf
  rcases hf with rfl | rfl | rfl | rfl | rfl | rfl | rfl | rfl | rfl | rfl | rfl | rfl | rfl | rfl | rfl | rfl | rfl | rfl | rfl | rfl | rfl | rfl | rfl | rfl | rfl | rfl | rfl | rfl | rfl | rfl | rfl | rfl | rfl | rfl | rfl | rfl | rfl | rfl | rfl | rfl | rfl | rfl
  · exact List.mem_append_right _ (xq_tb1 (List.mem_of_getElem? (i := 37) (by decide +kernel)))
  · exact List.mem_append_right _ (xq_tb1 (List.mem_of_getElem? (i := 38) (by decide +kernel)))
  · exact List.mem_append_right _ (xq_tb1 (List.mem_of_getElem? (i := 53) (by decide +kernel)))
  · exact List.mem_append_right _ (xq_tb1 (List.mem_of_getElem? (i := 54) (by decide +kernel)))
  · exact List.mem_append_right _ (xq_tb1 (List.mem_of_getElem? (i := 56) (by decide +kernel)))
  · exact List.mem_append_right _ (xq_tb1 (List.mem_of_getElem? (i := 64) (by decide +kernel)))
  · exact List.mem_append_right _ (xq_tb1 (List.mem_of_getElem? (i := 65) (by decide +kernel)))
  · exact List.mem_append_right _ (xq_tb1 (List.mem_of_getElem? (i := 67) (by decide +kernel)))
  · exact List.mem_append_right _ (xq_tb1 (List.mem_of_getElem? (i := 102) (by decide +kernel)))
  · exact List.mem_append_right _ (xq_tb1 (List.mem_of_getElem? (i := 104) (by decide +kernel)))
  · exact List.mem_append_right _ (xq_tb1 (List.mem_of_getElem? (i := 106) (by decide +kernel)))
  · exact List.mem_append_right _ (xq_tb1 (List.mem_of_getElem? (i := 108) (by decide +kernel)))
  · exact List.mem_append_right _ (xq_tb1 (List.mem_of_getElem? (i := 126) (by decide +kernel)))
  · exact List.mem_append_right _ (xq_tb1 (List.mem_of_getElem? (i := 129) (by decide +kernel)))
  · exact List.mem_append_right _ (xq_tb1 (List.mem_of_getElem? (i := 131) (by decide +kernel)))
  · exact List.mem_append_right _ (xq_tb1 (List.mem_of_getElem? (i := 151) (by decide +kernel)))
  · exact List.mem_append_right _ (xq_tb1 (List.mem_of_getElem? (i := 152) (by decide +kernel)))
  · exact List.mem_append_right _ (xq_tb1 (List.mem_of_getElem? (i := 154) (by decide +kernel)))
  · exact List.mem_append_right _ (xq_tb1 (List.mem_of_getElem? (i := 156) (by decide +kernel)))
  · exact List.mem_append_right _ (xq_tb1 (List.mem_of_getElem? (i := 160) (by decide +kernel)))
  · exact List.mem_append_right _ (xq_tb1 (List.mem_of_getElem? (i := 161) (by decide +kernel)))
  · exact List.mem_append_right _ (xq_tb1 (List.mem_of_getElem? (i := 162) (by decide +kernel)))
  · exact List.mem_append_right _ (xq_tb1 (List.mem_of_getElem? (i := 164) (by decide +kernel)))
  · exact List.mem_append_right _ (xq_tb1 (List.mem_of_getElem? (i := 166) (by decide +kernel)))
  · exact List.mem_append_right _ (xq_tb1 (List.mem_of_getElem? (i := 168) (by decide +kernel)))
  · exact List.mem_append_right _ (xq_tb1 (List.mem_of_getElem? (i := 171) (by decide +kernel)))
  · exact List.mem_append_right _ (xq_tb1 (List.mem_of_getElem? (i := 172) (by decide +kernel)))
  · exact List.mem_append_right _ (xq_tb1 (List.mem_of_getElem? (i := 174) (by decide +kernel)))
  · exact List.mem_append_right _ (xq_tb1 (List.mem_of_getElem? (i := 175) (by decide +kernel)))
  · exact List.mem_append_right _ (xq_tb1 (List.mem_of_getElem? (i := 176) (by decide +kernel)))
  · exact List.mem_append_right _ (xq_tb1 (List.mem_of_getElem? (i := 177) (by decide +kernel)))
  · exact List.mem_append_right _ (xq_tb1 (List.mem_of_getElem? (i := 178) (by decide +kernel)))
  · exact List.mem_append_right _ (xq_tb1 (List.mem_of_getElem? (i := 219) (by decide +kernel)))
  · exact List.mem_append_right _ (xq_tb2 (List.mem_of_getElem? (i := 41) (by decide +kernel)))
  · exact List.mem_append_right _ (xq_tb2 (List.mem_of_getElem? (i := 44) (by decide +kernel)))
  · exact List.mem_append_right _ (xq_tb2 (List.mem_of_getElem? (i := 93) (by decide +kernel)))
  · exact List.mem_append_right _ (xq_tb2 (List.mem_of_getElem? (i := 95) (by decide +kernel)))
  · exact List.mem_append_right _ (xq_tb2 (List.mem_of_getElem? (i := 96) (by decide +kernel)))
  · exact List.mem_append_right _ (xq_tb2 (List.mem_of_getElem? (i := 98) (by decide +kernel)))
  · exact List.mem_append_right _ (xq_tb2 (List.mem_of_getElem? (i := 99) (by decide +kernel)))
  · exact List.mem_append_right _ (xq_tb2 (List.mem_of_getElem? (i := 101) (by decide +kernel)))
  · exact List.mem_append_right _ (xq_tb2 (List.mem_of_getElem? (i := 102) (by decide +kernel)))
theorem xq_nM : ∀ f ∈ xw_nM, Cond.methodLinkNest f.1 f.2.1 f.2.2 "ShowRings" ∈ lw_tbl := by
  intro f hf
  simp only [xw_nM, List.mem_cons, List.not_mem_nil, or_false] at hf
  rcases hf with rfl | rfl | rfl | rfl | rfl | rfl | rfl | rfl | rfl
  · exact List.mem_append_right _ (xq_tb1 (List.mem_of_getElem? (i := 31) (by decide +kernel)))
  · exact List.mem_append_right _ (xq_tb1 (List.mem_of_getElem? (i := 47) (by decide +kernel)))
  · exact List.mem_append_right _ (xq_tb1 (List.mem_of_getElem? (i := 145) (by decide +kernel)))
  · exact List.mem_append_right _ (xq_tb3 (List.mem_of_getElem? (i := 87) (by decide +kernel)))
  · exact List.mem_append_right _ (xq_tb3 (List.mem_of_getElem? (i := 143) (by decide +kernel)))
  · exact List.mem_append_right _ (xq_tb3 (List.mem_of_getElem? (i := 148) (by decide +kernel)))
  · exact List.mem_append_right _ (xq_tb3 (List.mem_of_getElem? (i := 168) (by decide +kernel)))
  · exact List.mem_append_right _ (xq_tb4 (List.mem_of_getElem? (i := 1) (by decide +kernel)))
  · exact List.mem_append_right _ (xq_tb4 (List.mem_of_getElem? (i := 100) (by decide +kernel)))
set_option maxRecDepth 100000 in
theorem xq_elems : (List.range 128).all (fun j => decide (Cond.eq (.elem (.field (.string "ShowRings$Scanner" 63) "java/lang/String" "value" "[B") (.int (Int32.ofNat j))) (.int (xs_b.getD j 0)) ∈ flatC (Jvm.Cond.and given_1 narrow_1))) = true := by decide +kernel

theorem xq_start {p : Program} {s : State} {m : MethodId} {meth : Method} {c : Code} {b L : Nat} {xs : Nat → Int32} (C0 : lw_At p s m meth c b L xs) : ∃ (D : va_G) (cy : Nat → ClassId) (ak av : Nat), (∀ w ∈ xw_T, w.before #[Value.ref b] s = true) ∧ xw_N s ∧ va_K D vwCl (xw_ty cy) s ∧ va_AO "ShowRings$Show" s ∧ xs_G ak av (fun q : Nat => s.heap.size ≤ q) s s.heap := by
  obtain ⟨hx, hb, hr, hml, hown, hts, hX, hbl, hlocks, hgv⟩ := C0
  have hT : ∀ w ∈ xw_T, w.before #[Value.ref b] s = true := fun w h => hts w (List.mem_filter.mp h).1
  have hN : xw_N s := ⟨fun f hf => va_Nw.of rfl (hts _ (xq_nF f hf)), fun f hf => va_Nw.of rfl (hts _ (xq_nM f hf))⟩
  obtain ⟨k0, i0, hk0⟩ := u_known (C := RX0) (T := TX0) (N := 4) (n := 4) hT xt_inX0 (hT _ xi_X0)
  obtain ⟨k1, i1, hk1⟩ := u_known (C := RX1) (T := TX1) (N := 7) (n := 7) hT xt_inX1 (hT _ xi_X1)
  obtain ⟨k2, i2, hk2⟩ := u_known (C := RX2) (T := TX2) (N := 13) (n := 13) hT xt_inX2 (hT _ xi_X2)
  obtain ⟨k3, i3, hk3⟩ := u_known (C := RX3) (T := TX3) (N := 5) (n := 5) hT xt_inX3 (hT _ xi_X3)
  obtain ⟨k4, i4, hk4⟩ := u_known (C := RX4) (T := TX4) (N := 10) (n := 10) hT xt_inX4 (hT _ xi_X4)
  obtain ⟨k5, i5, hk5⟩ := u_known (C := RX5) (T := TX5) (N := 3) (n := 3) hT xt_inX5 (hT _ xi_X5)
  obtain ⟨k6, i6, hk6⟩ := u_known (C := RX6) (T := TX6) (N := 5) (n := 5) hT xt_inX6 (hT _ xi_X6)
  obtain ⟨k7, i7, hk7⟩ := u_known (C := RX7) (T := TX7) (N := 4) (n := 4) hT xt_inX7 (hT _ xi_X7)
  obtain ⟨k8, i8, hk8⟩ := u_known (C := RX8) (T := TX8) (N := 2) (n := 2) hT xt_inX8 (hT _ xi_X8)
  obtain ⟨k9, i9, hk9⟩ := u_known (C := RX9) (T := TX9) (N := 11) (n := 11) hT xt_inX9 (hT _ xi_X9)
  obtain ⟨k10, i10, hk10⟩ := u_known (C := RX10) (T := TX10) (N := 1) (n := 1) hT xt_inX10 (hT _ xi_X10)
  obtain ⟨k11, i11, hk11⟩ := u_known (C := RX11) (T := TX11) (N := 12) (n := 12) hT xt_inX11 (hT _ xi_X11)
  obtain ⟨k12, i12, hk12⟩ := u_known (C := RX12) (T := TX12) (N := 77) (n := 77) hT xt_inX12 (hT _ xi_X12)
  obtain ⟨dC, dI, hKc⟩ : ∃ (dC : Nat → ClassId) (dI : Nat → Nat → Nat), ∀ (k : Nat) (q : vw_C), vwCl[k]? = some q → u_Kn s q.1 q.2.1 q.2.2 (dC k) (dI k) := by
    refine ⟨fun k => [k0, k1, k2, k3, k4, k5, k6, k7, k8, k9, k10, k11, k12].getD k 0, fun k => [i0, i1, i2, i3, i4, i5, i6, i7, i8, i9, i10, i11, i12].getD k (fun _ => 0), ?_⟩
    intro k q hq
    match k, hq with
    | 0, hq => cases hq; exact hk0
    | 1, hq => cases hq; exact hk1
    | 2, hq => cases hq; exact hk2
    | 3, hq => cases hq; exact hk3
    | 4, hq => cases hq; exact hk4
    | 5, hq => cases hq; exact hk5
    | 6, hq => cases hq; exact hk6
    | 7, hq => cases hq; exact hk7
    | 8, hq => cases hq; exact hk8
    | 9, hq => cases hq; exact hk9
    | 10, hq => cases hq; exact hk10
    | 11, hq => cases hq; exact hk11
    | 12, hq => cases hq; exact hk12
    | k + 13, hq => simp [vwCl] at hq
  have hAO : va_AO "ShowRings$Show" s := va_AO.of (hts _ (List.mem_append_right _ (xq_tb2 (List.mem_of_getElem? (i := 84) (by decide +kernel)))))
  obtain ⟨b0, kb0, cb0, f01, f02, f03⟩ := Cond.arrayClass_spec (hts (.arrayClass .byte) (List.mem_append_right _ (xq_tb1 (List.mem_of_getElem? (i := 44) (by decide +kernel)))))
  obtain ⟨b1, kb1, cb1, f11, f12, f13⟩ := Cond.arrayClass_spec (hts (.arrayClass .int) (List.mem_append_right _ (xq_tb1 (List.mem_of_getElem? (i := 91) (by decide +kernel)))))
  obtain ⟨b2, kb2, cb2, f21, f22, f23⟩ := Cond.arrayClass_spec (hts (.arrayClass .long) (List.mem_append_right _ (xq_tb5 (List.mem_of_getElem? (i := 164) (by decide +kernel)))))
  obtain ⟨b3, kb3, cb3, f31, f32, f33⟩ := Cond.arrayClass_spec (hts (.arrayClass .boolean) (List.mem_append_right _ (xq_tb5 (List.mem_of_getElem? (i := 165) (by decide +kernel)))))
  obtain ⟨comp, b4, kb4, f41, f42, f43, f44, f45⟩ := Cond.arrayOver_spec (hts (.arrayOver (.object "ShowRings$Show")) (List.mem_append_right _ (xq_tb2 (List.mem_of_getElem? (i := 84) (by decide +kernel)))))
  have hAr : ∀ {ty : FieldType} {cA kA} {cmp : ClassId}, s.vm.classes[cA]? = some kA → kA.kind = .array cmp ty → ArrOfT s cA ty := fun h2 h3 n z => ⟨fun k h => (by cases h), _, h2, _, h3⟩
  have hK : va_K (dC, dI) vwCl (xw_ty (fun k => [b0, b1, b2, b3, b4].getD k 0)) s := by
    refine ⟨hKc, fun k q hq => ?_⟩
    match k, hq with
    | 0, hq => cases hq; exact ⟨hAr f02 f03, f01⟩
    | 1, hq => cases hq; exact ⟨hAr f12 f13, f11⟩
    | 2, hq => cases hq; exact ⟨hAr f22 f23, f21⟩
    | 3, hq => cases hq; exact ⟨hAr f32 f33, f31⟩
    | 4, hq => cases hq; exact ⟨hAr f43 f44, kb4, comp, f43, f44, f41, f45⟩
    | k + 5, hq => simp [xw_ty] at hq
  have hfl := flat_of_before _ hgv
  have hA : ∀ a : Nat, a < s.heap.size → ¬ s.heap.size ≤ a := fun a h => Nat.not_le.mpr h
  obtain ⟨adK, adV, hS, hev⟩ := vk_Sof (args := #[Value.ref b]) (s := s) (N := 1) (tm := fun _ => .string "ShowRings$Scanner" 63) (len := [128]) (byt := [xs_b]) (A := fun q : Nat => s.heap.size ≤ q)
    (fun i hi => by rcases (show i = 0 by omega) with rfl; decide)
    (fun i hi => hfl _ (by decide +kernel))
    (fun i hi => hfl _ (by decide +kernel))
    (fun i hi => hfl _ (by decide +kernel))
    (fun i hi => by rcases (show i = 0 by omega) with rfl; exact hfl _ (by decide +kernel))
    (fun i hi j hj => by
      rcases (show i = 0 by omega) with rfl
      exact hfl _ (List.all_eq_true.mp xq_elems j (List.mem_range.mpr hj) |> of_decide_eq_true))
    (fun i j hi hj hij => absurd (show i = j by omega) hij) hA
  obtain ⟨g1, g2, g3, g4⟩ := hS.1 0 (by decide)
  refine ⟨(dC, dI), fun k => [b0, b1, b2, b3, b4].getD k 0, adK 0, adV 0, hT, hN, hK, hAO, g1, g2, g3, g4, ?_, ?_, ?_⟩
  · exact va_Zof (hts _ (List.mem_append_right _ (xq_tb2 (List.mem_of_getElem? (i := 210) (by decide +kernel))))) (hts _ (List.mem_append_right _ (xq_tb1 (List.mem_of_getElem? (i := 14) (by decide +kernel))))) (va_eqi (hfl _ (by decide +kernel))) hA
  · exact va_Zqof (hts _ (List.mem_append_right _ (xq_tb2 (List.mem_of_getElem? (i := 230) (by decide +kernel))))) (hts _ (List.mem_append_right _ (xq_tb1 (List.mem_of_getElem? (i := 16) (by decide +kernel))))) (hfl _ (by decide +kernel)) hA
  · exact vk_R.of (A := #[Value.ref b]) (hts (.stringRef "ShowRings$Scanner" 63 xs_tx) (List.mem_append_right _ (xq_tb2 (List.mem_of_getElem? (i := 200) (by decide +kernel))))) (hev 0 (by decide))

/-- the two systems beside each other: their cells are apart, and all new -/
def xq_S (s : State) (qa qb : Nat → Nat) : Prop := xw_dj xl_A qa ∧ xw_dj xl_B qb ∧ (∀ k, k < xl_A.length → s.heap.size ≤ qa k) ∧ (∀ k, k < xl_B.length → s.heap.size ≤ qb k) ∧ ∀ i j, i < xl_A.length → j < xl_B.length → qa i ≠ qb j
abbrev xq_L (D : va_G) (cy : Nat → ClassId) (qa qb : Nat → Nat) (s : State) (σ τ : xw_M) (H : Heap) (locs : List Loc) : Prop := va_P D vwCl (xw_d cy xl_A qa σ) H ∧ va_P D vwCl (xw_d cy xl_B qb τ) H ∧ va_S (fun q : Nat => s.heap.size ≤ q) s.heap H locs
theorem xq_other {D : va_G} {cy : Nat → ClassId} {lay1 lay2 : List xw_E} {q1 q2 : Nat → Nat} {τ : xw_M} {H H1 : Heap} (hP : va_P D vwCl (xw_d cy lay2 q2 τ) H) (hne : ∀ i j, i < lay1.length → j < lay2.length → q1 i ≠ q2 j) (hk : ∀ a : Nat, a < H.size → ¬ xw_A lay1 q1 H.size a → H1[a]? = H[a]?) : va_P D vwCl (xw_d cy lay2 q2 τ) H1 := by
  intro k x hx
  have h1 := hP k x hx
  obtain ⟨e, he, rfl⟩ := xw_of hx
  have h2 := h1.lt
  refine h1.kept (hk _ h2 (fun h => ?_))
  rcases h with ⟨i, hi, h⟩ | h
  · exact hne i k hi (List.getElem?_eq_some_iff.mp he).1 h
  · exact absurd h (Nat.not_le.mpr h2)
section XLW
variable {p : Program} {l : Launch} {e : Env} {R : Room} {s : State} {m : MethodId} {args : Array Value} {below : List Frame} {meth : Method} {c : Code} {H : Heap} {locs : List Loc} {cells slots : Nat} {Q : State → Prop}
variable {D : va_G} {cy : Nat → ClassId} {qa qb : Nat → Nat} {σ τ : xw_M} {pc : Nat} {ls : Array Slot} {rest : List Value}
theorem xq_hA (hw : xq_L D cy qa qb s σ τ H locs) : xr_H D cy xl_A qa s σ H locs := ⟨hw.1, xn_mono hw.2.2 (fun _ h => Or.inr h)⟩
theorem xq_hB (hw : xq_L D cy qa qb s σ τ H locs) : xr_H D cy xl_B qb s τ H locs := ⟨hw.2.1, xn_mono hw.2.2 (fun _ h => Or.inr h)⟩
theorem xq_iA {Z : Int32 → xw_M → Prop} {st0 : List Value} {a : Array Value} (hst : xq_S s qa qb) (hw : xq_L D cy qa qb s σ τ H locs) (hr : va_Run p l e R s m args below meth c H locs cells slots 0 0 (F0 m pc ls st0) rest (va_Qi Z (xr_po D cy xl_A qa) (xw_A xl_A qa H.size) a) (xw_A xl_A qa H.size))
    (kk : ∀ r σ1 H1 locs1, Z r σ1 → xq_L D cy qa qb s σ1 τ H1 locs1 → W p l e R s m args below meth c H1 locs1 cells slots Q (F0 m (pc + 3) ls (.int r :: rest))) : W p l e R s m args below meth c H locs cells slots Q (F0 m pc ls st0) := by
  have hf : ∀ a, xw_A xl_A qa H.size a → s.heap.size ≤ a := by
    intro a h
    rcases h with ⟨k, hk, rfl⟩ | h
    · exact hst.2.2.1 k hk
    · exact Nat.le_trans hw.2.2.1 h
  exact va_calli hr hw.2.2 (fun a _ h => hf a h) (fun a h => hf a h) (fun r u t H1 locs1 ht _ hZ hB _ hk1 hS => kk r u H1 locs1 hZ ⟨by rw [← ht]; exact hB, xq_other hw.2.1 hst.2.2.2.2 hk1, hS⟩)
theorem xq_iB {Z : Int32 → xw_M → Prop} {st0 : List Value} {a : Array Value} (hst : xq_S s qa qb) (hw : xq_L D cy qa qb s σ τ H locs) (hr : va_Run p l e R s m args below meth c H locs cells slots 0 0 (F0 m pc ls st0) rest (va_Qi Z (xr_po D cy xl_B qb) (xw_A xl_B qb H.size) a) (xw_A xl_B qb H.size))
    (kk : ∀ r τ1 H1 locs1, Z r τ1 → xq_L D cy qa qb s σ τ1 H1 locs1 → W p l e R s m args below meth c H1 locs1 cells slots Q (F0 m (pc + 3) ls (.int r :: rest))) : W p l e R s m args below meth c H locs cells slots Q (F0 m pc ls st0) := by
  have hf : ∀ a, xw_A xl_B qb H.size a → s.heap.size ≤ a := by
    intro a h
    rcases h with ⟨k, hk, rfl⟩ | h
    · exact hst.2.2.2.1 k hk
    · exact Nat.le_trans hw.2.2.1 h
  exact va_calli hr hw.2.2 (fun a _ h => hf a h) (fun a h => hf a h) (fun r u t H1 locs1 ht _ hZ hB _ hk1 hS => kk r u H1 locs1 hZ ⟨xq_other hw.1 (fun i j hi hj h => hst.2.2.2.2 j i hj hi h.symm) hk1, by rw [← ht]; exact hB, hS⟩)
end XLW
theorem xq_ix {i L : Nat} (hi : i + 6 ≤ L) (hL : L ≤ 3072) (k : Nat) (hk : k < 6) : vp_in (nI i + nI k) L := by
  rw [nI_add]; exact vp_in_nI (by omega) (by omega)
theorem xq_ix0 {i L : Nat} (hi : i + 6 ≤ L) (hL : L ≤ 3072) : vp_in (nI i) L := vp_in_nI (by omega) (by omega)
theorem xq_go {i L : Nat} (hi : i ≤ 4000) (hL : L ≤ 3072) (h : ¬ nI L - 6 < nI i) : i + 6 ≤ L := by
  have h1 : (nI L - nI 6).toInt = (L : Int) - 6 := pk_sub_toInt (by omega) (by omega)
  have h2 : (nI i).toInt = (i : Int) := nI_toInt (by omega)
  have h3 : ¬ (nI L - nI 6).toInt < (nI i).toInt := fun z => h (Int32.lt_iff_toInt_lt.mpr z)
  omega
theorem xm_X11_feed : xr_MW yX11_feed cX11_feed 6 (some .int) 5 := ⟨xt_2_152, xt_1_1, by decide, by decide, by decide +kernel⟩
theorem xm_X12_feed : xr_MW yX12_feed cX12_feed 6 (some .int) 5 := ⟨xt_5_169, xt_1_13, by decide, by decide, by decide +kernel⟩
theorem xm_X11_back : xr_MW yX11_back cX11_back 2 (some .int) 1 := ⟨xt_2_160, xt_1_1, by decide, by decide, by decide +kernel⟩
theorem xm_X12_back : xr_MW yX12_back cX12_back 2 (some .int) 1 := ⟨xt_5_177, xt_1_13, by decide, by decide, by decide +kernel⟩
theorem xm_X11_read : xr_MW yX11_read cX11_read 1 (some .int) 0 := ⟨xt_2_164, xt_1_1, by decide, by decide, by decide +kernel⟩
theorem xm_X12_read : xr_MW yX12_read cX12_read 2 (some .int) 0 := ⟨xt_5_181, xt_1_13, by decide, by decide, by decide +kernel⟩
theorem xm_X11_place : xr_MW yX11_place cX11_place 1 (some .int) 0 := ⟨xt_3_72, xt_1_1, by decide, by decide, by decide +kernel⟩
theorem xm_X12_place : xr_MW yX12_place cX12_place 1 (some .int) 0 := ⟨xt_6_7, xt_1_13, by decide, by decide, by decide +kernel⟩
theorem xm_X11_kin : xr_MW yX11_kin cX11_kin 3 (some .boolean) 2 := ⟨xt_3_76, xt_1_1, by decide, by decide, by decide +kernel⟩
theorem xm_X12_kin : xr_MW yX12_kin cX12_kin 3 (some .boolean) 2 := ⟨xt_6_11, xt_1_13, by decide, by decide, by decide +kernel⟩
theorem xm_X11_breed : xr_MW yX11_breed cX11_breed 6 (some .int) 4 := ⟨xt_3_95, xt_1_1, by decide, by decide, by decide +kernel⟩
theorem xm_X12_breed : xr_MW yX12_breed cX12_breed 5 (some .int) 4 := ⟨xt_6_18, xt_1_13, by decide, by decide, by decide +kernel⟩
theorem xm_X11_dog : xr_MW yX11_dog cX11_dog 7 (some .int) 5 := ⟨xt_3_103, xt_1_1, by decide, by decide, by decide +kernel⟩
theorem xm_X12_dog : xr_MW yX12_dog cX12_dog 6 (some .int) 5 := ⟨xt_6_22, xt_1_13, by decide, by decide, by decide +kernel⟩
theorem xm_X11_permits : xr_MW yX11_permits cX11_permits 3 (some .boolean) 2 := ⟨xt_3_118, xt_1_1, by decide, by decide, by decide +kernel⟩
theorem xm_X12_permits : xr_MW yX12_permits cX12_permits 3 (some .boolean) 2 := ⟨xt_6_33, xt_1_13, by decide, by decide, by decide +kernel⟩
theorem xm_X11_rings : xr_MW yX11_rings cX11_rings 2 (some .boolean) 1 := ⟨xt_3_122, xt_1_1, by decide, by decide, by decide +kernel⟩
theorem xm_X12_rings : xr_MW yX12_rings cX12_rings 2 (some .boolean) 1 := ⟨xt_6_37, xt_1_13, by decide, by decide, by decide +kernel⟩
theorem xm_X11_show : xr_MW yX11_show cX11_show 2 (some .int) 1 := ⟨xt_3_126, xt_1_1, by decide, by decide, by decide +kernel⟩
theorem xm_X12_show : xr_MW yX12_show cX12_show 2 (some .int) 1 := ⟨xt_6_41, xt_1_13, by decide, by decide, by decide +kernel⟩
theorem xm_X11_enter : xr_MW yX11_enter cX11_enter 4 (some .int) 2 := ⟨xt_3_130, xt_1_1, by decide, by decide, by decide +kernel⟩
theorem xm_X12_enter : xr_MW yX12_enter cX12_enter 4 (some .int) 2 := ⟨xt_6_121, xt_1_13, by decide, by decide, by decide +kernel⟩
theorem xm_X11_fact : xr_MW yX11_fact cX11_fact 5 (some .int) 4 := ⟨xt_3_176, xt_1_1, by decide, by decide, by decide +kernel⟩
theorem xm_X12_fact : xr_MW yX12_fact cX12_fact 5 (some .int) 4 := ⟨xt_6_45, xt_1_13, by decide, by decide, by decide +kernel⟩
theorem xm_X11_owned : xr_MW yX11_owned cX11_owned 4 (some .int) 3 := ⟨xt_3_187, xt_1_1, by decide, by decide, by decide +kernel⟩
theorem xm_X12_owned : xr_MW yX12_owned cX12_owned 4 (some .int) 3 := ⟨xt_6_61, xt_1_13, by decide, by decide, by decide +kernel⟩
theorem xm_X11_plan : xr_MW yX11_plan cX11_plan 3 (some .int) 2 := ⟨xt_3_191, xt_1_1, by decide, by decide, by decide +kernel⟩
theorem xm_X12_plan : xr_MW yX12_plan cX12_plan 11 (some .int) 2 := ⟨xt_6_125, xt_1_13, by decide, by decide, by decide +kernel⟩
theorem xm_X11_planned : xr_MW yX11_planned cX11_planned 4 (some .int) 3 := ⟨xt_4_47, xt_1_1, by decide, by decide, by decide +kernel⟩
theorem xm_X12_planned : xr_MW yX12_planned cX12_planned 4 (some .int) 3 := ⟨xt_6_148, xt_1_13, by decide, by decide, by decide +kernel⟩
theorem xm_X11_barred : xr_MW yX11_barred cX11_barred 5 (some .int) 4 := ⟨xt_4_52, xt_1_1, by decide, by decide, by decide +kernel⟩
theorem xm_X12_barred : xr_MW yX12_barred cX12_barred 5 (some .int) 4 := ⟨xt_6_89, xt_1_13, by decide, by decide, by decide +kernel⟩
theorem xm_X11_clash : xr_MW yX11_clash cX11_clash 5 (some .int) 3 := ⟨xt_4_57, xt_1_1, by decide, by decide, by decide +kernel⟩
theorem xm_X12_clash : xr_MW yX12_clash cX12_clash 7 (some .int) 3 := ⟨xt_6_156, xt_1_13, by decide, by decide, by decide +kernel⟩
theorem xm_X11_classed : xr_MW yX11_classed cX11_classed 3 (some .int) 2 := ⟨xt_4_69, xt_1_1, by decide, by decide, by decide +kernel⟩
theorem xm_X12_classed : xr_MW yX12_classed cX12_classed 3 (some .int) 2 := ⟨xt_6_117, xt_1_13, by decide, by decide, by decide +kernel⟩
theorem xm_X11_counts : xr_MW yX11_counts cX11_counts 4 (some .int) 3 := ⟨xt_4_73, xt_1_1, by decide, by decide, by decide +kernel⟩
theorem xm_X12_counts : xr_MW yX12_counts cX12_counts 4 (some .int) 3 := ⟨xt_6_160, xt_1_13, by decide, by decide, by decide +kernel⟩
theorem xm_X11_winner : xr_MW yX11_winner cX11_winner 4 (some .int) 3 := ⟨xt_4_107, xt_1_1, by decide, by decide, by decide +kernel⟩
theorem xm_X12_winner : xr_MW yX12_winner cX12_winner 4 (some .int) 3 := ⟨xt_6_176, xt_1_13, by decide, by decide, by decide +kernel⟩
theorem xm_X11_points : xr_MW yX11_points cX11_points 4 (some .int) 3 := ⟨xt_4_121, xt_1_1, by decide, by decide, by decide +kernel⟩
theorem xm_X12_points : xr_MW yX12_points cX12_points 4 (some .int) 3 := ⟨xt_6_184, xt_1_13, by decide, by decide, by decide +kernel⟩
theorem xm_X11_title : xr_MW yX11_title cX11_title 8 (some .int) 2 := ⟨xt_4_137, xt_1_1, by decide, by decide, by decide +kernel⟩
theorem xm_X12_title : xr_MW yX12_title cX12_title 9 (some .int) 2 := ⟨xt_6_192, xt_1_13, by decide, by decide, by decide +kernel⟩
theorem xm_X11_owner : xr_MW yX11_owner cX11_owner 4 (some .int) 3 := ⟨xt_4_146, xt_1_1, by decide, by decide, by decide +kernel⟩
theorem xm_X12_owner : xr_MW yX12_owner cX12_owner 4 (some .int) 3 := ⟨xt_6_65, xt_1_13, by decide, by decide, by decide +kernel⟩
theorem xm_X11_parted : xr_MW yX11_parted cX11_parted 5 (some .int) 4 := ⟨xt_4_151, xt_1_1, by decide, by decide, by decide +kernel⟩
theorem xm_X12_parted : xr_MW yX12_parted cX12_parted 5 (some .int) 4 := ⟨xt_6_81, xt_1_13, by decide, by decide, by decide +kernel⟩
theorem xm_X11_changed : xr_MW yX11_changed cX11_changed 5 (some .int) 3 := ⟨xt_4_156, xt_1_1, by decide, by decide, by decide +kernel⟩
theorem xm_X12_changed : xr_MW yX12_changed cX12_changed 5 (some .int) 3 := ⟨xt_6_196, xt_1_13, by decide, by decide, by decide +kernel⟩
theorem xm_X11_count : xr_MW yX11_count cX11_count 2 (some .int) 1 := ⟨xt_4_160, xt_1_1, by decide, by decide, by decide +kernel⟩
theorem xm_X12_count : xr_MW yX12_count cX12_count 4 (some .int) 1 := ⟨xt_6_200, xt_1_13, by decide, by decide, by decide +kernel⟩
/-- a relation between the systems that every call keeps, with like answers -/
def xq_Sim (R : xw_M → xw_M → Prop) : Prop :=
  (∀ σ τ, R σ τ → ∀ (a0 a1 a2 a3 a4 : Int32), xu_X11_feed σ a0 a1 a2 a3 a4 (fun r σ1 => xu_X12_feed τ a0 a1 a2 a3 a4 (fun r2 τ1 => r = r2 ∧ R σ1 τ1))) ∧
  (∀ σ τ, R σ τ → ∀ (a0 : Int32), xu_X11_back σ a0 (fun r σ1 => xu_X12_back τ a0 (fun r2 τ1 => r = r2 ∧ R σ1 τ1))) ∧
  (∀ σ τ, R σ τ → xu_X11_read σ  (fun r σ1 => xu_X12_read τ  (fun r2 τ1 => r = r2 ∧ R σ1 τ1))) ∧
  (∀ σ τ, R σ τ → xu_X11_place σ  (fun r σ1 => xu_X12_place τ  (fun r2 τ1 => r = r2 ∧ R σ1 τ1))) ∧
  (∀ σ τ, R σ τ → ∀ (a0 a1 : Int32), xu_X11_kin σ a0 a1 (fun r σ1 => xu_X12_kin τ a0 a1 (fun r2 τ1 => r = r2 ∧ R σ1 τ1))) ∧
  (∀ σ τ, R σ τ → ∀ (a0 a1 a2 a3 : Int32), xu_X11_breed σ a0 a1 a2 a3 (fun r σ1 => xu_X12_breed τ a0 a1 a2 a3 (fun r2 τ1 => r = r2 ∧ R σ1 τ1))) ∧
  (∀ σ τ, R σ τ → ∀ (a0 a1 a2 a3 a4 : Int32), xu_X11_dog σ a0 a1 a2 a3 a4 (fun r σ1 => xu_X12_dog τ a0 a1 a2 a3 a4 (fun r2 τ1 => r = r2 ∧ R σ1 τ1))) ∧
  (∀ σ τ, R σ τ → ∀ (a0 a1 : Int32), xu_X11_permits σ a0 a1 (fun r σ1 => xu_X12_permits τ a0 a1 (fun r2 τ1 => r = r2 ∧ R σ1 τ1))) ∧
  (∀ σ τ, R σ τ → ∀ (a0 : Int32), xu_X11_rings σ a0 (fun r σ1 => xu_X12_rings τ a0 (fun r2 τ1 => r = r2 ∧ R σ1 τ1))) ∧
  (∀ σ τ, R σ τ → ∀ (a0 : Int32), xu_X11_show σ a0 (fun r σ1 => xu_X12_show τ a0 (fun r2 τ1 => r = r2 ∧ R σ1 τ1))) ∧
  (∀ σ τ, R σ τ → ∀ (a0 a1 : Int32), xu_X11_enter σ a0 a1 (fun r σ1 => xu_X12_enter τ a0 a1 (fun r2 τ1 => r = r2 ∧ R σ1 τ1))) ∧
  (∀ σ τ, R σ τ → ∀ (a0 a1 a2 a3 : Int32), xu_X11_fact σ a0 a1 a2 a3 (fun r σ1 => xu_X12_fact τ a0 a1 a2 a3 (fun r2 τ1 => r = r2 ∧ R σ1 τ1))) ∧
  (∀ σ τ, R σ τ → ∀ (a0 a1 a2 : Int32), xu_X11_owned σ a0 a1 a2 (fun r σ1 => xu_X12_owned τ a0 a1 a2 (fun r2 τ1 => r = r2 ∧ R σ1 τ1))) ∧
  (∀ σ τ, R σ τ → ∀ (a0 a1 : Int32), xu_X11_plan σ a0 a1 (fun r σ1 => xu_X12_plan τ a0 a1 (fun r2 τ1 => r = r2 ∧ R σ1 τ1))) ∧
  (∀ σ τ, R σ τ → ∀ (a0 a1 a2 : Int32), xu_X11_planned σ a0 a1 a2 (fun r σ1 => xu_X12_planned τ a0 a1 a2 (fun r2 τ1 => r = r2 ∧ R σ1 τ1))) ∧
  (∀ σ τ, R σ τ → ∀ (a0 a1 a2 a3 : Int32), xu_X11_barred σ a0 a1 a2 a3 (fun r σ1 => xu_X12_barred τ a0 a1 a2 a3 (fun r2 τ1 => r = r2 ∧ R σ1 τ1))) ∧
  (∀ σ τ, R σ τ → ∀ (a0 a1 a2 : Int32), xu_X11_clash σ a0 a1 a2 (fun r σ1 => xu_X12_clash τ a0 a1 a2 (fun r2 τ1 => r = r2 ∧ R σ1 τ1))) ∧
  (∀ σ τ, R σ τ → ∀ (a0 a1 : Int32), xu_X11_classed σ a0 a1 (fun r σ1 => xu_X12_classed τ a0 a1 (fun r2 τ1 => r = r2 ∧ R σ1 τ1))) ∧
  (∀ σ τ, R σ τ → ∀ (a0 a1 a2 : Int32), xu_X11_counts σ a0 a1 a2 (fun r σ1 => xu_X12_counts τ a0 a1 a2 (fun r2 τ1 => r = r2 ∧ R σ1 τ1))) ∧
  (∀ σ τ, R σ τ → ∀ (a0 a1 a2 : Int32), xu_X11_winner σ a0 a1 a2 (fun r σ1 => xu_X12_winner τ a0 a1 a2 (fun r2 τ1 => r = r2 ∧ R σ1 τ1))) ∧
  (∀ σ τ, R σ τ → ∀ (a0 a1 a2 : Int32), xu_X11_points σ a0 a1 a2 (fun r σ1 => xu_X12_points τ a0 a1 a2 (fun r2 τ1 => r = r2 ∧ R σ1 τ1))) ∧
  (∀ σ τ, R σ τ → ∀ (a0 a1 : Int32), xu_X11_title σ a0 a1 (fun r σ1 => xu_X12_title τ a0 a1 (fun r2 τ1 => r = r2 ∧ R σ1 τ1))) ∧
  (∀ σ τ, R σ τ → ∀ (a0 a1 a2 : Int32), xu_X11_owner σ a0 a1 a2 (fun r σ1 => xu_X12_owner τ a0 a1 a2 (fun r2 τ1 => r = r2 ∧ R σ1 τ1))) ∧
  (∀ σ τ, R σ τ → ∀ (a0 a1 a2 a3 : Int32), xu_X11_parted σ a0 a1 a2 a3 (fun r σ1 => xu_X12_parted τ a0 a1 a2 a3 (fun r2 τ1 => r = r2 ∧ R σ1 τ1))) ∧
  (∀ σ τ, R σ τ → ∀ (a0 a1 a2 : Int32), xu_X11_changed σ a0 a1 a2 (fun r σ1 => xu_X12_changed τ a0 a1 a2 (fun r2 τ1 => r = r2 ∧ R σ1 τ1))) ∧
  (∀ σ τ, R σ τ → ∀ (a0 : Int32), xu_X11_count σ a0 (fun r σ1 => xu_X12_count τ a0 (fun r2 τ1 => r = r2 ∧ R σ1 τ1)))
