theorem xr_lt {i : Int32} {n : Nat} (h : vp_in i n) : i.toNatClampNeg < n := Nat.not_le.mp fun q => h (Or.inr q)
section XS
variable {p : Program} {l : Launch} {e : Env} {R : Room} {s : State} {m : MethodId} {args : Array Value} {below : List Frame} {meth : Method} {c : Code} {H : Heap} {locs : List Loc} {cells slots : Nat} {Q : State → Prop}
variable {cc : ByteArray} {nL : Nat} {own : String} {D : va_G} {cy : Nat → ClassId} {lay : List xw_E} {q : Nat → Nat} {σ : xw_M} {pc : Nat} {ls : Array Slot} {rest : List Value}
theorem xr_alen (X : xr_X p s m args c cc nL own D cy lay q) (hw : xr_H D cy lay q s σ H locs) (c0 : Nat) {n b : Nat} (hl : lay[c0]? = some (.inr (1, n, b))) {v : Int32} (hv : Int32.ofNat n = v) (hd : decode cc pc = .ok (.arraylength, 1))
    (kk : W p l e R s m args below meth c H locs cells slots Q (F0 m (pc + 1) ls (.int v :: rest))) : W p l e R s m args below meth c H locs cells slots Q (F0 m pc ls (.ref (q c0) :: rest)) :=
  va_alen X.1 X.2.1 X.2.2.2.2.2.2.1 hw.1 c0 1 (xw_at_a hl (by decide) (by decide)) (ty := .int) rfl hv hd kk
theorem xr_copy {P : xw_M → Prop} (X : xr_X p s m args c cc nL own D cy lay q) (hw : xr_H D cy lay q s σ H locs) (hls : ls.size = nL) (c0 c1 : Nat) {n0 n1 b0 b1 idx N : Nat} {n : Int32} (hl0 : lay[c0]? = some (.inr (1, n0, b0))) (hl1 : lay[c1]? = some (.inr (1, n1, b1))) (hN : n.toNatClampNeg = N) (hn : ¬ n < 0) (h0 : N ≤ n0) (h1 : N ≤ n1)
    (hlink : Cond.methodLink own idx arraycopyName ∈ xw_T) (hframes : 1 ≤ R.frames) (hlocals : (rest.map fun v => v.category).sum + (nativeFrameWords "java/lang/System" "arraycopy" 5 + 11) ≤ R.locals) (hd : decode cc pc = .ok (.invokestatic idx, 3))
    (hB : ∀ σ1, σ1 = xw_r σ c1 (va_cpy (σ.1 c0) (σ.1 c1) 0 0 N) → P σ1) (kk : ∀ σ1 H1 locs1, P σ1 → xr_H D cy lay q s σ1 H1 locs1 → W p l e R s m args below meth c H1 locs1 cells slots Q (F0 m (pc + 3) ls rest)) : W p l e R s m args below meth c H locs cells slots Q (F0 m pc ls (.int n :: .int 0 :: .ref (q c1) :: .int 0 :: .ref (q c0) :: rest)) := by
  have z : (0 : Int32).toNatClampNeg = 0 := rfl
  refine va_copyi (ty := .int) (sp := 0) (dp := 0) (n := n) X.1 X.2.1 (X.2.2.1.trans hls.symm) X.2.2.2.1 (X.2.2.2.2.1 _ hlink) (X.2.2.2.2.1 _ xt_3_68) (X.2.2.2.2.1 _ xt_3_67) (X.2.2.2.2.1 _ xt_1_18) X.2.2.2.2.2.2.1 hw.1 (xw_D X.2.2.2.2.2.2.2) hw.2 c0 c1 1 1 (xw_at_a hl0 (by decide) (by decide)) (xw_at_a hl1 (by decide) (by decide)) rfl rfl rfl (by decide) (by decide) hn (by rw [hN, z]; omega) (by rw [hN, z]; omega) (fun _ _ => rfl) hframes hlocals hd (fun H1 locs1 hP hD hS => ?_)
  rw [hN, z, xw_setr hl1 (by decide) (by decide)] at hP
  exact kk _ H1 locs1 (hB _ rfl) ⟨hP, hS⟩
theorem xr_runSN {y : MethodName} {bytes : ByteArray} {maxL n idx fr lo : Nat} {ret : Option FieldType} {As st0 : List Value} {Qc : Array Value → State → Outcome → State → Prop} (X : xr_X p s m args c cc nL own D cy lay q) (hw : xr_H D cy lay q s σ H locs)
    (hM : Met l y (xr_ws y bytes maxL ret) { frames := fr, cells := 0, slots := 0, locals := lo } (va_Pc As (xr_pre D cy lay q H.size σ)) Qc 0 0 (xw_A lay q H.size)) (hm : xr_MW y bytes maxL ret n) (hl : va_Nw (.methodLinkNest own idx y "ShowRings") s) (hi : Cond.static y ∈ xw_T) (hR : xr_Rm R fr lo maxL)
    (hn : As.length = n) (hst : st0 = As.reverse ++ rest) (hls : ls.size = nL) (hcat : (rest.map fun v => v.category).sum ≤ 8) (hd : decode cc pc = .ok (.invokestatic idx, 3)) (hcs : cells ≤ R.cells ∧ slots ≤ R.slots) :
    va_Run p l e R s m args below meth c H locs cells slots 0 0 (F0 m pc ls st0) rest (Qc As.toArray) (xw_A lay q H.size) :=
  va_runSN (As := As) (rest := rest) ⟨X.1, X.2.1, X.2.2.1, X.2.2.2.1, X.2.2.2.2.1⟩ hM ⟨va_cnB n X.2.2.2.2.1 (xr_GI hm) rfl rfl rfl hl (X.2.2.2.2.1 _ hm.2.1) ⟨hm.2.2.1, hm.2.2.2.1, hm.2.2.2.2⟩ hR, X.2.2.2.2.1 _ hi, trivial⟩ ⟨xr_blind, xr_preU X hw⟩ rfl hn hls hst (lv_room hcat) hd hcs
theorem xr_tdef {dflt lo hi : Int} {offs : Array Int} {len : Nat} {x : Int32} {tgt : Nat} (hx : p.tables.exec = Jvm.exec) (hb : c.code = cc) (hd : decode cc pc = .ok (.tableswitch dflt lo hi offs, len)) (ht : (pc : Int) + dflt = (tgt : Int)) (hn : hi = lo + offs.size - 1) (_ : lo ≤ hi) (hall : ∀ j : Nat, j < offs.size → x = Int32.ofInt (lo + j) → offs[j]? = some dflt)
    (kk : W p l e R s m args below meth c H locs cells slots Q (F0 m tgt ls rest)) : W p l e R s m args below meth c H locs cells slots Q (F0 m pc ls (.int x :: rest)) := by
  by_cases h : x.toInt < lo ∨ hi < x.toInt
  · exact lv_tableOut hx hb hd h ht kk
  · have h1 : ¬ x.toInt < lo := fun z => h (Or.inl z)
    have h2 : ¬ hi < x.toInt := fun z => h (Or.inr z)
    have hj : ((x.toInt - lo).toNat : Int) = x.toInt - lo := by omega
    refine lv_tableIn hx hb hd h1 h2 (hall (x.toInt - lo).toNat (by omega) ?_) ht kk
    rw [hj, show lo + (x.toInt - lo) = x.toInt by omega, Int32.ofInt_toInt]
end XS
