def xw_nF : List (String × Nat × String × String × String) := [("ShowRings", 99, "ShowRings$Tape", "length", "I"), ("ShowRings$Scanner", 43, "ShowRings$Tape", "length", "I"), ("ShowRings$Club", 66, "ShowRings$Text", "firstInt", "[I"), ("ShowRings", 247, "ShowRings$Text", "firstInt", "[I"), ("ShowRings", 253, "ShowRings$Text", "secondInt", "[I"), ("ShowRings$Parser", 66, "ShowRings$Text", "rules", "I"), ("ShowRings", 266, "ShowRings$Text", "rules", "I"), ("ShowRings$Parser", 72, "ShowRings$Text", "size", "I"), ("ShowRings$Parser", 49, "ShowRings$Scanner", "kinds", "[I"), ("ShowRings$Parser", 53, "ShowRings$Scanner", "places", "[I"), ("ShowRings$Parser", 60, "ShowRings$Scanner", "values", "[I"), ("ShowRings$Parser", 46, "ShowRings$Scanner", "size", "I"), ("ShowRings", 114, "ShowRings$Parser", "draft", "LShowRings$Text;"), ("ShowRings", 111, "ShowRings$Parser", "fault", "I"), ("ShowRings", 108, "ShowRings$Parser", "place", "I"), ("ShowRings$Planner", 87, "ShowRings$Kennel", "permits", "[I"), ("ShowRings", 157, "ShowRings$Kennel", "permits", "[I"), ("ShowRings$Club", 57, "ShowRings$Kennel", "group", "[I"), ("ShowRings$Planner", 63, "ShowRings$Kennel", "minutes", "[I"), ("ShowRings$Club", 37, "ShowRings$Kennel", "breed", "[I"), ("ShowRings$Results", 39, "ShowRings$Kennel", "breed", "[I"), ("ShowRings", 181, "ShowRings$Kennel", "breed", "[I"), ("ShowRings$Club", 45, "ShowRings$Kennel", "birth", "[I"), ("ShowRings$Club", 54, "ShowRings$Kennel", "sex", "[I"), ("ShowRings$Facts", 60, "ShowRings$Kennel", "firstOwner", "[I"), ("ShowRings$Planner", 49, "ShowRings$Kennel", "breeds", "I"), ("ShowRings", 137, "ShowRings$Kennel", "breeds", "I"), ("ShowRings$Club", 27, "ShowRings$Kennel", "dogs", "I"), ("ShowRings$Results", 72, "ShowRings$Kennel", "dogs", "I"), ("ShowRings$Planner", 90, "ShowRings$Kennel", "dogs", "I"), ("ShowRings$Facts", 56, "ShowRings$Kennel", "dogs", "I"), ("ShowRings", 150, "ShowRings$Kennel", "dogs", "I"), ("ShowRings", 195, "ShowRings$Facts", "size", "I"), ("ShowRings", 208, "ShowRings$Planner", "best", "LShowRings$Timetable;"), ("ShowRings", 214, "ShowRings$Planner", "bestLast", "I"), ("ShowRings$Results", 29, "ShowRings$Show", "number", "I"), ("ShowRings$Results", 53, "ShowRings$Show", "timetable", "LShowRings$Timetable;"), ("ShowRings", 177, "ShowRings$Show", "timetable", "LShowRings$Timetable;"), ("ShowRings$Club", 40, "ShowRings$Show", "day", "I"), ("ShowRings", 161, "ShowRings$Show", "day", "I"), ("ShowRings$Planner", 54, "ShowRings$Show", "entries", "I"), ("ShowRings", 263, "ShowRings$Show", "entries", "I")]
def xw_nM : List (String × Nat × MethodName) := [("ShowRings", 9, ⟨"ShowRings$Tape", "<init>", "()V"⟩), ("ShowRings", 18, ⟨"ShowRings$Text", "<init>", "()V"⟩), ("ShowRings", 39, ⟨"ShowRings$Kennel", "<init>", "()V"⟩), ("ShowRings$Kennel", 52, ⟨"ShowRings", "isPerson", "(I)Z"⟩), ("ShowRings$Show", 28, ⟨"ShowRings", "isWithin", "(III)Z"⟩), ("ShowRings$Club", 33, ⟨"ShowRings", "isWithin", "(III)Z"⟩), ("ShowRings$Timetable", 24, ⟨"ShowRings", "isWithin", "(III)Z"⟩), ("ShowRings$Facts", 35, ⟨"ShowRings", "isWithin", "(III)Z"⟩), ("ShowRings$Kennel", 56, ⟨"ShowRings", "isWithin", "(III)Z"⟩)]

def xw_N (U : State) : Prop := (∀ f ∈ xw_nF, va_Nw (.fieldLinkNest f.1 f.2.1 f.2.2.1 f.2.2.2.1 f.2.2.2.2 "ShowRings") U) ∧ ∀ f ∈ xw_nM, va_Nw (.methodLinkNest f.1 f.2.1 f.2.2 "ShowRings") U
theorem xw_N.same {u U : State} (h : u.vm = U.vm) (hN : xw_N u) : xw_N U := ⟨fun f hf => va_Nw.same rfl h (hN.1 f hf), fun f hf => va_Nw.same rfl h (hN.2 f hf)⟩
theorem xw_N.warm {s U : State} (hW : s.WarmedH U.vm) (hN : xw_N s) : xw_N U := ⟨fun f hf => va_Nw.warmF hW (hN.1 f hf), fun f hf => va_Nw.warmM hW (hN.2 f hf)⟩
abbrev xw_ty (cy : Nat → ClassId) : List (ClassId × FieldType) := [(cy 0, .byte), (cy 1, .int), (cy 2, .long), (cy 3, .boolean), (cy 4, .object "ShowRings$Show")]
theorem xw_good : xw_T.all goodWord = true := List.all_eq_true.mpr (fun w h => (List.mem_filter.mp h).2)
/-- what holds all through a method's walk -/
abbrev xr_X (p : Program) (s : State) (m : MethodId) (args : Array Value) (c : Code) (cc : ByteArray) (nL : Nat) (own : String) (D : va_G) (cy : Nat → ClassId) (lay : List xw_E) (q : Nat → Nat) : Prop :=
  p.tables.exec = Jvm.exec ∧ c.code = cc ∧ c.maxLocals = nL ∧ s.vm.findClass own = some m.cls ∧ (∀ w ∈ xw_T, w.before args s = true) ∧ xw_N s ∧ va_K D vwCl (xw_ty cy) s ∧ xw_dj lay q
/-- the world now -/
abbrev xr_H (D : va_G) (cy : Nat → ClassId) (lay : List xw_E) (q : Nat → Nat) (s : State) (σ : xw_M) (H : Heap) (locs : List Loc) : Prop :=
  va_P D vwCl (xw_d cy lay q σ) H ∧ va_S (xw_A lay q s.heap.size) s.heap H locs
/-- a method's start -/
def xr_pre (D : va_G) (cy : Nat → ClassId) (lay : List xw_E) (q : Nat → Nat) (sz : Nat) (σ : xw_M) (U : State) : Prop :=
  U.heap.size = sz ∧ va_P D vwCl (xw_d cy lay q σ) U.heap ∧ va_K D vwCl (xw_ty cy) U ∧ xw_N U ∧ xw_dj lay q
def xr_po (D : va_G) (cy : Nat → ClassId) (lay : List xw_E) (q : Nat → Nat) (u : xw_M) (t : State) : Prop := va_P D vwCl (xw_d cy lay q u) t.heap
theorem xr_blind {D : va_G} {cy : Nat → ClassId} {lay : List xw_E} {q : Nat → Nat} {sz : Nat} {σ : xw_M} {As : List Value} : FrameBlind (va_Pc As (xr_pre D cy lay q sz σ)) := by
  intro a U g mk h
  obtain ⟨h0, h1, h2, h3, h4, h5⟩ := h
  exact ⟨h0, h1, h2, va_K.moved (u := U) (U := U.calling g mk a) (Vm.Alike.refl U.vm) h3, h4.same rfl, h5⟩
abbrev xr_ws (y : MethodName) (cc : ByteArray) (maxL : Nat) (ret : Option FieldType) : List Cond := Cond.code y cc maxL ret :: xw_T
/-- contracts: the answer and the world behind it are as Z says -/
def xr_CI (l : Launch) (y : MethodName) (cc : ByteArray) (maxL : Nat) (ret : FieldType) (rm : Room) (D : va_G) (cy : Nat → ClassId) (lay : List xw_E) (q : Nat → Nat) (σ : xw_M) (As : List Value) (Z : Int32 → xw_M → Prop) : Prop :=
  ∀ sz, Met l y (xr_ws y cc maxL (some ret)) rm (va_Pc As (xr_pre D cy lay q sz σ)) (va_Qi Z (xr_po D cy lay q) (xw_A lay q sz)) 0 0 (xw_A lay q sz)
def xr_CV (l : Launch) (y : MethodName) (cc : ByteArray) (maxL : Nat) (rm : Room) (D : va_G) (cy : Nat → ClassId) (lay : List xw_E) (q : Nat → Nat) (σ : xw_M) (As : List Value) (Z : xw_M → Prop) : Prop :=
  ∀ sz, Met l y (xr_ws y cc maxL none) rm (va_Pc As (xr_pre D cy lay q sz σ)) (va_Qv Z (xr_po D cy lay q) (xw_A lay q sz)) 0 0 (xw_A lay q sz)
def xr_CL (l : Launch) (y : MethodName) (cc : ByteArray) (maxL : Nat) (rm : Room) (D : va_G) (cy : Nat → ClassId) (lay : List xw_E) (q : Nat → Nat) (σ : xw_M) (As : List Value) (Z : Int64 → xw_M → Prop) : Prop :=
  ∀ sz, Met l y (xr_ws y cc maxL (some .long)) rm (va_Pc As (xr_pre D cy lay q sz σ)) (va_Ql Z (xr_po D cy lay q) (xw_A lay q sz)) 0 0 (xw_A lay q sz)
theorem xr_met {l : Launch} {y : MethodName} {cc : ByteArray} {maxL : Nat} {ret : Option FieldType} {fr lo : Nat} {D : va_G} {cy : Nat → ClassId} {lay : List xw_E} {q : Nat → Nat} {σ : xw_M} {As : List Value} {Qc : Array Value → State → Outcome → State → Prop} {sz : Nat} (own : String) (ho : y.cls = own) (hy : plainName y.cls = true) (hlen : (lg_sl As).length ≤ maxL)
    (body : ∀ p e s m below meth c, s.heap.size = sz → xr_X p s m As.toArray c cc maxL own D cy lay q → xr_H D cy lay q s σ s.heap [] → meth.sig.returnType = ret → meth.locks = false → ∀ ls, lv_has ls maxL (lv_args 0 As) → W p l e { frames := fr, cells := 0, slots := 0, locals := lo } s m As.toArray below meth c s.heap [] 0 0 (MQ below Qc As.toArray s 0 0 (xw_A lay q s.heap.size)) (F0 m 0 ls [])) :
    Met l y (xr_ws y cc maxL ret) { frames := fr, cells := 0, slots := 0, locals := lo } (va_Pc As (xr_pre D cy lay q sz σ)) Qc 0 0 (xw_A lay q sz) := by
  refine Met.ofW (cc := cc) (maxL := maxL) (ret := ret) hy rfl ?_
  intro p e s m args below meth c s₁ B hml hv
  obtain ⟨rfl, hsz, hP, hK, hN, hdj⟩ := hv
  have hts := atoms_spec (ws := xr_ws y cc maxL ret) B.pre
  have hown : s.vm.findClass own = some m.cls := by rw [← ho]; exact findClass_of_methodNamed B.named
  have hl := lv_entry As (n := maxL) hlen
  rw [lg_entry_eq]
  generalize (lg_sl As ++ List.replicate (maxL - (lg_sl As).length) Slot.unset).toArray = ls at hl ⊢
  subst hsz
  exact body p e s m below meth c rfl ⟨B.exec, B.bytes, hml, hown, fun w h => hts w (List.mem_cons_of_mem _ h), hN, hK, hdj⟩ ⟨hP, va_S.rf⟩ B.returns B.notSynchronized ls hl
theorem xr_CI.of {l : Launch} {y : MethodName} {cc : ByteArray} {maxL : Nat} {ret : FieldType} {fr lo : Nat} {D : va_G} {cy : Nat → ClassId} {lay : List xw_E} {q : Nat → Nat} {σ : xw_M} {As : List Value} {Z : Int32 → xw_M → Prop} (own : String) (ho : y.cls = own) (hy : plainName y.cls = true) (hlen : (lg_sl As).length ≤ maxL)
    (body : ∀ p e s m below meth c, xr_X p s m As.toArray c cc maxL own D cy lay q → xr_H D cy lay q s σ s.heap [] → meth.sig.returnType = some ret → meth.locks = false → ∀ ls, lv_has ls maxL (lv_args 0 As) → W p l e { frames := fr, cells := 0, slots := 0, locals := lo } s m As.toArray below meth c s.heap [] 0 0 (MQ below (va_Qi Z (xr_po D cy lay q) (xw_A lay q s.heap.size)) As.toArray s 0 0 (xw_A lay q s.heap.size)) (F0 m 0 ls [])) :
    xr_CI l y cc maxL ret { frames := fr, cells := 0, slots := 0, locals := lo } D cy lay q σ As Z := fun _ => xr_met own ho hy hlen (fun p e s m below meth c hsz X hw hr hk ls hl => by subst hsz; exact body p e s m below meth c X hw hr hk ls hl)
theorem xr_CV.of {l : Launch} {y : MethodName} {cc : ByteArray} {maxL : Nat} {fr lo : Nat} {D : va_G} {cy : Nat → ClassId} {lay : List xw_E} {q : Nat → Nat} {σ : xw_M} {As : List Value} {Z : xw_M → Prop} (own : String) (ho : y.cls = own) (hy : plainName y.cls = true) (hlen : (lg_sl As).length ≤ maxL)
    (body : ∀ p e s m below meth c, xr_X p s m As.toArray c cc maxL own D cy lay q → xr_H D cy lay q s σ s.heap [] → meth.sig.returnType = none → meth.locks = false → ∀ ls, lv_has ls maxL (lv_args 0 As) → W p l e { frames := fr, cells := 0, slots := 0, locals := lo } s m As.toArray below meth c s.heap [] 0 0 (MQ below (va_Qv Z (xr_po D cy lay q) (xw_A lay q s.heap.size)) As.toArray s 0 0 (xw_A lay q s.heap.size)) (F0 m 0 ls [])) :
    xr_CV l y cc maxL { frames := fr, cells := 0, slots := 0, locals := lo } D cy lay q σ As Z := fun _ => xr_met own ho hy hlen (fun p e s m below meth c hsz X hw hr hk ls hl => by subst hsz; exact body p e s m below meth c X hw hr hk ls hl)
theorem xr_CL.of {l : Launch} {y : MethodName} {cc : ByteArray} {maxL : Nat} {fr lo : Nat} {D : va_G} {cy : Nat → ClassId} {lay : List xw_E} {q : Nat → Nat} {σ : xw_M} {As : List Value} {Z : Int64 → xw_M → Prop} (own : String) (ho : y.cls = own) (hy : plainName y.cls = true) (hlen : (lg_sl As).length ≤ maxL)
    (body : ∀ p e s m below meth c, xr_X p s m As.toArray c cc maxL own D cy lay q → xr_H D cy lay q s σ s.heap [] → meth.sig.returnType = some .long → meth.locks = false → ∀ ls, lv_has ls maxL (lv_args 0 As) → W p l e { frames := fr, cells := 0, slots := 0, locals := lo } s m As.toArray below meth c s.heap [] 0 0 (MQ below (va_Ql Z (xr_po D cy lay q) (xw_A lay q s.heap.size)) As.toArray s 0 0 (xw_A lay q s.heap.size)) (F0 m 0 ls [])) :
    xr_CL l y cc maxL { frames := fr, cells := 0, slots := 0, locals := lo } D cy lay q σ As Z := fun _ => xr_met own ho hy hlen (fun p e s m below meth c hsz X hw hr hk ls hl => by subst hsz; exact body p e s m below meth c X hw hr hk ls hl)
theorem xw_at_o {cy : Nat → ClassId} {lay : List xw_E} {q : Nat → Nat} {σ : xw_M} {c ci : Nat} {fs : List (Option Nat)} (h : lay[c]? = some (.inl (ci, fs))) : (xw_d cy lay q σ)[c]? = some (q c, .inr (ci, xw_fs q σ c 0 fs)) := xw_at h
theorem xw_at_a {cy : Nat → ClassId} {lay : List xw_E} {q : Nat → Nat} {σ : xw_M} {c t n b : Nat} (h : lay[c]? = some (.inr (t, n, b))) (h2 : t ≠ 2) (h4 : t ≠ 4) : (xw_d cy lay q σ)[c]? = some (q c, .inl (cy t, n, .inl (σ.1 c))) := by
  rw [xw_at h]; simp [xw_ce, h2, h4]
theorem xw_at_l {cy : Nat → ClassId} {lay : List xw_E} {q : Nat → Nat} {σ : xw_M} {c n b : Nat} (h : lay[c]? = some (.inr (2, n, b))) : (xw_d cy lay q σ)[c]? = some (q c, .inl (cy 2, n, .inr (.inl (σ.2 c)))) := by
  rw [xw_at h]; simp [xw_ce]
theorem xw_at_q {cy : Nat → ClassId} {lay : List xw_E} {q : Nat → Nat} {σ : xw_M} {c n b : Nat} (h : lay[c]? = some (.inr (4, n, b))) : (xw_d cy lay q σ)[c]? = some (q c, .inl (cy 4, n, .inr (.inr (.inr (.inr (fun i => some (q (b + i)))))))) := by
  rw [xw_at h]; simp [xw_ce]
/-- a field's link: class ci of vwCl, its field k -/
def xr_F (args : Array Value) (s : State) (own : String) (idx ci k : Nat) : Prop := ∃ (C : String) (T : u_T) (N : Nat) (ty : Nat → FieldType), vwCl[ci]? = some (C, T, N) ∧ k < N ∧ (∀ w ∈ u_ws C T N, w.before args s = true) ∧ (∀ k, k < N → parseFieldDescriptor (T k).2.2.1 = some (ty k)) ∧ (∀ a, a < N → ∀ b, b < N → a ≠ b → (T a).2.1 ≠ (T b).2.1) ∧ ((Cond.fieldLink own idx (T k).1 (T k).2.1 (T k).2.2.1).before args s = true ∨ (Cond.fieldLinkNest own idx (T k).1 (T k).2.1 (T k).2.2.1 "ShowRings").before args s = true)
/-- the same of a field that is an int and not final -/
def xr_P (args : Array Value) (s : State) (own : String) (idx ci k : Nat) : Prop := ∃ (C : String) (T : u_T) (N : Nat) (ty : Nat → FieldType), vwCl[ci]? = some (C, T, N) ∧ k < N ∧ (∀ w ∈ u_ws C T N, w.before args s = true) ∧ (∀ k, k < N → parseFieldDescriptor (T k).2.2.1 = some (ty k)) ∧ (∀ a, a < N → ∀ b, b < N → a ≠ b → (T a).2.1 ≠ (T b).2.1) ∧ ((Cond.fieldLink own idx (T k).1 (T k).2.1 (T k).2.2.1).before args s = true ∨ (Cond.fieldLinkNest own idx (T k).1 (T k).2.1 (T k).2.2.1 "ShowRings").before args s = true) ∧ (T k).2.2.2 = false ∧ parseFieldDescriptor (T k).2.2.1 = some .int
section XR
variable {p : Program} {l : Launch} {e : Env} {R : Room} {s : State} {m : MethodId} {args : Array Value} {below : List Frame} {meth : Method} {c : Code} {H : Heap} {locs : List Loc} {cells slots : Nat} {Q : State → Prop}
variable {cc : ByteArray} {nL : Nat} {own : String} {D : va_G} {cy : Nat → ClassId} {lay : List xw_E} {q : Nat → Nat} {σ : xw_M} {pc : Nat} {ls : Array Slot} {rest : List Value}
theorem xr_geti (X : xr_X p s m args c cc nL own D cy lay q) (hw : xr_H D cy lay q s σ H locs) {idx ci k : Nat} (hF : xr_F args s own idx ci k) (c0 : Nat) {fs : List (Option Nat)} (hl : lay[c0]? = some (.inl (ci, fs))) (hf : fs[k]? = some none) (hd : decode cc pc = .ok (.getfield idx, 3))
    (kk : W p l e R s m args below meth c H locs cells slots Q (F0 m (pc + 3) ls (.int (σ.1 c0 k) :: rest))) : W p l e R s m args below meth c H locs cells slots Q (F0 m pc ls (.ref (q c0) :: rest)) := by
  obtain ⟨C, T, N, ty, hc, hk, hws, hty, hnm, hlink⟩ := hF
  have hv : (xw_fs q σ c0 0 fs)[k]? = some (.int (σ.1 c0 k)) := by rw [xw_fs_get, hf]; simp
  rcases hlink with h | h
  · exact va_get X.1 X.2.1 hws (fun _ h => h) X.2.2.2.1 X.2.2.2.2.2.2.1 hw.1 c0 (xw_at_o hl) hc k hk h (fun _ h => h) hv hd kk
  · exact va_getN X.1 X.2.1 hws (fun _ h => h) X.2.2.2.1 X.2.2.2.2.2.2.1 hw.1 c0 (xw_at_o hl) hc k hk h (fun _ h => h) hv hd kk
theorem xr_getr (X : xr_X p s m args c cc nL own D cy lay q) (hw : xr_H D cy lay q s σ H locs) {idx ci k : Nat} (hF : xr_F args s own idx ci k) (c0 : Nat) {fs : List (Option Nat)} {r : Nat} (hl : lay[c0]? = some (.inl (ci, fs))) (hf : fs[k]? = some (some r)) (hd : decode cc pc = .ok (.getfield idx, 3))
    (kk : W p l e R s m args below meth c H locs cells slots Q (F0 m (pc + 3) ls (.ref (q r) :: rest))) : W p l e R s m args below meth c H locs cells slots Q (F0 m pc ls (.ref (q c0) :: rest)) := by
  obtain ⟨C, T, N, ty, hc, hk, hws, hty, hnm, hlink⟩ := hF
  have hv : (xw_fs q σ c0 0 fs)[k]? = some (.ref (q r)) := by rw [xw_fs_get, hf]; simp
  rcases hlink with h | h
  · exact va_get X.1 X.2.1 hws (fun _ h => h) X.2.2.2.1 X.2.2.2.2.2.2.1 hw.1 c0 (xw_at_o hl) hc k hk h (fun _ h => h) hv hd kk
  · exact va_getN X.1 X.2.1 hws (fun _ h => h) X.2.2.2.1 X.2.2.2.2.2.2.1 hw.1 c0 (xw_at_o hl) hc k hk h (fun _ h => h) hv hd kk
theorem xr_puti {P : xw_M → Prop} (X : xr_X p s m args c cc nL own D cy lay q) (hw : xr_H D cy lay q s σ H locs) {idx ci k : Nat} (hF : xr_P args s own idx ci k) (c0 : Nat) {fs : List (Option Nat)} {v : Int32} (hl : lay[c0]? = some (.inl (ci, fs))) (hf : fs[k]? = some none) (hd : decode cc pc = .ok (.putfield idx, 3))
    (hB : ∀ σ1, σ1 = xw_i σ c0 k v → P σ1) (kk : ∀ σ1 H1 locs1, P σ1 → xr_H D cy lay q s σ1 H1 locs1 → W p l e R s m args below meth c H1 locs1 cells slots Q (F0 m (pc + 3) ls rest)) : W p l e R s m args below meth c H locs cells slots Q (F0 m pc ls (.int v :: .ref (q c0) :: rest)) := by
  obtain ⟨C, T, N, ty, hc, hk, hws, hty, hnm, hlink, hfin, hdesc⟩ := hF
  have hlt : k < (xw_fs q σ c0 0 fs).length := by rw [xw_fs_len]; exact (List.getElem?_eq_some_iff.mp hf).1
  rcases hlink with h | h
  · refine va_put (ty := .int) X.1 X.2.1 hws (fun _ h => h) ty hty hnm X.2.2.2.1 X.2.2.2.2.2.2.1 hw.1 (xw_D X.2.2.2.2.2.2.2) hw.2 c0 (xw_at_o hl) hc k hk h (fun _ h => h) hfin hdesc rfl rfl hlt hd (fun H1 locs1 hP hD hS => ?_)
    rw [xw_seti hl hf] at hP
    exact kk _ H1 locs1 (hB _ rfl) ⟨hP, hS⟩
  · refine va_putN (ty := .int) X.1 X.2.1 hws (fun _ h => h) ty hty hnm X.2.2.2.1 X.2.2.2.2.2.2.1 hw.1 (xw_D X.2.2.2.2.2.2.2) hw.2 c0 (xw_at_o hl) hc k hk h (fun _ h => h) hfin hdesc rfl rfl hlt hd (fun H1 locs1 hP hD hS => ?_)
    rw [xw_seti hl hf] at hP
    exact kk _ H1 locs1 (hB _ rfl) ⟨hP, hS⟩
theorem xr_iald (X : xr_X p s m args c cc nL own D cy lay q) (hw : xr_H D cy lay q s σ H locs) (c0 : Nat) {n b : Nat} (hl : lay[c0]? = some (.inr (1, n, b))) {i : Int32} (hin : vp_in i n) (hd : decode cc pc = .ok (.iaload, 1))
    (kk : W p l e R s m args below meth c H locs cells slots Q (F0 m (pc + 1) ls (.int (σ.1 c0 i.toNatClampNeg) :: rest))) : W p l e R s m args below meth c H locs cells slots Q (F0 m pc ls (.int i :: .ref (q c0) :: rest)) :=
  va_iald X.1 X.2.1 X.2.2.2.2.2.2.1 hw.1 c0 1 (xw_at_a hl (by decide) (by decide)) rfl hin hd kk
theorem xr_bald (X : xr_X p s m args c cc nL own D cy lay q) (hw : xr_H D cy lay q s σ H locs) (c0 : Nat) {n b : Nat} (hl : lay[c0]? = some (.inr (0, n, b))) {i : Int32} (hin : vp_in i n) (hd : decode cc pc = .ok (.baload, 1))
    (kk : W p l e R s m args below meth c H locs cells slots Q (F0 m (pc + 1) ls (.int (σ.1 c0 i.toNatClampNeg) :: rest))) : W p l e R s m args below meth c H locs cells slots Q (F0 m pc ls (.int i :: .ref (q c0) :: rest)) :=
  va_bald X.1 X.2.1 X.2.2.2.2.2.2.1 hw.1 c0 0 (xw_at_a hl (by decide) (by decide)) rfl hin hd kk
theorem xr_zald (X : xr_X p s m args c cc nL own D cy lay q) (hw : xr_H D cy lay q s σ H locs) (c0 : Nat) {n b : Nat} (hl : lay[c0]? = some (.inr (3, n, b))) {i : Int32} (hin : vp_in i n) (hd : decode cc pc = .ok (.baload, 1))
    (kk : W p l e R s m args below meth c H locs cells slots Q (F0 m (pc + 1) ls (.int (σ.1 c0 i.toNatClampNeg) :: rest))) : W p l e R s m args below meth c H locs cells slots Q (F0 m pc ls (.int i :: .ref (q c0) :: rest)) :=
  va_zald X.1 X.2.1 X.2.2.2.2.2.2.1 hw.1 c0 3 (xw_at_a hl (by decide) (by decide)) rfl hin hd kk
theorem xr_lald (X : xr_X p s m args c cc nL own D cy lay q) (hw : xr_H D cy lay q s σ H locs) (c0 : Nat) {n b : Nat} (hl : lay[c0]? = some (.inr (2, n, b))) {i : Int32} (hin : vp_in i n) (hd : decode cc pc = .ok (.laload, 1))
    (kk : W p l e R s m args below meth c H locs cells slots Q (F0 m (pc + 1) ls (.long (σ.2 c0 i.toNatClampNeg) :: rest))) : W p l e R s m args below meth c H locs cells slots Q (F0 m pc ls (.int i :: .ref (q c0) :: rest)) :=
  va_lald X.1 X.2.1 X.2.2.2.2.2.2.1 hw.1 c0 2 (xw_at_l hl) rfl hin hd kk
theorem xr_aald (X : xr_X p s m args c cc nL own D cy lay q) (hw : xr_H D cy lay q s σ H locs) (c0 : Nat) {n b : Nat} (hl : lay[c0]? = some (.inr (4, n, b))) {i : Int32} (hin : vp_in i n) (hd : decode cc pc = .ok (.aaload, 1))
    (kk : W p l e R s m args below meth c H locs cells slots Q (F0 m (pc + 1) ls (.ref (q (b + i.toNatClampNeg)) :: rest))) : W p l e R s m args below meth c H locs cells slots Q (F0 m pc ls (.int i :: .ref (q c0) :: rest)) :=
  va_aldq (C := "ShowRings$Show") X.1 X.2.1 X.2.2.2.2.2.2.1 hw.1 c0 4 (xw_at_q hl) rfl hin hd kk
theorem xr_iast {P : xw_M → Prop} (X : xr_X p s m args c cc nL own D cy lay q) (hw : xr_H D cy lay q s σ H locs) (c0 : Nat) {n b : Nat} (hl : lay[c0]? = some (.inr (1, n, b))) {i v : Int32} (hin : vp_in i n) (hd : decode cc pc = .ok (.iastore, 1))
    (hB : ∀ σ1, σ1 = xw_i σ c0 i.toNatClampNeg v → P σ1) (kk : ∀ σ1 H1 locs1, P σ1 → xr_H D cy lay q s σ1 H1 locs1 → W p l e R s m args below meth c H1 locs1 cells slots Q (F0 m (pc + 1) ls rest)) : W p l e R s m args below meth c H locs cells slots Q (F0 m pc ls (.int v :: .int i :: .ref (q c0) :: rest)) := by
  refine va_iast X.1 X.2.1 X.2.2.2.2.2.2.1 hw.1 (xw_D X.2.2.2.2.2.2.2) hw.2 c0 1 (xw_at_a hl (by decide) (by decide)) rfl hin hd (fun H1 locs1 hP hD hS => ?_)
  rw [xw_seta hl (by decide) (by decide)] at hP
  exact kk _ H1 locs1 (hB _ rfl) ⟨hP, hS⟩
theorem xr_bast {P : xw_M → Prop} (X : xr_X p s m args c cc nL own D cy lay q) (hw : xr_H D cy lay q s σ H locs) (c0 : Nat) {n b : Nat} (hl : lay[c0]? = some (.inr (0, n, b))) {i v : Int32} (hin : vp_in i n) (hd : decode cc pc = .ok (.bastore, 1))
    (hB : ∀ σ1, σ1 = xw_i σ c0 i.toNatClampNeg (vp_nar .byte v) → P σ1) (kk : ∀ σ1 H1 locs1, P σ1 → xr_H D cy lay q s σ1 H1 locs1 → W p l e R s m args below meth c H1 locs1 cells slots Q (F0 m (pc + 1) ls rest)) : W p l e R s m args below meth c H locs cells slots Q (F0 m pc ls (.int v :: .int i :: .ref (q c0) :: rest)) := by
  refine va_bast X.1 X.2.1 X.2.2.2.2.2.2.1 hw.1 (xw_D X.2.2.2.2.2.2.2) hw.2 c0 0 (xw_at_a hl (by decide) (by decide)) rfl hin hd (fun H1 locs1 hP hD hS => ?_)
  rw [xw_seta hl (by decide) (by decide)] at hP
  exact kk _ H1 locs1 (hB _ rfl) ⟨hP, hS⟩
theorem xr_zast {P : xw_M → Prop} (X : xr_X p s m args c cc nL own D cy lay q) (hw : xr_H D cy lay q s σ H locs) (c0 : Nat) {n b : Nat} (hl : lay[c0]? = some (.inr (3, n, b))) {i v : Int32} (hin : vp_in i n) (hd : decode cc pc = .ok (.bastore, 1))
    (hB : ∀ σ1, σ1 = xw_i σ c0 i.toNatClampNeg (vp_nar .boolean v) → P σ1) (kk : ∀ σ1 H1 locs1, P σ1 → xr_H D cy lay q s σ1 H1 locs1 → W p l e R s m args below meth c H1 locs1 cells slots Q (F0 m (pc + 1) ls rest)) : W p l e R s m args below meth c H locs cells slots Q (F0 m pc ls (.int v :: .int i :: .ref (q c0) :: rest)) := by
  refine va_zast X.1 X.2.1 X.2.2.2.2.2.2.1 hw.1 (xw_D X.2.2.2.2.2.2.2) hw.2 c0 3 (xw_at_a hl (by decide) (by decide)) rfl hin hd (fun H1 locs1 hP hD hS => ?_)
  rw [xw_seta hl (by decide) (by decide)] at hP
  exact kk _ H1 locs1 (hB _ rfl) ⟨hP, hS⟩
theorem xr_last {P : xw_M → Prop} (X : xr_X p s m args c cc nL own D cy lay q) (hw : xr_H D cy lay q s σ H locs) (c0 : Nat) {n b : Nat} (hl : lay[c0]? = some (.inr (2, n, b))) {i : Int32} {v : Int64} (hin : vp_in i n) (hd : decode cc pc = .ok (.lastore, 1))
    (hB : ∀ σ1, σ1 = xw_l σ c0 i.toNatClampNeg v → P σ1) (kk : ∀ σ1 H1 locs1, P σ1 → xr_H D cy lay q s σ1 H1 locs1 → W p l e R s m args below meth c H1 locs1 cells slots Q (F0 m (pc + 1) ls rest)) : W p l e R s m args below meth c H locs cells slots Q (F0 m pc ls (.long v :: .int i :: .ref (q c0) :: rest)) := by
  refine va_last X.1 X.2.1 X.2.2.2.2.2.2.1 hw.1 (xw_D X.2.2.2.2.2.2.2) hw.2 c0 2 (xw_at_l hl) rfl hin hd (fun H1 locs1 hP hD hS => ?_)
  rw [xw_setl hl] at hP
  exact kk _ H1 locs1 (hB _ rfl) ⟨hP, hS⟩
/-- ends -/
theorem xr_iret {Z : Int32 → xw_M → Prop} {v : Int32} (X : xr_X p s m args c cc nL own D cy lay q) (hw : xr_H D cy lay q s σ H locs) (hr : meth.sig.returnType = some .int) (hk : meth.locks = false) (hZ : Z v σ) (hd : decode cc pc = .ok (.ireturn, 1)) :
    W p l e R s m args below meth c H locs 0 0 (MQ below (va_Qi Z (xr_po D cy lay q) (xw_A lay q s.heap.size)) args s 0 0 (xw_A lay q s.heap.size)) (F0 m pc ls [.int v]) :=
  W.iret X.1 X.2.1 hr (fun t ht hW => ⟨⟨v, σ, rfl, hZ, by unfold xr_po; rw [ht]; exact hw.1⟩, hw.2.F ht⟩) hw.2.2.2 hd hk
theorem xr_zret {Z : Int32 → xw_M → Prop} {v : Int32} (X : xr_X p s m args c cc nL own D cy lay q) (hw : xr_H D cy lay q s σ H locs) (hr : meth.sig.returnType = some .boolean) (hk : meth.locks = false) (hZ : (v = 0 ∨ v = 1) ∧ Z v σ) (hd : decode cc pc = .ok (.ireturn, 1)) :
    W p l e R s m args below meth c H locs 0 0 (MQ below (va_Qi Z (xr_po D cy lay q) (xw_A lay q s.heap.size)) args s 0 0 (xw_A lay q s.heap.size)) (F0 m pc ls [.int v]) :=
  W.zret X.1 X.2.1 hr (by rcases hZ.1 with h | h <;> subst h <;> rfl) (fun t ht hW => ⟨⟨v, σ, rfl, hZ.2, by unfold xr_po; rw [ht]; exact hw.1⟩, hw.2.F ht⟩) hw.2.2.2 hd hk
theorem xr_lret {Z : Int64 → xw_M → Prop} {v : Int64} (X : xr_X p s m args c cc nL own D cy lay q) (hw : xr_H D cy lay q s σ H locs) (hr : meth.sig.returnType = some .long) (hk : meth.locks = false) (hZ : Z v σ) (hd : decode cc pc = .ok (.lreturn, 1)) :
    W p l e R s m args below meth c H locs 0 0 (MQ below (va_Ql Z (xr_po D cy lay q) (xw_A lay q s.heap.size)) args s 0 0 (xw_A lay q s.heap.size)) (F0 m pc ls [.long v]) :=
  W.lret X.1 X.2.1 hr (fun t ht hW => ⟨⟨v, σ, rfl, hZ, by unfold xr_po; rw [ht]; exact hw.1⟩, hw.2.F ht⟩) hw.2.2.2 hd hk
theorem xr_vret {Z : xw_M → Prop} (X : xr_X p s m args c cc nL own D cy lay q) (hw : xr_H D cy lay q s σ H locs) (hr : meth.sig.returnType = none) (hk : meth.locks = false) (hZ : Z σ) (hd : decode cc pc = .ok (.return_, 1)) :
    W p l e R s m args below meth c H locs 0 0 (MQ below (va_Qv Z (xr_po D cy lay q) (xw_A lay q s.heap.size)) args s 0 0 (xw_A lay q s.heap.size)) (F0 m pc ls []) :=
  W.vret X.1 X.2.1 hr (fun t ht hW => ⟨⟨σ, rfl, hZ, by unfold xr_po; rw [ht]; exact hw.1⟩, hw.2.F ht⟩) hw.2.2.2 hd hk
/-- calls -/
theorem xr_free {q0 : Nat} (hw : xr_H D cy lay q s σ H locs) (h : xw_A lay q H.size q0) : xw_A lay q s.heap.size q0 := by
  rcases h with h | h
  · exact Or.inl h
  · exact Or.inr (Nat.le_trans hw.2.1 h)
theorem xr_preU {As : List Value} (X : xr_X p s m args c cc nL own D cy lay q) (hw : xr_H D cy lay q s σ H locs) : ∀ U : State, U.heap = H → s.WarmedH U.vm → va_Pc As (xr_pre D cy lay q H.size σ) As.toArray U := by
  intro U hU hW
  exact ⟨rfl, by rw [hU], by rw [hU]; exact hw.1, va_K.moved hW.alike X.2.2.2.2.2.2.1, X.2.2.2.2.2.1.warm hW, X.2.2.2.2.2.2.2⟩
/-- a callee's own words -/
def xr_MW (y : MethodName) (bytes : ByteArray) (maxL : Nat) (ret : Option FieldType) (n : Nat) : Prop := Cond.code y bytes maxL ret ∈ xw_T ∧ Cond.initialized y.cls ∈ xw_T ∧ y.cls ≠ "java/lang/invoke/MethodHandle" ∧ y.cls ≠ "java/lang/invoke/VarHandle" ∧ (parseMethodDescriptor y.desc).map (fun d => d.parameters.length) = some n
theorem xr_GI {y : MethodName} {bytes : ByteArray} {maxL n : Nat} {ret : Option FieldType} (h : xr_MW y bytes maxL ret n) : GoodIn xw_T (xr_ws y bytes maxL ret) := by
  refine goodIn_sub (fun w hw => ?_) ?_
  · rcases List.mem_cons.mp hw with h1 | h1
    · rw [h1]; exact h.1
    · exact h1
  · rw [List.all_cons, xw_good, Bool.and_true]
    exact List.all_eq_true.mp xw_good _ h.1
abbrev xr_Rm (R : Room) (fr lo maxL : Nat) : Prop := fr + 1 ≤ R.frames ∧ 8 + (maxL + 11) + lo ≤ R.locals
theorem xr_CB {y : MethodName} {bytes : ByteArray} {maxL n idx fr lo : Nat} {ret : Option FieldType} (X : xr_X p s m args c cc nL own D cy lay q) (hm : xr_MW y bytes maxL ret n) (hl : Cond.methodLink own idx y ∈ xw_T) (hR : xr_Rm R fr lo maxL) : CallB R s args own idx y bytes maxL ret (xr_ws y bytes maxL ret) { frames := fr, cells := 0, slots := 0, locals := lo } 0 0 n :=
  callB_of n X.2.2.2.2.1 (xr_GI hm) rfl rfl rfl (X.2.2.2.2.1 _ hm.2.1) (X.2.2.2.2.1 _ hl) ⟨hm.2.2.1, hm.2.2.2.1, hm.2.2.2.2⟩ hR
theorem xr_runV {y : MethodName} {bytes : ByteArray} {maxL n idx fr lo : Nat} {ret : Option FieldType} {As st0 : List Value} {Qc : Array Value → State → Outcome → State → Prop} (X : xr_X p s m args c cc nL own D cy lay q) (hw : xr_H D cy lay q s σ H locs) (c0 : Nat)
    (hM : Met l y (xr_ws y bytes maxL ret) { frames := fr, cells := 0, slots := 0, locals := lo } (va_Pc (.ref (q c0) :: As) (xr_pre D cy lay q H.size σ)) Qc 0 0 (xw_A lay q H.size)) (hm : xr_MW y bytes maxL ret n) (hl : Cond.methodLink own idx y ∈ xw_T) (hi : Cond.instanceMethod y ∈ xw_T) (hs : Cond.selects y.cls y y ∈ xw_T) (hR : xr_Rm R fr lo maxL)
    {ci : Nat} {fs : List (Option Nat)} {v : vw_C} (hl0 : lay[c0]? = some (.inl (ci, fs))) (hc : vwCl[ci]? = some v) (hv : v.1 = y.cls) (hn : As.length = n) (hst : st0 = As.reverse ++ .ref (q c0) :: rest) (hls : ls.size = nL) (hcat : (rest.map fun v => v.category).sum ≤ 8) (hd : decode cc pc = .ok (.invokevirtual idx, 3)) (hcs : cells ≤ R.cells ∧ slots ≤ R.slots) :
    va_Run p l e R s m args below meth c H locs cells slots 0 0 (F0 m pc ls st0) rest (Qc (Value.ref (q c0) :: As).toArray) (xw_A lay q H.size) := by
  have hrec := va_recv X.2.2.2.2.2.2.1 hw.1 hc (xw_at_o (cy := cy) (q := q) (σ := σ) hl0)
  rw [hv] at hrec
  exact va_runV (As := As) (rest := rest) ⟨X.1, X.2.1, X.2.2.1, X.2.2.2.1, X.2.2.2.2.1⟩ hM ⟨xr_CB X hm hl hR, X.2.2.2.2.1 _ hi, X.2.2.2.2.1 _ hs⟩ ⟨xr_blind, hrec, xr_preU X hw⟩ rfl hn hls hst (lv_room hcat) hd hcs
theorem xr_runS {y : MethodName} {bytes : ByteArray} {maxL n idx fr lo : Nat} {ret : Option FieldType} {As st0 : List Value} {Qc : Array Value → State → Outcome → State → Prop} (X : xr_X p s m args c cc nL own D cy lay q) (hw : xr_H D cy lay q s σ H locs)
    (hM : Met l y (xr_ws y bytes maxL ret) { frames := fr, cells := 0, slots := 0, locals := lo } (va_Pc As (xr_pre D cy lay q H.size σ)) Qc 0 0 (xw_A lay q H.size)) (hm : xr_MW y bytes maxL ret n) (hl : Cond.methodLink own idx y ∈ xw_T) (hi : Cond.static y ∈ xw_T) (hR : xr_Rm R fr lo maxL)
    (hn : As.length = n) (hst : st0 = As.reverse ++ rest) (hls : ls.size = nL) (hcat : (rest.map fun v => v.category).sum ≤ 8) (hd : decode cc pc = .ok (.invokestatic idx, 3)) (hcs : cells ≤ R.cells ∧ slots ≤ R.slots) :
    va_Run p l e R s m args below meth c H locs cells slots 0 0 (F0 m pc ls st0) rest (Qc As.toArray) (xw_A lay q H.size) :=
  va_runS (As := As) (rest := rest) ⟨X.1, X.2.1, X.2.2.1, X.2.2.2.1, X.2.2.2.2.1⟩ hM ⟨xr_CB X hm hl hR, X.2.2.2.2.1 _ hi⟩ ⟨xr_blind, xr_preU X hw⟩ rfl hn hls hst (lv_room hcat) hd hcs
theorem xr_i {Z : Int32 → xw_M → Prop} {st0 : List Value} {a : Array Value} (hw : xr_H D cy lay q s σ H locs) (hr : va_Run p l e R s m args below meth c H locs cells slots 0 0 (F0 m pc ls st0) rest (va_Qi Z (xr_po D cy lay q) (xw_A lay q H.size) a) (xw_A lay q H.size))
    (kk : ∀ r σ1 H1 locs1, Z r σ1 → xr_H D cy lay q s σ1 H1 locs1 → W p l e R s m args below meth c H1 locs1 cells slots Q (F0 m (pc + 3) ls (.int r :: rest))) : W p l e R s m args below meth c H locs cells slots Q (F0 m pc ls st0) :=
  va_calli hr hw.2 (fun _ _ h => xr_free hw h) (fun _ h => xr_free hw h) (fun r u t H1 locs1 ht _ hZ hB _ _ hS => kk r u H1 locs1 hZ ⟨by rw [← ht]; exact hB, hS⟩)
theorem xr_l {Z : Int64 → xw_M → Prop} {st0 : List Value} {a : Array Value} (hw : xr_H D cy lay q s σ H locs) (hr : va_Run p l e R s m args below meth c H locs cells slots 0 0 (F0 m pc ls st0) rest (va_Ql Z (xr_po D cy lay q) (xw_A lay q H.size) a) (xw_A lay q H.size))
    (kk : ∀ r σ1 H1 locs1, Z r σ1 → xr_H D cy lay q s σ1 H1 locs1 → W p l e R s m args below meth c H1 locs1 cells slots Q (F0 m (pc + 3) ls (.long r :: rest))) : W p l e R s m args below meth c H locs cells slots Q (F0 m pc ls st0) :=
  va_calll hr hw.2 (fun _ _ h => xr_free hw h) (fun _ h => xr_free hw h) (fun r u t H1 locs1 ht _ hZ hB _ _ hS => kk r u H1 locs1 hZ ⟨by rw [← ht]; exact hB, hS⟩)
theorem xr_v {Z : xw_M → Prop} {st0 : List Value} {a : Array Value} (hw : xr_H D cy lay q s σ H locs) (hr : va_Run p l e R s m args below meth c H locs cells slots 0 0 (F0 m pc ls st0) rest (va_Qv Z (xr_po D cy lay q) (xw_A lay q H.size) a) (xw_A lay q H.size))
    (kk : ∀ σ1 H1 locs1, Z σ1 → xr_H D cy lay q s σ1 H1 locs1 → W p l e R s m args below meth c H1 locs1 cells slots Q (F0 m (pc + 3) ls rest)) : W p l e R s m args below meth c H locs cells slots Q (F0 m pc ls st0) :=
  va_callv hr hw.2 (fun _ _ h => xr_free hw h) (fun _ h => xr_free hw h) (fun u t H1 locs1 ht _ hZ hB _ _ hS => kk u H1 locs1 hZ ⟨by rw [← ht]; exact hB, hS⟩)
end XR
