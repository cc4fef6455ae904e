theorem xm_X8_init : xr_MW yX8_init cX8_init 1 none 0 := ⟨xt_1_33, xt_1_2, by decide, by decide, by decide +kernel⟩
theorem xm_X9_init : xr_MW yX9_init cX9_init 1 none 0 := ⟨xt_1_49, xt_1_3, by decide, by decide, by decide +kernel⟩
theorem xm_X6_init : xr_MW yX6_init cX6_init 2 none 1 := ⟨xt_1_98, xt_1_5, by decide, by decide, by decide +kernel⟩
theorem xm_X3_init : xr_MW yX3_init cX3_init 3 none 2 := ⟨xt_1_122, xt_1_4, by decide, by decide, by decide +kernel⟩
theorem xm_X2_init : xr_MW yX2_init cX2_init 1 none 0 := ⟨xt_1_147, xt_1_6, by decide, by decide, by decide +kernel⟩
theorem xm_X1_init : xr_MW yX1_init cX1_init 2 none 1 := ⟨xt_1_210, xt_1_7, by decide, by decide, by decide +kernel⟩
theorem xm_X0_init : xr_MW yX0_init cX0_init 4 none 3 := ⟨xt_1_239, xt_1_8, by decide, by decide, by decide +kernel⟩
theorem xm_X4_init : xr_MW yX4_init cX4_init 3 none 2 := ⟨xt_2_18, xt_1_9, by decide, by decide, by decide +kernel⟩
theorem xm_X5_init : xr_MW yX5_init cX5_init 4 none 3 := ⟨xt_2_71, xt_1_11, by decide, by decide, by decide +kernel⟩
theorem xm_X7_init : xr_MW yX7_init cX7_init 2 none 1 := ⟨xt_2_88, xt_1_12, by decide, by decide, by decide +kernel⟩

theorem xn_Pm {D : va_G} {cl : List vw_C} {ws : va_W} {H : Heap} : va_P D cl ws H ↔ ∀ x ∈ ws, va_at D cl x H := ⟨fun h x hx => by
  obtain ⟨k, hk⟩ := List.getElem?_of_mem hx
  exact h k x hk, fun h k x hk => h x (List.mem_of_getElem? hk)⟩
theorem xn_Dm {A : Nat → Prop} {ws : va_W} : va_D A ws ↔ ws.Pairwise (fun x y => x.1 ≠ y.1) ∧ ∀ x ∈ ws, A x.1 := by
  constructor
  · intro h
    refine ⟨List.pairwise_iff_getElem.mpr (fun i j hi hj hij he => ?_), fun x hx => ?_⟩
    · have := h.1 i j ws[i] ws[j] (List.getElem?_eq_getElem hi) (List.getElem?_eq_getElem hj) he
      omega
    · obtain ⟨k, hk⟩ := List.getElem?_of_mem hx
      exact h.2 k x hk
  · intro h
    refine ⟨fun i j p q hp hq he => ?_, fun k x hk => h.2 x (List.mem_of_getElem? hk)⟩
    obtain ⟨hi, rfl⟩ := List.getElem?_eq_some_iff.mp hp
    obtain ⟨hj, rfl⟩ := List.getElem?_eq_some_iff.mp hq
    rcases Nat.lt_trichotomy i j with z | z | z
    · exact absurd he (List.pairwise_iff_getElem.mp h.1 i j hi hj z)
    · exact z
    · exact absurd he.symm (List.pairwise_iff_getElem.mp h.1 j i hj hi z)
theorem xn_permP {D : va_G} {cl : List vw_C} {ws ws' : va_W} {H : Heap} (h : ws.Perm ws') (hP : va_P D cl ws H) : va_P D cl ws' H := xn_Pm.mpr (fun x hx => xn_Pm.mp hP x (h.mem_iff.mpr hx))
theorem xn_permD {A : Nat → Prop} {ws ws' : va_W} (h : ws.Perm ws') (hD : va_D A ws) : va_D A ws' := by
  have hd := xn_Dm.mp hD
  exact xn_Dm.mpr ⟨(h.pairwise_iff (fun h => Ne.symm h)).mp hd.1, fun x hx => hd.2 x (h.mem_iff.mpr hx)⟩
theorem xn_rot (x : Nat × va_E) (ws : va_W) : (ws ++ [x]).Perm (x :: ws) := List.perm_append_comm
theorem xn_rot3 (x : Nat × va_E) (r f t : va_W) : ((x :: r) ++ (f ++ t)).Perm (x :: (f ++ (r ++ t))) := by
  refine List.Perm.cons x ?_
  have h1 : (r ++ (f ++ t)).Perm ((f ++ t) ++ r) := List.perm_append_comm
  have h2 : ((f ++ t) ++ r).Perm (f ++ (r ++ t)) := by
    rw [List.append_assoc]
    exact List.Perm.append_left f List.perm_append_comm
  exact h1.trans h2
section XO
variable {p : Program} {l : Launch} {e : Env} {R : Room} {s : State} {m : MethodId} {args : Array Value} {below : List Frame} {meth : Method} {c : Code} {H : Heap} {locs : List Loc} {cells slots : Nat} {Q : State → Prop}
variable {cc : ByteArray} {nL : Nat} {own : String} {D : va_G} {cy : Nat → ClassId} {pc : Nat} {ls : Array Slot} {rest : List Value} {ws : va_W} {A : Nat → Prop}
theorem xn_call2 {W1 : (Nat → Nat) → va_W} {st0 : List Value} {a : Array Value} {mc ms : Nat} {b : Nat} {x : va_E} (pre post : va_W) (hws : ws = pre ++ (b, x) :: post) (hA : ∀ q, s.heap.size ≤ q → A q) (hP : va_P D vwCl ws H) (hD : va_D A ws) (hS : va_S A s.heap H locs)
    (hr : va_Run p l e R s m args below meth c H locs cells slots mc ms (F0 m pc ls st0) rest (va_Qv (fun _ : Nat → Nat => True) (fun u t => va_P D vwCl (W1 u) t.heap ∧ va_D (va_A [(b, x)] H.size) (W1 u)) (va_A [(b, x)] H.size) a) (va_A [(b, x)] H.size))
    (kk : ∀ (u : Nat → Nat) (H1 : Heap) (locs1 : List Loc), va_P D vwCl (W1 u ++ (pre ++ post)) H1 → va_D A (W1 u ++ (pre ++ post)) → va_S A s.heap H1 locs1 → W p l e R s m args below meth c H1 locs1 (cells + mc) (slots + ms) Q (F0 m (pc + 3) ls rest)) : W p l e R s m args below meth c H locs cells slots Q (F0 m pc ls st0) := by
  have hd := xn_Dm.mp hD
  have hp := xn_Pm.mp hP
  have hmem : ∀ y, y ∈ pre ++ post → y ∈ ws := by
    intro y hy
    rw [hws]
    rcases List.mem_append.mp hy with h | h
    · exact List.mem_append_left _ h
    · exact List.mem_append_right _ (List.mem_cons_of_mem _ h)
  have hbw : (b, x) ∈ ws := by rw [hws]; exact List.mem_append_right _ List.mem_cons_self
  have hFc : ∀ q, va_A [(b, x)] H.size q → A q := by
    intro q h
    rcases h with ⟨k, e0, h⟩ | h
    · have h2 := List.mem_of_getElem? h
      simp at h2
      rw [h2.1]
      exact hd.2 _ hbw
    · exact hA q (Nat.le_trans hS.1 h)
  have hne : ∀ y, y ∈ pre ++ post → y.1 ≠ b := by
    intro y hy
    have hpw := hd.1
    rw [hws] at hpw
    have h3 := List.pairwise_append.mp hpw
    rcases List.mem_append.mp hy with h | h
    · exact h3.2.2 y h (b, x) List.mem_cons_self
    · exact (List.pairwise_cons.mp h3.2.1).1 y h |>.symm
  have hout : ∀ y, y ∈ pre ++ post → ¬ va_A [(b, x)] H.size y.1 := by
    intro y hy h
    rcases h with ⟨k, e0, h⟩ | h
    · have h2 := List.mem_of_getElem? h
      simp at h2
      exact hne y hy h2.1
    · have := (hp y (hmem y hy)).lt
      omega
  refine va_callv hr hS (fun q _ h => hFc q h) hFc (fun u t H1 locs1 ht _ _ hB _ hk1 hS => ?_)
  obtain ⟨hP1, hD1⟩ := hB
  rw [ht] at hP1
  have hd1 := xn_Dm.mp hD1
  refine kk u H1 locs1 (xn_Pm.mpr (fun y hy => ?_)) (xn_Dm.mpr ⟨List.pairwise_append.mpr ⟨hd1.1, ?_, fun y hy z hz he => ?_⟩, fun y hy => ?_⟩) hS
  · rcases List.mem_append.mp hy with h | h
    · exact xn_Pm.mp hP1 y h
    · exact (hp y (hmem y h)).kept (hk1 y.1 (hp y (hmem y h)).lt (hout y h))
  · have hpw := hd.1
    rw [hws] at hpw
    have h3 := List.pairwise_append.mp hpw
    exact List.pairwise_append.mpr ⟨h3.1, (List.pairwise_cons.mp h3.2.1).2, fun y hy z hz => h3.2.2 y hy z (List.mem_cons_of_mem _ hz)⟩
  · exact hout z hz (by rw [← he]; exact hd1.2 y hy)
  · rcases List.mem_append.mp hy with h | h
    · exact hFc _ (hd1.2 y h)
    · exact hd.2 y (hmem y h)
theorem xn_runM {y : MethodName} {bytes : ByteArray} {maxL n idx fr lo mc ms : Nat} {As st0 : List Value} {b : Nat} {x : va_E} {W1 : (Nat → Nat) → va_W} (X : xn_X p s m args c cc nL own D cy) (hP : va_P D vwCl ws H) (pre post : va_W) (hws : ws = pre ++ (b, x) :: post)
    (hM : xn_C l y bytes maxL { frames := fr, cells := mc, slots := ms, locals := lo } D cy [(b, x)] (.ref b :: As) W1 mc ms) (hm : xr_MW y bytes maxL none n) (hi : Cond.instanceMethod y ∈ xw_T) (hy : y.name = "<init>") (hl : Cond.methodLink own idx y ∈ xw_T ∨ va_Nw (.methodLinkNest own idx y "ShowRings") s) (hR : xr_Rm R fr lo maxL)
    (hn : As.length = n) (hst : st0 = As.reverse ++ .ref b :: rest) (hls : ls.size = nL) (hcat : (rest.map fun v => v.category).sum ≤ 8) (hd : decode cc pc = .ok (.invokespecial idx, 3)) (hcs : cells + mc ≤ R.cells ∧ slots + ms ≤ R.slots) :
    va_Run p l e R s m args below meth c H locs cells slots mc ms (F0 m pc ls st0) rest (va_Qv (fun _ : Nat → Nat => True) (fun u t => va_P D vwCl (W1 u) t.heap ∧ va_D (va_A [(b, x)] H.size) (W1 u)) (va_A [(b, x)] H.size) (Value.ref b :: As).toArray) (va_A [(b, x)] H.size) := by
  have hk : ws[pre.length]? = some (b, x) := by rw [hws]; simp
  exact xn_run X hP pre.length hk hM hm hi hy hl hR hn hst hls hcat hd hcs
end XO

/-- a new ShowRings -/
def xq_A0 : xw_M := (fun c j => if c = 0 then (if j = 10 then 1 else if j = 11 then -1 else 0) else if c = 3 then (if j = 4 then -1 else 0) else if c = 7 then (if j = 7 then 1 else 0) else if c = 12 then (if j = 0 then 1 else 0) else if c = 13 then (if j = 0 then 2 else 0) else if c = 14 then (if j = 0 then 3 else 0) else if c = 15 then (if j = 0 then 4 else 0) else if 66 ≤ c ∧ c < 73 then xn_m1 j else 0, fun _ _ => 0)
def xw_go (cy : Nat → ClassId) (q : Nat → Nat) (σ : xw_M) : Nat → List xw_E → va_W
  | _, [] => []
  | c, e :: es => (q c, xw_ce cy q σ c e) :: xw_go cy q σ (c + 1) es
theorem xw_go_get (cy : Nat → ClassId) (q : Nat → Nat) (σ : xw_M) : ∀ (es : List xw_E) (c k : Nat), (xw_go cy q σ c es)[k]? = (es[k]?).map (fun e => (q (c + k), xw_ce cy q σ (c + k) e)) := by
  intro es
  induction es with
  | nil => intro c k; simp [xw_go]
  | cons e es ih =>
    intro c k
    cases k with
    | zero => simp [xw_go]
    | succ k => simp only [xw_go, List.getElem?_cons_succ]; rw [ih, show c + 1 + k = c + (k + 1) by omega]
theorem xw_d_go (cy : Nat → ClassId) (lay : List xw_E) (q : Nat → Nat) (σ : xw_M) : xw_d cy lay q σ = xw_go cy q σ 0 lay := by
  apply List.ext_getElem?
  intro k
  rw [xw_go_get]
  simp [xw_d, List.getElem?_mapIdx]
def xn_EA (cy : Nat → ClassId) (u : Nat → Nat) : va_W := [((u 0), .inr (11, [.ref (u 1), .ref (u 9), .ref (u 3), .ref (u 4), .ref (u 5), .ref (u 6), .ref (u 7), .ref (u 8), .ref (u 23), .int (0 : Int32), .int (1 : Int32), .int (-1 : Int32)])), ((u 1), .inr (8, [.ref (u 24), .int (0 : Int32)])), ((u 2), .inr (6, [.ref (u 1), .ref (u 25), .ref (u 26), .ref (u 27), .int (0 : Int32)])), ((u 3), .inr (3, [.ref (u 2), .ref (u 10), .int (0 : Int32), .int (0 : Int32), .int (-1 : Int32)])), ((u 4), .inr (2, [.ref (u 28), .ref (u 29), .ref (u 30), .ref (u 31), .ref (u 32), .ref (u 33), .ref (u 34), .ref (u 35), .ref (u 36), .ref (u 37), .ref (u 38), .int (0 : Int32), .int (0 : Int32)])), ((u 5), .inr (1, [.ref (u 4), .ref (u 39), .ref (u 40), .ref (u 41), .ref (u 42), .ref (u 43), .int (0 : Int32)])), ((u 6), .inr (0, [.ref (u 9), .ref (u 4), .ref (u 5), .ref (u 44)])), ((u 7), .inr (4, [.ref (u 4), .ref (u 6), .ref (u 45), .ref (u 46), .ref (u 47), .ref (u 21), .ref (u 22), .int (1 : Int32), .int (0 : Int32), .int (0 : Int32)])), ((u 8), .inr (5, [.ref (u 4), .ref (u 5), .ref (u 6)])), ((u 9), .inr (9, [.ref (u 48), .ref (u 50), .ref (u 52), .ref (u 54), .ref (u 56), .ref (u 58), .ref (u 60), .ref (u 62), .ref (u 64), .int (0 : Int32), .int (0 : Int32)])), ((u 10), .inr (9, [.ref (u 49), .ref (u 51), .ref (u 53), .ref (u 55), .ref (u 57), .ref (u 59), .ref (u 61), .ref (u 63), .ref (u 65), .int (0 : Int32), .int (0 : Int32)])), ((u 11), .inr (7, [.int (0 : Int32), .ref (u 16), .int (0 : Int32), .int (0 : Int32)])), ((u 12), .inr (7, [.int (1 : Int32), .ref (u 17), .int (0 : Int32), .int (0 : Int32)])), ((u 13), .inr (7, [.int (2 : Int32), .ref (u 18), .int (0 : Int32), .int (0 : Int32)])), ((u 14), .inr (7, [.int (3 : Int32), .ref (u 19), .int (0 : Int32), .int (0 : Int32)])), ((u 15), .inr (7, [.int (4 : Int32), .ref (u 20), .int (0 : Int32), .int (0 : Int32)])), ((u 16), .inr (10, [.ref (u 66)])), ((u 17), .inr (10, [.ref (u 67)])), ((u 18), .inr (10, [.ref (u 68)])), ((u 19), .inr (10, [.ref (u 69)])), ((u 20), .inr (10, [.ref (u 70)])), ((u 21), .inr (10, [.ref (u 71)])), ((u 22), .inr (10, [.ref (u 72)])), ((u 23), .inl (cy 4, 5, .inr (.inr (.inr (.inr (fun i => some (u (11 + i)))))))), ((u 24), .inl (cy 0, 2000, .inl (fun _ => 0))), ((u 25), .inl (cy 1, 401, .inl (fun _ => 0))), ((u 26), .inl (cy 1, 401, .inl (fun _ => 0))), ((u 27), .inl (cy 1, 401, .inl (fun _ => 0))), ((u 28), .inl (cy 1, 12, .inl (fun _ => 0))), ((u 29), .inl (cy 1, 12, .inl (fun _ => 0))), ((u 30), .inl (cy 1, 6, .inl (fun _ => 0))), ((u 31), .inl (cy 1, 6, .inl (fun _ => 0))), ((u 32), .inl (cy 1, 6, .inl (fun _ => 0))), ((u 33), .inl (cy 1, 6, .inl (fun _ => 0))), ((u 34), .inl (cy 1, 20, .inl (fun _ => 0))), ((u 35), .inl (cy 1, 20, .inl (fun _ => 0))), ((u 36), .inl (cy 1, 20, .inl (fun _ => 0))), ((u 37), .inl (cy 1, 20, .inl (fun _ => 0))), ((u 38), .inl (cy 1, 20, .inl (fun _ => 0))), ((u 39), .inl (cy 1, 200, .inl (fun _ => 0))), ((u 40), .inl (cy 1, 200, .inl (fun _ => 0))), ((u 41), .inl (cy 1, 200, .inl (fun _ => 0))), ((u 42), .inl (cy 1, 200, .inl (fun _ => 0))), ((u 43), .inl (cy 1, 200, .inl (fun _ => 0))), ((u 44), .inl (cy 1, 9, .inl (fun _ => 0))), ((u 45), .inl (cy 1, 6, .inl (fun _ => 0))), ((u 46), .inl (cy 1, 6, .inl (fun _ => 0))), ((u 47), .inl (cy 1, 6, .inl (fun _ => 0))), ((u 48), .inl (cy 1, 16, .inl (fun _ => 0))), ((u 49), .inl (cy 1, 16, .inl (fun _ => 0))), ((u 50), .inl (cy 1, 16, .inl (fun _ => 0))), ((u 51), .inl (cy 1, 16, .inl (fun _ => 0))), ((u 52), .inl (cy 1, 16, .inl (fun _ => 0))), ((u 53), .inl (cy 1, 16, .inl (fun _ => 0))), ((u 54), .inl (cy 1, 16, .inl (fun _ => 0))), ((u 55), .inl (cy 1, 16, .inl (fun _ => 0))), ((u 56), .inl (cy 1, 16, .inl (fun _ => 0))), ((u 57), .inl (cy 1, 16, .inl (fun _ => 0))), ((u 58), .inl (cy 1, 16, .inl (fun _ => 0))), ((u 59), .inl (cy 1, 16, .inl (fun _ => 0))), ((u 60), .inl (cy 1, 400, .inl (fun _ => 0))), ((u 61), .inl (cy 1, 400, .inl (fun _ => 0))), ((u 62), .inl (cy 1, 400, .inl (fun _ => 0))), ((u 63), .inl (cy 1, 400, .inl (fun _ => 0))), ((u 64), .inl (cy 1, 400, .inl (fun _ => 0))), ((u 65), .inl (cy 1, 400, .inl (fun _ => 0))), ((u 66), .inl (cy 1, 24, .inl xn_m1)), ((u 67), .inl (cy 1, 24, .inl xn_m1)), ((u 68), .inl (cy 1, 24, .inl xn_m1)), ((u 69), .inl (cy 1, 24, .inl xn_m1)), ((u 70), .inl (cy 1, 24, .inl xn_m1)), ((u 71), .inl (cy 1, 24, .inl xn_m1)), ((u 72), .inl (cy 1, 24, .inl xn_m1))]
set_option maxRecDepth 100000 in
set_option maxHeartbeats 4000000 in
theorem xn_eqA (cy : Nat → ClassId) (u : Nat → Nat) : xw_d cy xl_A u xq_A0 = xn_EA cy u := by
  rw [xw_d_go]
  simp only [xl_A, xw_go, xw_ce]
  rfl

