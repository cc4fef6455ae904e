theorem xm_X11_init : xr_MW yX11_init cX11_init 2 none 0 := ⟨xt_1_25, xt_1_1, by decide, by decide, by decide +kernel⟩
theorem xm_X12_init : xr_MW yX12_init cX12_init 2 none 0 := ⟨xt_4_165, xt_1_13, by decide, by decide, by decide +kernel⟩
theorem xq_both {A : Nat → Prop} {cy : Nat → ClassId} {qa qb : Nat → Nat} {σ τ : xw_M} (h : va_D A (xw_d cy xl_B qb τ ++ xw_d cy xl_A qa σ)) : xw_dj xl_A qa ∧ xw_dj xl_B qb ∧ (∀ k, k < xl_A.length → A (qa k)) ∧ (∀ k, k < xl_B.length → A (qb k)) ∧ ∀ i j, i < xl_A.length → j < xl_B.length → qa i ≠ qb j := by
  have hd := xn_Dm.mp h
  have hp := List.pairwise_append.mp hd.1
  have hA : va_D A (xw_d cy xl_A qa σ) := xn_Dm.mpr ⟨hp.2.1, fun x hx => hd.2 x (List.mem_append_right _ hx)⟩
  have hB : va_D A (xw_d cy xl_B qb τ) := xn_Dm.mpr ⟨hp.1, fun x hx => hd.2 x (List.mem_append_left _ hx)⟩
  refine ⟨(xn_dj hA).1, (xn_dj hB).1, (xn_dj hA).2, (xn_dj hB).2, fun i j hi hj he => ?_⟩
  have h1 := List.mem_of_getElem? (xw_at (cy := cy) (q := qa) (σ := σ) (List.getElem?_eq_getElem hi))
  have h2 := List.mem_of_getElem? (xw_at (cy := cy) (q := qb) (σ := τ) (List.getElem?_eq_getElem hj))
  exact hp.2.2 _ h2 _ h1 he.symm
set_option maxRecDepth 100000 in
set_option maxHeartbeats 8000000 in
/-- the law, from its entry, out of a relation that every call keeps -/
theorem xq_whole {R : xw_M → xw_M → Prop} (hSim : xq_Sim R) (h0 : R xq_A0 xq_B0) {p : Program} {e : Env} {s : State} {m : MethodId} {below : List Frame} {meth : Method} {c : Code} (l : Launch) {b L : Nat} {xs : Nat → Int32} (hL : L ≤ 3072) (C0 : lw_At p s m meth c b L xs) : W p l e room_1 s m #[Value.ref b] below meth c s.heap [] 0 0 (lw_Z below #[Value.ref b] s) (entryFrame m ([Value.ref b] : List Value).toArray 4) := by
  obtain ⟨hx, hb, hret, hml, hown, hts, hX, hbl, hlocks, hgv⟩ := id C0
  obtain ⟨D, cy, ak, av, hT, hN, hK, hAO, hG⟩ := xq_start C0
  have X : xn_X p s m #[Value.ref b] c cL_law 4 RL D cy := ⟨hx, hb, hml, hown, hT, hN, hK, hAO⟩
  have hA : ∀ q : Nat, s.heap.size ≤ q → (fun q : Nat => s.heap.size ≤ q) q := fun _ h => h
  have hS : va_S (fun q : Nat => s.heap.size ≤ q) s.heap s.heap [] := va_S.rf
  have hP : va_P D vwCl [] s.heap := fun k q h => by simp at h
  have hD : va_D (fun q : Nat => s.heap.size ≤ q) [] := ⟨fun i j p q h => by simp at h, fun k q h => by simp at h⟩
  have hl := lv_entry ([.ref b]) (n := 4) (Nat.le_of_ble_eq_true rfl)
  rw [lg_entry_eq]
  generalize (lg_sl ([.ref b]) ++ List.replicate (4 - (lg_sl ([.ref b])).length) Slot.unset).toArray = ls at hl ⊢
  have hl : lv_has ls 4 [(0, .ref b)] := hl
  refine va_new (ci := 11) (fs := [.null, .null, .null, .null, .null, .null, .null, .null, .null, .int 0, .int 0, .int 0]) (C := RX11) (T := TX11) (N := 12) hx hb hT xt_inX11 tyX11 tyX11_ok hown (hT _ xt_1_21) (hT _ xi_X11) (hT _ xt_1_1) hK hP hD hS hA rfl (fun j hj => by match j, hj with | 0, _ => rfl | 1, _ => rfl | 2, _ => rfl | 3, _ => rfl | 4, _ => rfl | 5, _ => rfl | 6, _ => rfl | 7, _ => rfl | 8, _ => rfl | 9, _ => rfl | 10, _ => rfl | 11, _ => rfl | k + 12, h => exact absurd h (by omega)) (Nat.le_of_ble_eq_true rfl) (Nat.le_of_ble_eq_true rfl) dL_law_0 (fun q0 H hP hD hS => ?_)
  have hP : va_P D vwCl ([] ++ (q0, .inr (11, [.null, .null, .null, .null, .null, .null, .null, .null, .null, .int 0, .int 0, .int 0])) :: []) H := hP
  have hD : va_D (fun q : Nat => s.heap.size ≤ q) ([] ++ (q0, .inr (11, [.null, .null, .null, .null, .null, .null, .null, .null, .null, .int 0, .int 0, .int 0])) :: []) := hD
  refine lv_dup hx hb dL_law_3 rfl ?_
  refine xn_call2 [] [] rfl hA hP hD hS (xn_runM (As := []) (rest := [.ref q0]) X hP [] [] rfl (xn_ShowRings l D cy q0) xm_X11_init xt_1_24 rfl (Or.inl xt_1_23) ⟨Nat.le_of_ble_eq_true rfl, Nat.le_of_ble_eq_true rfl⟩ rfl rfl hl.1 (Nat.le_of_ble_eq_true rfl) dL_law_4 ⟨Nat.le_of_ble_eq_true rfl, Nat.le_of_ble_eq_true rfl⟩) (fun u H locs hP hD hS => ?_)
  obtain ⟨qa, hqa⟩ : ∃ f : Nat → Nat, f = fun k => if k = 0 then q0 else u k := ⟨_, rfl⟩
  have hqa0 : qa 0 = q0 := by rw [hqa]; rfl
  rw [← hqa] at hP hD
  have hP : va_P D vwCl (xw_d cy xl_A qa xq_A0) H := by simpa using hP
  have hD : va_D (fun q : Nat => s.heap.size ≤ q) (xw_d cy xl_A qa xq_A0) := by simpa using hD
  refine lv_astore_n (lv' := [(1, .ref q0), (0, .ref b)]) hx hb dL_law_7 rfl hl (by decide) rfl (fun ls hl => ?_)
  clear hqa u
  refine va_new (ci := 12) (fs := [.int 0, .null, .int 0, .null, .int 0, .null, .null, .null, .null, .null, .int 0, .int 0, .int 0, .int 0, .int 0, .int 0, .int 0, .int 0, .int 0, .int 0, .null, .null, .null, .null, .null, .null, .null, .null, .null, .null, .null, .null, .null, .null, .int 0, .null, .null, .null, .int 0, .null, .null, .int 0, .int 0, .null, .null, .null, .null, .int 0, .null, .null, .null, .null, .null, .int 0, .null, .null, .int 0, .null, .null, .null, .null, .null, .null, .null, .null, .null, .null, .null, .null, .null, .null, .null, .null, .null, .null, .null, .null]) (C := RX12) (T := TX12) (N := 77) hx hb hT xt_inX12 tyX12 tyX12_ok hown (hT _ xt_4_161) (hT _ xi_X12) (hT _ xt_1_13) hK hP hD hS hA rfl (fun j hj => by match j, hj with | 0, _ => rfl | 1, _ => rfl | 2, _ => rfl | 3, _ => rfl | 4, _ => rfl | 5, _ => rfl | 6, _ => rfl | 7, _ => rfl | 8, _ => rfl | 9, _ => rfl | 10, _ => rfl | 11, _ => rfl | 12, _ => rfl | 13, _ => rfl | 14, _ => rfl | 15, _ => rfl | 16, _ => rfl | 17, _ => rfl | 18, _ => rfl | 19, _ => rfl | 20, _ => rfl | 21, _ => rfl | 22, _ => rfl | 23, _ => rfl | 24, _ => rfl | 25, _ => rfl | 26, _ => rfl | 27, _ => rfl | 28, _ => rfl | 29, _ => rfl | 30, _ => rfl | 31, _ => rfl | 32, _ => rfl | 33, _ => rfl | 34, _ => rfl | 35, _ => rfl | 36, _ => rfl | 37, _ => rfl | 38, _ => rfl | 39, _ => rfl | 40, _ => rfl | 41, _ => rfl | 42, _ => rfl | 43, _ => rfl | 44, _ => rfl | 45, _ => rfl | 46, _ => rfl | 47, _ => rfl | 48, _ => rfl | 49, _ => rfl | 50, _ => rfl | 51, _ => rfl | 52, _ => rfl | 53, _ => rfl | 54, _ => rfl | 55, _ => rfl | 56, _ => rfl | 57, _ => rfl | 58, _ => rfl | 59, _ => rfl | 60, _ => rfl | 61, _ => rfl | 62, _ => rfl | 63, _ => rfl | 64, _ => rfl | 65, _ => rfl | 66, _ => rfl | 67, _ => rfl | 68, _ => rfl | 69, _ => rfl | 70, _ => rfl | 71, _ => rfl | 72, _ => rfl | 73, _ => rfl | 74, _ => rfl | 75, _ => rfl | 76, _ => rfl | k + 77, h => exact absurd h (by omega)) (Nat.le_of_ble_eq_true rfl) (Nat.le_of_ble_eq_true rfl) dL_law_8 (fun p0 H hP hD hS => ?_)
  refine lv_dup hx hb dL_law_11 rfl ?_
  refine xn_call2 (xw_d cy xl_A qa xq_A0) [] rfl hA hP hD hS (xn_runM (As := []) (rest := [.ref p0]) X hP (xw_d cy xl_A qa xq_A0) [] rfl (xn_Model l D cy p0) xm_X12_init xt_4_164 rfl (Or.inl xt_4_163) ⟨Nat.le_of_ble_eq_true rfl, Nat.le_of_ble_eq_true rfl⟩ rfl rfl hl.1 (Nat.le_of_ble_eq_true rfl) dL_law_12 ⟨Nat.le_of_ble_eq_true rfl, Nat.le_of_ble_eq_true rfl⟩) (fun u H locs hP hD hS => ?_)
  obtain ⟨qb, hqb⟩ : ∃ f : Nat → Nat, f = fun k => if k = 0 then p0 else u k := ⟨_, rfl⟩
  have hqb0 : qb 0 = p0 := by rw [hqb]; rfl
  rw [← hqb] at hP hD
  rw [List.append_nil] at hP hD
  have hst : xq_S s qa qb := xq_both hD
  have hp := xn_Pm.mp hP
  have hPA : va_P D vwCl (xw_d cy xl_A qa xq_A0) H := xn_Pm.mpr (fun x hx => hp x (List.mem_append_right _ hx))
  have hPB : va_P D vwCl (xw_d cy xl_B qb xq_B0) H := xn_Pm.mpr (fun x hx => hp x (List.mem_append_left _ hx))
  refine lv_astore_n (lv' := [(2, .ref p0), (1, .ref q0), (0, .ref b)]) hx hb dL_law_15 rfl hl (by decide) rfl (fun ls hl => ?_)
  refine lv_iconst (v := 0) hx hb dL_law_16 (by decide) ?_
  refine lv_istore_n (lv' := [(3, .int 0), (2, .ref p0), (1, .ref q0), (0, .ref b)]) hx hb dL_law_17 rfl hl (by decide) rfl (fun ls hl => ?_)
  refine W.widen (k := 131) (n := 19108) (Nat.le_of_ble_eq_true rfl) (Nat.le_of_ble_eq_true rfl) ?_
  exact xq_loop hL C0 hT hN hK hst hG hSim (L + 1) 0 (by omega) (by omega) xq_A0 xq_B0 h0 H locs ⟨hPA, hPB, hS⟩ ls (by rw [hqa0, hqb0]; exact lv_sub hl [3, 2, 1, 0] rfl)
