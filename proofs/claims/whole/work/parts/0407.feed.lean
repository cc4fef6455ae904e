/-! feed -/
def f_bq (a v : Int32) : Int32 := vp_nar .byte (Int8.toInt32 (Int32.toInt8 (a >>> (v &&& 31))))
def f_1 (σ : xw_M) (cb cl jl n : Nat) (b : Int32) : xw_M := xw_i (xw_i σ cb n b) cl jl (nI (n + 1))
def f_4 (σ : xw_M) (cb cl jl n : Nat) (a : Int32) : xw_M := f_1 (f_1 (f_1 (f_1 σ cb cl jl n (f_bq a 24)) cb cl jl (n + 1) (f_bq a 16)) cb cl jl (n + 2) (f_bq a 8)) cb cl jl (n + 3) (f_bq a 0)
theorem f_1len {σ : xw_M} {cb cl jl n : Nat} {b : Int32} : (f_1 σ cb cl jl n b).1 cl jl = nI (n + 1) := xw_eq
theorem f_4len {σ : xw_M} {cb cl jl n : Nat} {a : Int32} : (f_4 σ cb cl jl n a).1 cl jl = nI (n + 4) := xw_eq
theorem fA_step {σ : xw_M} {n : Nat} {a v : Int32} {K : xw_M → Int32 → Prop} {Z : xw_M → Prop} (hK : ∀ (σ : xw_M) (v : Int32), xb_X8_append_3 a K Z σ v → K σ v) (hn : σ.1 1 1 = nI n) (hlt : n < 2000) (hv : ¬ v < 0) (h : K (f_1 σ 24 1 1 n (f_bq a v)) (v + (-8))) : K σ v := by
  apply hK
  have ec : (σ.1 1 1).toNatClampNeg = n := by rw [hn]; exact nI_clamp (by omega)
  refine ⟨fun g => absurd g hv, fun _ => ⟨fun g => absurd g (by rw [hn, i_le, i_nI (by omega), i_2000]; omega), fun _ => ⟨by rw [hn]; exact vp_in_nI hlt (by decide), fun σ1 e1 σ2 e2 => ?_⟩⟩⟩
  rw [ec] at e1
  subst e1
  have e3 : (xw_i σ 24 n (f_bq a v)).1 1 1 = nI n := hn
  unfold f_bq at e3
  rw [e3, nI_1] at e2
  subst e2
  exact h
theorem fA_app {σ : xw_M} {n : Nat} {a : Int32} {Z : xw_M → Prop} (hn : σ.1 1 1 = nI n) (hlt : n + 4 ≤ 2000) (h : Z (f_4 σ 24 1 1 n a)) : xu_X8_append σ a Z := by
  intro K hK
  show K σ 24
  refine fA_step hK hn (by omega) (by decide) ?_
  refine fA_step (v := 16) hK f_1len (by omega) (by decide) ?_
  refine fA_step (v := 8) hK f_1len (by omega) (by decide) ?_
  refine fA_step (v := 0) hK f_1len (by omega) (by decide) ?_
  apply hK
  exact ⟨fun _ => h, fun g => absurd (by decide) g⟩
theorem fB_step {τ : xw_M} {n : Nat} {a v : Int32} {K : xw_M → Int32 → Prop} {Z : xw_M → Prop} (hK : ∀ (σ : xw_M) (v : Int32), xb_X12_put_3 a K Z σ v → K σ v) (hn : τ.1 0 2 = nI n) (hlt : n < 2000) (hv : ¬ v < 0) (h : K (f_1 τ 1 0 2 n (f_bq a v)) (v + (-8))) : K τ v := by
  apply hK
  have ec : (τ.1 0 2).toNatClampNeg = n := by rw [hn]; exact nI_clamp (by omega)
  refine ⟨fun g => absurd g hv, fun _ => ⟨by rw [hn]; exact vp_in_nI hlt (by decide), fun σ1 e1 σ2 e2 => ?_⟩⟩
  rw [ec] at e1
  subst e1
  have e3 : (xw_i τ 1 n (f_bq a v)).1 0 2 = nI n := hn
  unfold f_bq at e3
  rw [e3, nI_1] at e2
  subst e2
  exact h
theorem fB_put {τ : xw_M} {n : Nat} {a : Int32} {Z : xw_M → Prop} (hn : τ.1 0 2 = nI n) (hlt : n + 4 ≤ 2000) (h : Z (f_4 τ 1 0 2 n a)) : xu_X12_put τ a Z := by
  intro K hK
  show K τ 24
  refine fB_step hK hn (by omega) (by decide) ?_
  refine fB_step (v := 16) hK f_1len (by omega) (by decide) ?_
  refine fB_step (v := 8) hK f_1len (by omega) (by decide) ?_
  refine fB_step (v := 0) hK f_1len (by omega) (by decide) ?_
  apply hK
  exact ⟨fun _ => h, fun g => absurd (by decide) g⟩
def f_20 (σ : xw_M) (cb cl jl n : Nat) (a b c d e : Int32) : xw_M := f_4 (f_4 (f_4 (f_4 (f_4 σ cb cl jl n a) cb cl jl (n + 4) b) cb cl jl (n + 8) c) cb cl jl (n + 12) d) cb cl jl (n + 16) e
theorem fA_feed {σ : xw_M} {n : Nat} {a b c d e : Int32} {Z : Int32 → xw_M → Prop} (hn : σ.1 1 1 = nI n) (hn2 : n ≤ 2000) (h1 : n ≤ 1980 → Z (nI (n + 20)) (f_20 σ 24 1 1 n a b c d e)) (h0 : ¬ n ≤ 1980 → Z (-1) σ) : xu_X11_feed σ a b c d e Z := by
  refine ⟨fun g => ?_, fun g => h0 (fun z => g (by rw [hn, i_le, i_nI (by omega), i_1980]; omega))⟩
  have hle : n ≤ 1980 := by rw [hn, i_le, i_nI (by omega), i_1980] at g; omega
  refine fA_app hn (by omega) (fA_app f_4len (by omega) (fA_app f_4len (by omega) (fA_app f_4len (by omega) (fA_app f_4len (by omega) ?_))))
  have := h1 hle
  rw [f_4len]
  exact this
theorem fB_feed {τ : xw_M} {n : Nat} {a b c d e : Int32} {Z : Int32 → xw_M → Prop} (hn : τ.1 0 2 = nI n) (hn2 : n ≤ 2000) (h1 : n ≤ 1980 → Z (nI (n + 20)) (f_20 τ 1 0 2 n a b c d e)) (h0 : ¬ n ≤ 1980 → Z (-1) τ) : xu_X12_feed τ a b c d e Z := by
  have e20 : τ.1 0 2 + 20 = nI (n + 20) := by rw [hn]; exact nI_add n 20
  refine ⟨fun g => ?_, fun g => h0 (fun z => g (by rw [e20, i_le, i_nI (by omega), i_2000]; omega))⟩
  have hle : n ≤ 1980 := by rw [e20, i_le, i_nI (by omega), i_2000] at g; omega
  refine fB_put hn (by omega) (fB_put f_4len (by omega) (fB_put f_4len (by omega) (fB_put f_4len (by omega) (fB_put f_4len (by omega) ?_))))
  have := h1 hle
  rw [f_4len]
  exact this
/-- the tapes grow alike, all else stays -/
def f_P (σ0 τ0 : xw_M) (n : Nat) (σ τ : xw_M) : Prop := σ.1 1 1 = nI n ∧ τ.1 0 2 = nI n ∧ (∀ j, j < n → σ.1 24 j = τ.1 1 j) ∧ (∀ c, c ≠ 1 → c ≠ 24 → σ.1 c = σ0.1 c) ∧ (∀ c, c ≠ 0 → c ≠ 1 → τ.1 c = τ0.1 c) ∧ ∀ j, j ≠ 2 → τ.1 0 j = τ0.1 0 j
theorem f_P1 {σ0 τ0 σ τ : xw_M} {n : Nat} {b : Int32} (h : f_P σ0 τ0 n σ τ) : f_P σ0 τ0 (n + 1) (f_1 σ 24 1 1 n b) (f_1 τ 1 0 2 n b) := by
  obtain ⟨h1, h2, h3, h4, h5, h6⟩ := h
  refine ⟨f_1len, f_1len, fun j hj => ?_, fun c c1 c2 => ?_, fun c c1 c2 => ?_, fun j hj => ?_⟩
  · unfold f_1
    rw [xw_ne (c' := 24) (by decide), xw_ne (c' := 1) (by decide)]
    by_cases e : j = n
    · subst e; rw [xw_eq, xw_eq]
    · rw [xw_nj e, xw_nj e]; exact h3 j (by omega)
  · unfold f_1
    rw [xw_ne c1, xw_ne c2]; exact h4 c c1 c2
  · unfold f_1
    rw [xw_ne c1, xw_ne c2]; exact h5 c c1 c2
  · unfold f_1
    rw [xw_nj hj, xw_ne (by decide)]; exact h6 j hj
theorem f_P4 {σ0 τ0 σ τ : xw_M} {n : Nat} {a : Int32} (h : f_P σ0 τ0 n σ τ) : f_P σ0 τ0 (n + 4) (f_4 σ 24 1 1 n a) (f_4 τ 1 0 2 n a) := f_P1 (f_P1 (f_P1 (f_P1 h)))
section FEED
variable {tx : xw_M → xw_M → Prop}
theorem s_feed (htx : r_txOk tx) : ∀ σ τ, r_R tx σ τ → ∀ a0 a1 a2 a3 a4 : Int32, xu_X11_feed σ a0 a1 a2 a3 a4 (fun r σ1 => xu_X12_feed τ a0 a1 a2 a3 a4 (fun r2 τ1 => r = r2 ∧ r_R tx σ1 τ1)) := by
  intro σ τ hR a b c d e
  obtain ⟨nt, nb, nd, ns, nf, h1, h2, h3, h4, h5, h6, h7, h8, h9, h10, h11⟩ := id hR
  obtain ⟨t1, t2, t3, t4⟩ := id h1
  refine fA_feed t2 t1 (fun ok => fB_feed t3 t1 (fun _ => ⟨rfl, ?_⟩) (fun h => absurd ok h)) (fun no => fB_feed t3 t1 (fun ok => absurd ok no) (fun _ => ⟨rfl, hR⟩))
  have hP : f_P σ τ nt σ τ := ⟨t2, t3, t4, fun _ _ _ => rfl, fun _ _ _ => rfl, fun _ _ => rfl⟩
  have hQ : f_P σ τ (nt + 20) (f_20 σ 24 1 1 nt a b c d e) (f_20 τ 1 0 2 nt a b c d e) := f_P4 (f_P4 (f_P4 (f_P4 (f_P4 hP))))
  have e7 : (f_20 τ 1 0 2 nt a b c d e).2 7 = τ.2 7 := rfl
  generalize f_20 σ 24 1 1 nt a b c d e = σ1 at hQ ⊢
  generalize f_20 τ 1 0 2 nt a b c d e = τ1 at hQ e7 ⊢
  obtain ⟨g1, g2, g3, g4, g5, g6⟩ := hQ
  have A : ∀ c, c ≠ 1 → c ≠ 24 → σ1.1 c = σ.1 c := g4
  refine ⟨nt + 20, nb, nd, ns, nf, ⟨by omega, g1, g2, g3⟩, ?_, ?_, ?_, ?_, ?_, ?_, ?_, ?_, ?_, htx _ _ _ _ h11 e7 (fun c hc => g4 c (by omega) (by omega)) (g6 18 (by decide)) (fun c c1 c2 => g5 c (by omega) (by omega))⟩
  · rw [g4 28 (by decide) (by decide), g5 25 (by decide) (by decide)]; exact h2
  · rw [g4 29 (by decide) (by decide), g5 26 (by decide) (by decide)]; exact h3
  · rw [g4 0 (by decide) (by decide), g6 41 (by decide)]; exact h4
  · rw [g4 0 (by decide) (by decide), g6 17 (by decide)]; exact h5
  · rw [g4 4 (by decide) (by decide), g6 42 (by decide), g4 30 (by decide) (by decide), g4 31 (by decide) (by decide), g4 32 (by decide) (by decide), g4 33 (by decide) (by decide), g5 27 (by decide) (by decide), g5 28 (by decide) (by decide), g5 29 (by decide) (by decide), g5 30 (by decide) (by decide)]; exact h6
  · rw [g4 4 (by decide) (by decide), g6 47 (by decide), g4 34 (by decide) (by decide), g4 35 (by decide) (by decide), g4 36 (by decide) (by decide), g4 37 (by decide) (by decide), g4 38 (by decide) (by decide), g5 31 (by decide) (by decide), g5 32 (by decide) (by decide), g5 33 (by decide) (by decide), g5 34 (by decide) (by decide), g5 35 (by decide) (by decide)]; exact h7
  · rw [g4 0 (by decide) (by decide), g6 53 (by decide), g5 36 (by decide) (by decide), g5 37 (by decide) (by decide)]
    exact r_shows_c h8 (fun i hi => g4 _ (by omega) (by omega))
  · rw [g4 5 (by decide) (by decide), g6 56 (by decide), g4 39 (by decide) (by decide), g4 40 (by decide) (by decide), g4 41 (by decide) (by decide), g4 42 (by decide) (by decide), g4 43 (by decide) (by decide), g5 38 (by decide) (by decide), g5 39 (by decide) (by decide), g5 40 (by decide) (by decide), g5 41 (by decide) (by decide)]; exact h9
  · rw [g5 44 (by decide) (by decide), g5 45 (by decide) (by decide), g5 46 (by decide) (by decide), g5 47 (by decide) (by decide)]
    exact r_plan_c h10 (fun i hi => g4 _ (by omega) (by omega))
end FEED
