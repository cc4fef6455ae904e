theorem i_pred (n : Nat) : nI n + 1 - 1 = nI n := by rw [nI_1, nI_pred]
/-! breed -/
def u_breedA (σ : xw_M) (n : Nat) (a b c d : Int32) : xw_M := xw_i (xw_i (xw_i (xw_i (xw_i σ 30 n a) 31 n b) 32 n c) 33 n d) 4 11 (nI (n + 1))
def u_breedB (τ : xw_M) (n : Nat) (a b c d : Int32) : xw_M := xw_i (xw_i (xw_i (xw_i (xw_i τ 27 n a) 28 n b) 29 n c) 30 n d) 0 42 (nI (n + 1))
def ok_breed (n : Nat) (a b c d : Int32) : Prop := n < 6 ∧ 0 ≤ a.toInt ∧ a.toInt ≤ 2 ∧ 1 ≤ b.toInt ∧ b.toInt ≤ 9 ∧ 0 ≤ c.toInt ∧ c.toInt ≤ d.toInt ∧ d.toInt ≤ 99
theorem pA_addBreed {σ : xw_M} {n : Nat} {a b c d : Int32} {Z : Int32 → xw_M → Prop} (hn : σ.1 4 11 = nI n) (hlt : n < 6) (h : Z (nI n) (u_breedA σ n a b c d)) : xu_X2_addBreed σ a b c d Z := by
  have hin : vp_in (σ.1 4 11) 6 := by rw [hn]; exact vp_in_nI hlt (by decide)
  have ec : (σ.1 4 11).toNatClampNeg = n := by rw [hn]; exact nI_clamp (by omega)
  refine ⟨fun _ => ⟨hin, fun σ1 e1 => ?_⟩, fun g => absurd (show σ.1 4 11 < 6 by rw [hn]; exact nI_lt hlt (by decide)) g⟩
  subst e1
  refine ⟨hin, fun σ2 e2 => ?_⟩
  subst e2
  refine ⟨hin, fun σ3 e3 => ?_⟩
  subst e3
  refine ⟨hin, fun σ4 e4 => ?_⟩
  subst e4
  intro σ5 e5
  subst e5
  show Z (σ.1 4 11 + 1 - 1) (xw_i (xw_i (xw_i (xw_i (xw_i σ 30 (σ.1 4 11).toNatClampNeg a) 31 (σ.1 4 11).toNatClampNeg b) 32 (σ.1 4 11).toNatClampNeg c) 33 (σ.1 4 11).toNatClampNeg d) 4 11 (σ.1 4 11 + 1))
  rw [ec, hn, i_pred, nI_1]
  exact h
theorem pA_breedM {σ : xw_M} {n : Nat} {a b c d : Int32} {Z : Int32 → xw_M → Prop} (hn : σ.1 4 11 = nI n) (hn6 : n ≤ 6) (h1 : ok_breed n a b c d → Z (nI n) (u_breedA σ n a b c d)) (h0 : ¬ ok_breed n a b c d → Z (-1) σ) : xu_X11_breed σ a b c d Z := by
  intro K hK
  have k0 : (¬ (0 ≤ a.toInt ∧ a.toInt ≤ 2 ∧ 1 ≤ b.toInt ∧ b.toInt ≤ 9 ∧ 0 ≤ c.toInt ∧ c.toInt ≤ d.toInt ∧ d.toInt ≤ 99)) → K σ 0 := by
    intro g
    refine hK _ _ ⟨fun _ => h0 (fun o => g o.2), fun g2 => absurd rfl g2⟩
  unfold xb_X11_breed_e
  refine pA_within (fun g1 g2 => ⟨fun g => absurd g (by decide), fun _ => ?_⟩) (fun g => ⟨fun _ => k0 (fun o => g ⟨o.1, o.2.1⟩), fun g2 => absurd rfl g2⟩)
  refine pA_within (fun g3 g4 => ⟨fun g => absurd g (by decide), fun _ => ?_⟩) (fun g => ⟨fun _ => k0 (fun o => g ⟨o.2.2.1, o.2.2.2.1⟩), fun g2 => absurd rfl g2⟩)
  refine pA_within (fun g5 g6 => ⟨fun g => absurd g (by decide), fun _ => ?_⟩) (fun g => ⟨fun _ => k0 (fun o => g ⟨o.2.2.2.2.1, by have := o.2.2.2.2.2; rw [i_99]; omega⟩), fun g2 => absurd rfl g2⟩)
  refine pA_within (fun g7 g8 => ⟨fun g => absurd g (by decide), fun _ => ?_⟩) (fun g => ⟨fun _ => k0 (fun o => g ⟨o.2.2.2.2.2.1, by rw [i_99]; exact o.2.2.2.2.2.2⟩), fun g2 => absurd rfl g2⟩)
  refine hK _ _ ⟨fun g => absurd g (by decide), fun _ => ⟨fun g => ?_, fun g => h0 (fun o => g (by rw [hn]; exact nI_lt o.1 (by decide)))⟩⟩
  have hlt : n < 6 := by rw [hn, i_lt, i_nI (by omega), i_6] at g; omega
  simp only [i_0, i_1, i_2, i_9, i_99] at *
  exact pA_addBreed hn hlt (h1 ⟨hlt, g1, g2, g3, g4, g5, g7, g8⟩)
theorem pB_breedM {τ : xw_M} {n : Nat} {a b c d : Int32} {Z : Int32 → xw_M → Prop} (hn : τ.1 0 42 = nI n) (hn6 : n ≤ 6) (h1 : ok_breed n a b c d → Z (nI n) (u_breedB τ n a b c d)) (h0 : ¬ ok_breed n a b c d → Z (-1) τ) : xu_X12_breed τ a b c d Z := by
  have en : (τ.1 0 42).toInt = n := by rw [hn, i_nI (by omega)]
  have ec : (τ.1 0 42).toNatClampNeg = n := by rw [hn]; exact nI_clamp (by omega)
  refine ⟨fun g => h0 (fun o => by have := o.1; rw [hn] at g; rw [i_eq, i_nI (by omega), i_6] at g; omega), fun g => ?_⟩
  have hlt : n < 6 := by rw [hn, i_eq, i_nI (by omega), i_6] at g; omega
  have hin : vp_in (τ.1 0 42) 6 := by rw [hn]; exact vp_in_nI hlt (by decide)
  refine ⟨fun g => h0 (fun o => absurd o.2.1 (by simp only [i_lt, i_le, i_eq, i_m1, i_0, i_1, i_2, i_3, i_4, i_5, i_6, i_9, i_10, i_11, i_12, i_20, i_63, i_99, i_200, i_1980, i_2000, i_9999] at g ⊢; omega)), fun g1 => ⟨fun g => h0 (fun o => absurd o.2.2.1 (by simp only [i_lt, i_le, i_eq, i_m1, i_0, i_1, i_2, i_3, i_4, i_5, i_6, i_9, i_10, i_11, i_12, i_20, i_63, i_99, i_200, i_1980, i_2000, i_9999] at g ⊢; omega)), fun g2 => ⟨fun g => h0 (fun o => absurd o.2.2.2.1 (by simp only [i_lt, i_le, i_eq, i_m1, i_0, i_1, i_2, i_3, i_4, i_5, i_6, i_9, i_10, i_11, i_12, i_20, i_63, i_99, i_200, i_1980, i_2000, i_9999] at g ⊢; omega)), fun g3 => ⟨fun g => h0 (fun o => absurd o.2.2.2.2.1 (by simp only [i_lt, i_le, i_eq, i_m1, i_0, i_1, i_2, i_3, i_4, i_5, i_6, i_9, i_10, i_11, i_12, i_20, i_63, i_99, i_200, i_1980, i_2000, i_9999] at g ⊢; omega)), fun g4 => ⟨fun g => h0 (fun o => absurd o.2.2.2.2.2.1 (by simp only [i_lt, i_le, i_eq, i_m1, i_0, i_1, i_2, i_3, i_4, i_5, i_6, i_9, i_10, i_11, i_12, i_20, i_63, i_99, i_200, i_1980, i_2000, i_9999] at g ⊢; omega)), fun g5 => ⟨fun g => h0 (fun o => absurd o.2.2.2.2.2.2.1 (by simp only [i_lt, i_le, i_eq, i_m1, i_0, i_1, i_2, i_3, i_4, i_5, i_6, i_9, i_10, i_11, i_12, i_20, i_63, i_99, i_200, i_1980, i_2000, i_9999] at g ⊢; omega)), fun g6 => ⟨fun g7 => ?_, fun g => h0 (fun o => g (by rw [i_le, i_99]; exact o.2.2.2.2.2.2.2))⟩⟩⟩⟩⟩⟩⟩
  refine ⟨hin, fun σ1 e1 => ?_⟩
  subst e1
  refine ⟨hin, fun σ2 e2 => ?_⟩
  subst e2
  refine ⟨hin, fun σ3 e3 => ?_⟩
  subst e3
  refine ⟨hin, fun σ4 e4 => ?_⟩
  subst e4
  intro σ5 e5
  subst e5
  show Z (τ.1 0 42 + 1 - 1) (xw_i (xw_i (xw_i (xw_i (xw_i τ 27 (τ.1 0 42).toNatClampNeg a) 28 (τ.1 0 42).toNatClampNeg b) 29 (τ.1 0 42).toNatClampNeg c) 30 (τ.1 0 42).toNatClampNeg d) 0 42 (τ.1 0 42 + 1))
  rw [ec, hn, i_pred, nI_1]
  exact h1 ⟨hlt, (by simp only [i_lt, i_le, i_eq, i_m1, i_0, i_1, i_2, i_3, i_4, i_5, i_6, i_9, i_10, i_11, i_12, i_20, i_63, i_99, i_200, i_1980, i_2000, i_9999] at g1 ⊢; omega), (by simp only [i_lt, i_le, i_eq, i_m1, i_0, i_1, i_2, i_3, i_4, i_5, i_6, i_9, i_10, i_11, i_12, i_20, i_63, i_99, i_200, i_1980, i_2000, i_9999] at g2 ⊢; omega), (by simp only [i_lt, i_le, i_eq, i_m1, i_0, i_1, i_2, i_3, i_4, i_5, i_6, i_9, i_10, i_11, i_12, i_20, i_63, i_99, i_200, i_1980, i_2000, i_9999] at g3 ⊢; omega), (by simp only [i_lt, i_le, i_eq, i_m1, i_0, i_1, i_2, i_3, i_4, i_5, i_6, i_9, i_10, i_11, i_12, i_20, i_63, i_99, i_200, i_1980, i_2000, i_9999] at g4 ⊢; omega), (by simp only [i_lt, i_le, i_eq, i_m1, i_0, i_1, i_2, i_3, i_4, i_5, i_6, i_9, i_10, i_11, i_12, i_20, i_63, i_99, i_200, i_1980, i_2000, i_9999] at g5 ⊢; omega), (by simp only [i_lt, i_le, i_eq, i_m1, i_0, i_1, i_2, i_3, i_4, i_5, i_6, i_9, i_10, i_11, i_12, i_20, i_63, i_99, i_200, i_1980, i_2000, i_9999] at g6 ⊢; omega), (by simp only [i_lt, i_le, i_eq, i_m1, i_0, i_1, i_2, i_3, i_4, i_5, i_6, i_9, i_10, i_11, i_12, i_20, i_63, i_99, i_200, i_1980, i_2000, i_9999] at g7 ⊢; omega)⟩
theorem r_dogs_nb {nb nb' n : Nat} {ca cb : Int32} {da ba sa oa ha db bb sb ob hb : Nat → Int32} (hle : nb ≤ nb') (h : r_dogs nb n ca cb da ba sa oa ha db bb sb ob hb) : r_dogs nb' n ca cb da ba sa oa ha db bb sb ob hb := by
  obtain ⟨h1, h2, h3, h4⟩ := h
  refine ⟨h1, h2, h3, fun i hi => ?_⟩
  obtain ⟨g1, g2, g3, g4, g5, ⟨k, hk, ek⟩, g7⟩ := h4 i hi
  exact ⟨g1, g2, g3, g4, g5, ⟨k, by omega, ek⟩, g7⟩
theorem r_plan_nb {nb nb' : Nat} {ta : Nat → Nat → Int32} {rb jb fb ub : Nat → Int32} (hle : nb ≤ nb') (h : r_plan nb ta rb jb fb ub) : r_plan nb' ta rb jb fb ub := by
  intro i hi b hb
  obtain ⟨g1, g2⟩ := h i hi b hb
  refine ⟨g1, g2.imp id (fun g => ⟨by have := g.1; omega, g.2⟩)⟩
section ADDS
variable {tx : xw_M → xw_M → Prop}
theorem s_breed (htx : r_txOk tx) : ∀ σ τ, r_R tx σ τ → ∀ a0 a1 a2 a3 : Int32, xu_X11_breed σ a0 a1 a2 a3 (fun r σ1 => xu_X12_breed τ a0 a1 a2 a3 (fun r2 τ1 => r = r2 ∧ r_R tx σ1 τ1)) := by
  intro σ τ hR a b c d
  obtain ⟨nt, nb, nd, ns, nf, h1, h2, h3, h4, h5, h6, h7, h8, h9, h10, h11⟩ := id hR
  obtain ⟨q1, q2, q3, q4⟩ := h6
  refine pA_breedM q2 q1 (fun ok => pB_breedM q3 q1 (fun _ => ⟨rfl, ?_⟩) (fun h => absurd ok h)) (fun no => pB_breedM q3 q1 (fun ok => absurd ok no) (fun _ => ⟨rfl, hR⟩))
  obtain ⟨o1, o2, o3, o4, o5, o6, o7, o8⟩ := ok
  refine ⟨nt, nb + 1, nd, ns, nf, h1, h2, h3, h4, h5, ⟨by omega, rfl, rfl, fun i hi => ?_⟩, r_dogs_nb (Nat.le_succ _) h7, r_shows_c h8 (fun i hi => ?_), h9, r_plan_nb (Nat.le_succ _) (r_plan_c h10 (fun i hi => ?_)), htx _ _ _ _ h11 rfl (by intro c hc; rcases hc with rfl | rfl | rfl | rfl | rfl | rfl | rfl | rfl | rfl <;> rfl) rfl (fun c hc h => ?_)⟩
  · by_cases hin : i = nb
    · subst hin
      simp [u_breedA, u_breedB, xw_i]
      exact ⟨o2, o3, o4, o5, o6, o7, o8⟩
    · simp [u_breedA, u_breedB, xw_i, hin]
      exact q4 i (by omega)
  · unfold u_breedA
    rw [xw_ne (by omega), xw_ne (by omega), xw_ne (by omega), xw_ne (by omega), xw_ne (by omega)]
  · unfold u_breedA
    rw [xw_ne (by omega), xw_ne (by omega), xw_ne (by omega), xw_ne (by omega), xw_ne (by omega)]
  · unfold u_breedB
    rw [xw_ne (by omega), xw_ne (by omega), xw_ne (by omega), xw_ne (by omega), xw_ne (by omega)]
end ADDS
