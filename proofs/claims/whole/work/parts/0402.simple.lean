theorem xw_ne {σ : xw_M} {c j c' : Nat} {v : Int32} (h : c' ≠ c) : (xw_i σ c j v).1 c' = σ.1 c' := by
  funext b
  simp [xw_i, h]
theorem xw_eq {σ : xw_M} {c j : Nat} {v : Int32} : (xw_i σ c j v).1 c j = v := by simp [xw_i]
theorem xw_nj {σ : xw_M} {c j j' : Nat} {v : Int32} (h : j' ≠ j) : (xw_i σ c j v).1 c j' = σ.1 c j' := by simp [xw_i, h]
theorem r_shows_c {n nd : Nat} {ca cb : Int32} {sh sh' : Nat → Nat → Int32} {db eb : Nat → Int32} (h : r_shows n nd ca cb sh db eb) (e : ∀ i, i < 5 → sh' i = sh i) : r_shows n nd ca cb sh' db eb := by
  obtain ⟨h1, h2, h3, h4, h5, h6⟩ := h
  refine ⟨h1, h2, h3, fun i hi => by rw [e i hi]; exact h4 i hi, fun i hi => by rw [e i (by omega)]; exact h5 i hi, fun i hi d hd => by rw [e i hi]; exact h6 i hi d hd⟩
theorem r_plan_c {nb : Nat} {ta ta' : Nat → Nat → Int32} {rb jb fb ub : Nat → Int32} (h : r_plan nb ta rb jb fb ub) (e : ∀ i, i < 5 → ta' i = ta i) : r_plan nb ta' rb jb fb ub := by
  intro i hi b hb
  rw [e i hi]
  exact h i hi b hb
section SIMPLE
variable {tx : xw_M → xw_M → Prop}
theorem s_place : ∀ σ τ, r_R tx σ τ → xu_X11_place σ (fun r σ1 => xu_X12_place τ (fun r2 τ1 => r = r2 ∧ r_R tx σ1 τ1)) := by
  intro σ τ hR
  obtain ⟨nt, nb, nd, ns, nf, h1, h2, h3, h4, h5, hrest⟩ := id hR
  exact ⟨h5, hR⟩
theorem s_rings (htx : r_txOk tx) : ∀ σ τ, r_R tx σ τ → ∀ a0 : Int32, xu_X11_rings σ a0 (fun r σ1 => xu_X12_rings τ a0 (fun r2 τ1 => r = r2 ∧ r_R tx σ1 τ1)) := by
  intro σ τ hR a
  obtain ⟨nt, nb, nd, ns, nf, h1, h2, h3, h4, h5, h6, h7, h8, h9, h10, h11⟩ := id hR
  unfold xu_X11_rings
  refine pA_within (fun g1 g2 => ⟨fun _ σ1 hσ => ⟨by simp, ?_⟩, fun h => absurd h (by decide)⟩) (fun g => ⟨fun h => absurd rfl h, fun _ => ⟨by simp, ?_⟩⟩)
  · simp only [i_1, i_3] at g1 g2
    refine ⟨fun h => absurd h (by simp only [i_lt, i_le, i_eq, i_m1, i_0, i_1, i_2, i_3, i_4, i_5, i_6, i_9, i_10, i_11, i_12, i_20, i_63, i_99, i_200, i_1980, i_2000, i_9999]; omega), fun _ => ⟨fun _ τ1 hτ => ⟨by simp, rfl, ?_⟩, fun h => absurd h (by simp only [i_lt, i_le, i_eq, i_m1, i_0, i_1, i_2, i_3, i_4, i_5, i_6, i_9, i_10, i_11, i_12, i_20, i_63, i_99, i_200, i_1980, i_2000, i_9999]; omega)⟩⟩
    subst hσ hτ
    exact ⟨nt, nb, nd, ns, nf, h1, h2, h3, ⟨rfl, g1, g2⟩, h5, h6, h7, r_shows_c h8 (fun i hi => xw_ne (by omega)), h9, r_plan_c h10 (fun i hi => xw_ne (by omega)), htx _ _ _ _ h11 rfl (by intro c hc; rcases hc with rfl | rfl | rfl | rfl | rfl | rfl | rfl | rfl | rfl <;> rfl) rfl (fun c hc _ => xw_ne (by omega))⟩
  · simp only [i_1, i_3] at g
    exact ⟨fun h => ⟨by simp, rfl, hR⟩, fun h => ⟨fun h2 => absurd g (by simp only [i_lt, i_le, i_eq, i_m1, i_0, i_1, i_2, i_3, i_4, i_5, i_6, i_9, i_10, i_11, i_12, i_20, i_63, i_99, i_200, i_1980, i_2000, i_9999] at h h2 ⊢; omega), fun _ => ⟨by simp, rfl, hR⟩⟩⟩
theorem s_permits (htx : r_txOk tx) : ∀ σ τ, r_R tx σ τ → ∀ a0 a1 : Int32, xu_X11_permits σ a0 a1 (fun r σ1 => xu_X12_permits τ a0 a1 (fun r2 τ1 => r = r2 ∧ r_R tx σ1 τ1)) := by
  intro σ τ hR a b
  obtain ⟨nt, nb, nd, ns, nf, h1, h2, h3, h4, h5, h6, h7, h8, h9, h10, h11⟩ := id hR
  unfold xu_X11_permits
  refine pA_person (fun g1 g2 => ⟨fun h => absurd h (by decide), fun _ => ?_⟩) (fun g => ⟨fun _ => ⟨by simp, ?_⟩, fun h => absurd rfl h⟩)
  · refine pA_within (fun k1 k2 => ⟨fun _ => ⟨i_in g1 (by omega), fun σ1 hσ => ⟨by simp, ?_⟩⟩, fun h => absurd h (by decide)⟩) (fun k => ⟨fun h => absurd rfl h, fun _ => ⟨by simp, ?_⟩⟩)
    · simp only [i_0, i_63] at k1 k2
      unfold xu_X12_permits
      refine pB_person (fun _ _ => ⟨fun h => absurd h (by decide), fun _ => ⟨fun h => absurd h (by simp only [i_lt, i_le, i_eq, i_m1, i_0, i_1, i_2, i_3, i_4, i_5, i_6, i_9, i_10, i_11, i_12, i_20, i_63, i_99, i_200, i_1980, i_2000, i_9999]; omega), fun _ => ⟨fun _ => ⟨i_in g1 (by omega), fun τ1 hτ => ⟨by simp, rfl, ?_⟩⟩, fun h => absurd h (by simp only [i_lt, i_le, i_eq, i_m1, i_0, i_1, i_2, i_3, i_4, i_5, i_6, i_9, i_10, i_11, i_12, i_20, i_63, i_99, i_200, i_1980, i_2000, i_9999]; omega)⟩⟩⟩) (fun h => absurd ⟨g1, g2⟩ h)
      subst hσ hτ
      obtain ⟨k, hk, rfl, -, ek⟩ := i_of g1 g2
      rw [ek]
      refine ⟨nt, nb, nd, ns, nf, h1, h2, ?_, h4, h5, h6, h7, r_shows_c h8 (fun i hi => xw_ne (by omega)), h9, r_plan_c h10 (fun i hi => xw_ne (by omega)), htx _ _ _ _ h11 rfl (by intro c hc; rcases hc with rfl | rfl | rfl | rfl | rfl | rfl | rfl | rfl | rfl <;> rfl) rfl (fun c hc _ => xw_ne (by omega))⟩
      intro p hp
      by_cases hpk : p = k
      · subst hpk
        rw [xw_eq, xw_eq]
        exact ⟨rfl, k1, k2⟩
      · rw [xw_nj hpk, xw_nj hpk]
        exact h3 p hp
    · simp only [i_0, i_63] at k
      unfold xu_X12_permits
      exact pB_person (fun _ _ => ⟨fun h => absurd h (by decide), fun _ => ⟨fun _ => ⟨by simp, rfl, hR⟩, fun h => ⟨fun h2 => absurd k (by simp only [i_lt, i_le, i_eq, i_m1, i_0, i_1, i_2, i_3, i_4, i_5, i_6, i_9, i_10, i_11, i_12, i_20, i_63, i_99, i_200, i_1980, i_2000, i_9999] at h h2 ⊢; omega), fun _ => ⟨by simp, rfl, hR⟩⟩⟩⟩) (fun h => absurd ⟨g1, g2⟩ h)
  · unfold xu_X12_permits
    exact pB_person (fun h h2 => absurd ⟨h, h2⟩ g) (fun _ => ⟨fun _ => ⟨by simp, rfl, hR⟩, fun h => absurd rfl h⟩)
theorem s_back (htx : r_txOk tx) : ∀ σ τ, r_R tx σ τ → ∀ a0 : Int32, xu_X11_back σ a0 (fun r σ1 => xu_X12_back τ a0 (fun r2 τ1 => r = r2 ∧ r_R tx σ1 τ1)) := by
  intro σ τ hR a
  obtain ⟨nt, nb, nd, ns, nf, h1, h2, h3, h4, h5, h6, h7, h8, h9, h10, h11⟩ := id hR
  obtain ⟨t1, t2, t3, t4⟩ := h1
  have e1 : (σ.1 1 1).toInt = nt := by rw [t2, i_nI (by omega)]
  have e2 : (τ.1 0 2).toInt = nt := by rw [t3, i_nI (by omega)]
  refine ⟨fun g => ?_, fun g => ⟨fun g2 σ1 hσ => ?_, fun g2 => ?_⟩⟩
  · exact ⟨fun _ => ⟨rfl, hR⟩, fun h => absurd g h⟩
  · refine ⟨fun h => absurd h g, fun _ => ⟨fun _ τ1 hτ => ?_, fun h => absurd (show a ≤ τ.1 0 2 by rw [t3, ← t2]; exact g2) h⟩⟩
    subst hσ hτ
    rw [i_lt, i_0] at g
    rw [i_le, e1] at g2
    obtain ⟨k, hk, rfl, ek, -⟩ := i_of (x := a) (n := nt + 1) (by omega) (by omega)
    have e3 : nI nt - nI k = nI (nt - k) := pk_sub (by omega)
    rw [xw_eq, xw_eq, t2, t3, e3]
    refine ⟨rfl, nt - k, nb, nd, ns, nf, ⟨by omega, xw_eq, xw_eq, fun j hj => t4 j (by omega)⟩, h2, h3, h4, h5, h6, h7, r_shows_c h8 (fun i hi => xw_ne (by omega)), h9, r_plan_c h10 (fun i hi => xw_ne (by omega)), htx _ _ _ _ h11 rfl (by intro c hc; rcases hc with rfl | rfl | rfl | rfl | rfl | rfl | rfl | rfl | rfl <;> rfl) rfl (fun c hc _ => xw_ne (by omega))⟩
  · exact ⟨fun h => absurd h g, fun _ => ⟨fun h => absurd (show a ≤ σ.1 1 1 by rw [t2, ← t3]; exact h) g2, fun _ => ⟨rfl, hR⟩⟩⟩
end SIMPLE
