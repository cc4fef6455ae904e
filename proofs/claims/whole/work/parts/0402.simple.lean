section SIMPLE
variable {tx : xw_M → xw_M → Prop}
theorem s_place : ∀ σ τ, r_R tx σ τ → xu_X11_place σ (fun r σ1 => xu_X12_place τ (fun r2 τ1 => r = r2 ∧ r_R tx σ1 τ1)) := by
  intro σ τ hR
  obtain ⟨nt, nb, nd, ns, nf, h1, h2, h3, h4, h5, hrest⟩ := id hR
  exact ⟨h5, hR⟩
theorem s_rings (htx : r_txOk tx) : ∀ σ τ, r_R tx σ τ → ∀ a0 : Int32, xu_X11_rings σ a0 (fun r σ1 => xu_X12_rings τ a0 (fun r2 τ1 => r = r2 ∧ r_R tx σ1 τ1)) := by
  intro σ τ hR a
  obtain ⟨nt, nb, nd, ns, nf, h1, h2, h3, h4, h5, h6, h7, h8, h9, h10, h11⟩ := id hR
  unfold xu_X11_rings
  refine pA_within (fun g1 g2 => ⟨fun _ σ1 hσ => ⟨Or.inr rfl, ?_⟩, fun h => absurd h (by decide)⟩) (fun g => ⟨fun h => absurd rfl h, fun _ => ⟨Or.inl rfl, ?_⟩⟩)
  · simp only [i_1, i_3] at g1 g2
    unfold xu_X12_rings
    simp only [i_lt, i_le, i_1, i_3]
    refine ⟨fun h => absurd g1 (by omega), fun _ => ⟨fun _ τ1 hτ => ⟨Or.inr rfl, rfl, ?_⟩, fun h => absurd g2 h⟩⟩
    subst hσ hτ
    exact ⟨nt, nb, nd, ns, nf, h1, h2, h3, ⟨rfl, g1, g2⟩, h5, h6, h7, h8, h9, h10, htx _ _ _ _ h11 (by intro c hc; rcases hc with rfl | rfl | rfl | rfl | rfl | rfl | rfl | rfl | rfl <;> rfl) rfl (by intro c hc _; funext j; simp [xw_i, show c ≠ 0 by omega])⟩
  · simp only [i_1, i_3] at g
    unfold xu_X12_rings
    simp only [i_lt, i_le, i_1, i_3]
    refine ⟨fun h => ⟨Or.inl rfl, rfl, hR⟩, fun _ => ⟨fun _ => absurd g (by omega), fun _ => ⟨Or.inl rfl, rfl, hR⟩⟩⟩
end SIMPLE
