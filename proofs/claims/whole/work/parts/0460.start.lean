/-! the start, and all calls together -/
theorem s_start : r_R tX xq_A0 xq_B0 := by
  have A : ∀ i, i < 5 → ∀ j, j < 24 → xq_A0.1 (66 + i) j = -1 := by decide +kernel
  have B : ∀ j, j < 30 → xq_B0.1 45 j = -1 := by decide +kernel
  have S : ∀ i, i < 5 → xq_A0.1 (11 + i) 0 = nI i ∧ xq_A0.1 (11 + i) 3 = 0 := by decide +kernel
  refine ⟨0, 0, 0, 0, 0, ⟨by decide, rfl, rfl, fun j hj => absurd hj (by omega)⟩, fun p q hp hq => ?_, fun p hp => ?_, ⟨rfl, by decide, by decide⟩, rfl, ⟨by decide, rfl, rfl, fun j hj => absurd hj (by omega)⟩, ⟨by decide, rfl, rfl, fun j hj => absurd hj (by omega)⟩, ⟨by decide, rfl, rfl, fun i hi => (S i hi).1, fun i hi => absurd hi (by omega), fun i hi d hd => ?_⟩, ⟨by decide, rfl, rfl, fun j hj => absurd hj (by omega)⟩, fun i hi b hb => ?_, ⟨rfl, 0, 0, 0, gr_U0, ⟨by decide, by decide, rfl, rfl, fun r hr => absurd hr (by omega)⟩, rfl, fun τ1 h1 => ⟨by decide, by rw [h1.1]; rfl, fun r hr => absurd hr (by omega)⟩⟩⟩
  · show (0 : Int32) = if bt 0 q then 1 else 0
    rw [b_0]
    rfl
  · show (0 : Int32) = 0 ∧ 0 ≤ (0 : Int32).toInt ∧ (0 : Int32).toInt ≤ 63
    decide
  · show (bt (xq_A0.1 (11 + i) 3) d = true → _) ∧ (d < 20 → (0 : Int32) = if bt (xq_A0.1 (11 + i) 3) d then 1 else 0)
    rw [(S i hi).2, b_0]
    exact ⟨fun z => absurd z (by decide), fun _ => rfl⟩
  · show xq_A0.1 (66 + i) (4 * b + 1) = xq_B0.1 45 (6 * i + b) ∧ _
    refine ⟨by rw [A i hi _ (by omega), B _ (by omega)], Or.inl ⟨A i hi _ (by omega), A i hi _ (by omega), A i hi _ (by omega), A i hi _ (by omega)⟩⟩
theorem s_sim : xq_Sim (r_R tX) := ⟨s_feed tX_ok, s_back tX_ok, s_read, s_place, s_kin tX_ok, s_breed tX_ok, s_dog tX_ok, s_permits tX_ok, s_rings tX_ok, s_show tX_ok, s_enter, s_fact tX_ok, s_owned tX_ok, s_plan, s_planned, s_barred, s_clash, s_classed, s_counts, s_winner, s_points, s_title, s_owner, s_parted, s_changed, s_count⟩
