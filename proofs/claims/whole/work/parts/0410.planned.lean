/-! planned -/
theorem ix4 (b w : Nat) : nI b * (4 : Int32) + nI w = nI (4 * b + w) := by
  rw [show (4 : Int32) = nI 4 from rfl, pk_mul, nI_add, Nat.mul_comm]
theorem ix6 (s b : Nat) : (6 : Int32) * nI s + nI b = nI (6 * s + b) := by
  rw [show (6 : Int32) = nI 6 from rfl, pk_mul, nI_add]
theorem pA_at {σ : xw_M} {o b w : Nat} {Z : Int32 → xw_M → Prop} (hb : b < 6) (hw : w < 4) (h : Z (σ.1 (66 + o) (4 * b + w)) σ) : xu_X10_at σ o (nI b) (nI w) Z := by
  have eb : (nI b).toInt = b := i_nI (by omega)
  have ew : (nI w).toInt = w := i_nI (by omega)
  refine pA_within (fun _ _ => ⟨fun g => absurd g (by decide), fun _ => ?_⟩) (fun g => absurd (by rw [eb, i_0, i_5]; omega) g)
  refine pA_within (fun _ _ => ⟨fun _ => ⟨by rw [ix4]; exact vp_in_nI (by omega) (by decide), ?_⟩, fun g => absurd g (by decide)⟩) (fun g => absurd (by rw [ew, i_0, i_3]; omega) g)
  rw [ix4, nI_clamp (by omega)]
  exact h
theorem pA_has {σ : xw_M} {o b : Nat} {Z : Int32 → xw_M → Prop} (hb : b < 6) (h1 : ¬ σ.1 (66 + o) (4 * b + 1) = -1 → Z 1 σ) (h0 : σ.1 (66 + o) (4 * b + 1) = -1 → Z 0 σ) : xu_X10_has σ o (nI b) Z := by
  refine pA_at (w := 1) hb (by decide) ⟨fun g => ⟨by simp, h0 g⟩, fun g => ⟨by simp, h1 g⟩⟩
theorem pB_isPlanned {τ : xw_M} {ns nb : Nat} {a b : Int32} {Z : Int32 → xw_M → Prop} (hs : τ.1 0 53 = nI ns) (hs5 : ns ≤ 5) (hb : τ.1 0 42 = nI nb) (hb6 : nb ≤ 6) (h1 : ∀ s k, s < ns → k < nb → a = nI s → b = nI k → ¬ τ.1 45 (6 * s + k) = -1 → Z 1 τ) (h0 : ∀ _ : (¬ (0 ≤ a.toInt ∧ a.toInt < ns) ∨ ¬ (0 ≤ b.toInt ∧ b.toInt < nb) ∨ ∃ s k, s < ns ∧ k < nb ∧ a = nI s ∧ b = nI k ∧ τ.1 45 (6 * s + k) = -1), Z 0 τ) : xu_X12_isPlanned τ a b Z := by
  refine pB_show hs (by omega) (fun a1 a2 => ⟨fun g => absurd g (by decide), fun _ => ?_⟩) (fun g => ⟨fun _ => ⟨by simp, h0 (Or.inl g)⟩, fun z => absurd rfl z⟩)
  refine pB_breed hb (by omega) (fun b1 b2 => ⟨fun g => absurd g (by decide), fun _ => ?_⟩) (fun g => ⟨fun _ => ⟨by simp, h0 (Or.inr (Or.inl g))⟩, fun z => absurd rfl z⟩)
  obtain ⟨s, hs1, rfl, -⟩ := i_of (n := ns) a1 a2
  obtain ⟨k, hk1, rfl, -⟩ := i_of (n := nb) b1 b2
  refine ⟨by rw [ix6]; exact vp_in_nI (by omega) (by decide), ?_⟩
  rw [ix6, nI_clamp (by omega)]
  exact ⟨fun g => ⟨by simp, h0 (Or.inr (Or.inr ⟨s, k, hs1, hk1, rfl, rfl, g⟩))⟩, fun g => ⟨by simp, h1 s k hs1 hk1 rfl rfl g⟩⟩
section PLANNED
variable {tx : xw_M → xw_M → Prop}
theorem s_planned : ∀ σ τ, r_R tx σ τ → ∀ a0 a1 a2 : Int32, xu_X11_planned σ a0 a1 a2 (fun r σ1 => xu_X12_planned τ a0 a1 a2 (fun r2 τ1 => r = r2 ∧ r_R tx σ1 τ1)) := by
  intro σ τ hR a b c
  obtain ⟨nt, nb, nd, ns, nf, h1, h2, h3, h4, h5, h6, h7, h8, h9, h10, h11⟩ := id hR
  obtain ⟨q1, q2, q3, q4⟩ := id h6
  obtain ⟨p1, p2, p3, p4⟩ := id h8
  have none_ : (¬ (0 ≤ a.toInt ∧ a.toInt < ns) ∨ ¬ (0 ≤ b.toInt ∧ b.toInt < nb) ∨ ¬ (0 ≤ c.toInt ∧ c.toInt ≤ 3)) → xu_X12_planned τ a b c (fun r2 τ1 => -1 = r2 ∧ r_R tx σ τ1) := by
    intro no
    refine pB_isPlanned p3 p1 q3 q1 (fun s k hs hk ea eb hj => ⟨fun _ => ?_, fun z => absurd z (by decide)⟩) (fun _ => ⟨fun z => absurd rfl z, fun _ => ⟨rfl, hR⟩⟩)
    have hc : ¬ (0 ≤ c.toInt ∧ c.toInt ≤ 3) := by
      rw [ea, eb, i_nI (by omega), i_nI (by omega)] at no
      omega
    refine ⟨fun g => absurd g ?_, fun _ => ⟨fun g => absurd g ?_, fun _ => ⟨fun g => absurd g ?_, fun _ => ⟨fun g => absurd g ?_, fun _ => ⟨rfl, hR⟩⟩⟩⟩⟩
    · rw [i_eq, i_0]; omega
    · rw [i_eq, i_1]; omega
    · rw [i_eq, i_2]; omega
    · rw [i_eq, i_3]; omega
  refine pA_show p2 (by omega) (fun a1 a2 => ⟨fun g => absurd g (by decide), fun _ => ?_⟩) (fun g => ⟨fun _ => none_ (Or.inl g), fun z => absurd rfl z⟩)
  refine pA_breed q2 (by omega) (fun b1 b2 => ⟨fun g => absurd g (by decide), fun _ => ?_⟩) (fun g => ⟨fun _ => none_ (Or.inr (Or.inl g)), fun z => absurd rfl z⟩)
  refine pA_within (fun c1 c2 => ⟨fun _ => ⟨i_in a1 (by omega), ?_⟩, fun g => absurd g (by decide)⟩) (fun g => ⟨fun z => absurd rfl z, fun _ => none_ (Or.inr (Or.inr (by simpa only [i_0, i_3] using g)))⟩)
  rw [i_0] at c1
  rw [i_3] at c2
  obtain ⟨s, hs, rfl, -, es⟩ := i_of (n := ns) a1 a2
  obtain ⟨k, hk, rfl, ek, -⟩ := i_of (n := nb) b1 b2
  obtain ⟨w, hw, rfl, -⟩ := i_of (n := 4) c1 (by omega)
  rw [es]
  refine pA_at (by omega) hw ?_
  obtain ⟨g1, g2⟩ := h10 s (by omega) k (by omega)
  refine pB_isPlanned p3 p1 q3 q1 (fun s' k' hs' hk' ea eb hj => ⟨fun _ => ?_, fun z => absurd z (by decide)⟩) (fun no => ⟨fun z => absurd rfl z, fun _ => ⟨?_, hR⟩⟩)
  · obtain rfl : s = s' := (nI_eq (by omega) (by omega)).mp ea
    obtain rfl : k = k' := (nI_eq (by omega) (by omega)).mp eb
    have iv : vp_in ((6 : Int32) * nI s + nI k) 30 := by rw [ix6]; exact vp_in_nI (by omega) (by decide)
    have ei : ((6 : Int32) * nI s + nI k).toNatClampNeg = 6 * s + k := by rw [ix6]; exact nI_clamp (by omega)
    rcases g2 with g | g
    · exact absurd (g1.symm.trans g.2.1) hj
    · rw [ei]
      have ew : (nI w).toInt = w := i_nI (by omega)
      refine ⟨fun z => ⟨iv, ?_, hR⟩, fun z0 => ⟨fun z => ⟨iv, ?_, hR⟩, fun z1 => ⟨fun z => ⟨iv, ?_, hR⟩, fun z2 => ⟨fun z => ⟨iv, ?_, hR⟩, fun z3 => ?_⟩⟩⟩⟩
      · rw [i_eq, ew, i_0] at z
        obtain rfl : w = 0 := by omega
        exact g.2.1
      · rw [i_eq, ew, i_1] at z
        obtain rfl : w = 1 := by omega
        exact g1
      · rw [i_eq, ew, i_2] at z
        obtain rfl : w = 2 := by omega
        exact g.2.2.1
      · rw [i_eq, ew, i_3] at z
        obtain rfl : w = 3 := by omega
        exact g.2.2.2.1
      · rw [i_eq, ew, i_0] at z0
        rw [i_eq, ew, i_1] at z1
        rw [i_eq, ew, i_2] at z2
        rw [i_eq, ew, i_3] at z3
        omega
  · rcases no with no | no | ⟨s', k', hs', hk', ea, eb, hj⟩
    · exact absurd ⟨a1, a2⟩ no
    · exact absurd ⟨b1, b2⟩ no
    · obtain rfl : s = s' := (nI_eq (by omega) (by omega)).mp ea
      obtain rfl : k = k' := (nI_eq (by omega) (by omega)).mp eb
      rcases g2 with g | g
      · rcases (show w = 0 ∨ w = 1 ∨ w = 2 ∨ w = 3 by omega) with rfl | rfl | rfl | rfl
        · exact g.1
        · exact g.2.1
        · exact g.2.2.1
        · exact g.2.2.2
      · obtain ⟨j, hj2, ej⟩ := g.2.2.2.2.2.2.1
        rw [← g1, ej, i_eq, i_nI (by omega), i_m1] at hj
        omega
end PLANNED
