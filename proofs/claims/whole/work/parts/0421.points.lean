/-! POINTS -/
def m_bp (σ : xw_M) (F : Nat → tU) (nr s d n o : Nat) : Bool := decide (o ≠ d) && (decide (m_br σ o = m_br σ d) && decide (m_why σ F nr s o n = 0))
def m_pV (σ : xw_M) (F : Nat → tU) (nr s d q k : Nat) : Int32 := if k = 8 then nI q else if k = 4 then m_cls σ F nr s d else m_cV σ s d k
def m_pts (σ : xw_M) (F : Nat → tU) (nr nd s d n : Nat) : Int32 := match t_first F nr 2 (m_pV σ F nr s d (fb_ct (m_bp σ F nr s d n) nd)) with
  | none => 0
  | some r => (F r).2.2.2.1 (m_pV σ F nr s d (fb_ct (m_bp σ F nr s d n) nd))
def m_pof (σ : xw_M) (F : Nat → tU) (nr nd s d n : Nat) : Int32 := if m_winner σ F nr nd s (m_br σ d) n = nI d then m_pts σ F nr nd s d n else 0
section POINTS
variable {σ0 τ0 : xw_M} {nb nd ns nf live nr sz : Nat} {F : Nat → tU}
theorem m_pV_agr {σ1 : xw_M} {c s d q : Nat} (v : t_agr (σ1.1 c) (m_cV σ0 s d)) : t_agr ((xw_i (xw_i σ1 c 4 (m_cls σ0 F nr s d)) c 8 (nI q)).1 c) (m_pV σ0 F nr s d q) := by
  intro j hj
  unfold m_pV
  by_cases h8 : j = 8
  · subst h8; rw [xw_eq, if_pos rfl]
  · by_cases h4 : j = 4
    · subst h4; rw [xw_nj h8, xw_eq, if_neg h8, if_pos rfl]
    · rw [xw_nj h8, xw_nj h4, if_neg h8, if_neg h4]
      exact v j hj
theorem qA_points {σ : xw_M} {s d n : Nat} {Z : Int32 → xw_M → Prop} (H : m_C σ0 τ0 nb nd ns nf live nr sz F) (hF : fA σ0 σ) (hs : s < ns) (hd : d < nd) (hn : n ≤ nf) (h : ∀ σ1, fA σ0 σ1 → Z (m_pts σ0 F nr nd s d n) σ1) : xu_X5_pointsOfWinner σ s (nI d) (nI n) Z := by
  obtain ⟨-, -, -, ⟨b1, -⟩, ⟨q1, q2, -⟩, -, -, -, hT, -, -⟩ := id H
  obtain ⟨m1, m2, m3⟩ := m_brk H hd
  intro K17 h17
  have key : ∀ (k i : Nat) (σ' : xw_M), i + k = nd → fA σ0 σ' → K17 σ' (nI (m_br σ0 d)) (nI (fb_ct (m_bp σ0 F nr s d n) i)) (nI i) := by
    intro k
    induction k with
    | zero =>
      intro i σ' hi hF'
      obtain rfl : i = nd := by omega
      apply h17
      unfold xb_X5_pointsOfWinner_17
      rw [hF' 4 (by decide) (by decide), q2]
      refine ⟨fun _ => ?_, fun g => absurd (nI_le (Nat.le_refl i) (by omega)) g⟩
      refine qA_vars H hF' hs hd (fun σ1 F1 v1 => ⟨vp_in_nI (n := 4) (by decide) (by decide), fun σ3 e3 => ⟨vp_in_nI (n := 8) (by decide) (by decide), fun σ4 e4 => ?_⟩⟩)
      change σ3 = xw_i σ1 44 4 _ at e3
      change σ4 = xw_i σ3 44 8 _ at e4
      have f4 : fA σ0 σ4 := by rw [e4, e3]; exact fA_v (fA_v F1)
      have v4 : t_agr (σ4.1 44) (m_pV σ0 F nr s d (fb_ct (m_bp σ0 F nr s d n) i)) := by rw [e4, e3]; exact m_pV_agr v1
      have hT4 : TA 0 σ4 nr sz F := TA_c hT (fun c hc => f4 c (by omega) (by omega))
      refine qA_first (kd := 2) (by decide) hT4 (fun σ5 F5 => ?_)
      rw [t_first_agr hT4 v4]
      have f5 : fA σ0 σ5 := fA_F f4 F5
      unfold m_pts at h
      cases hq : t_first F nr 2 (m_pV σ0 F nr s d (fb_ct (m_bp σ0 F nr s d n) i)) with
      | none =>
        rw [hq] at h
        exact ⟨fun _ => h σ5 f5, fun g => absurd (by decide) g⟩
      | some r =>
        rw [hq] at h
        have hr := l_find_some hq
        have n16 := hT.1
        have hT5 : TA 0 σ5 nr sz F := TA_c hT (fun c hc => f5 c (by omega) (by omega))
        obtain ⟨t1, t2, t3, t4, t5⟩ := id hT5
        obtain ⟨u1, u2, u3, u4, p, q, u, u5, u6, u7, u8, u9, u10, u11, u12⟩ := t5 r (by omega)
        have vr : vp_in (nI r) 16 := vp_in_nI (by omega) (by decide)
        have k2 : (F r).1 = 2 := by
          have := hr.2.2
          simp only [Bool.and_eq_true, decide_eq_true_iff] at this
          exact this.1
        show xu_X9_termOf σ5 0 (nI r) _
        unfold xu_X9_termOf
        rw [t3, nI_clamp (n := r) (by omega), u5, u6]
        refine ⟨fun g => absurd g (nI_pos (by omega)), fun _ => ⟨fun _ => ⟨vr, vr, ?_⟩, fun g => absurd (nI_lt (by omega) (by omega)) g⟩⟩
        refine qA_term (by decide) t4 (by omega) t2 (u11 k2) (fun σ6 F6 => ?_)
        have v5 : t_agr (σ5.1 44) (m_pV σ0 F nr s d (fb_ct (m_bp σ0 F nr s d n) i)) := by rw [F5 44 (by decide)]; exact v4
        rw [tA_agr (u11 k2) v5]
        exact h σ6 (fA_F f5 F6)
    | succ k ih =>
      intro i σ' hi hF'
      have hid : i < nd := by omega
      obtain ⟨n1, n2, n3⟩ := m_brk H hid
      have next := fun σ1 f1 => ih (i + 1) σ1 (by omega) f1
      simp only [fb_ct_succ] at next
      apply h17
      unfold xb_X5_pointsOfWinner_17
      rw [hF' 4 (by decide) (by decide), q2, nI_clamp (n := i) (by omega), hF' 34 (by decide) (by decide), n2, nI_1 i]
      have no : m_bp σ0 F nr s d n i = false → ∀ σ1, fA σ0 σ1 → K17 σ1 (nI (m_br σ0 d)) (nI (fb_ct (m_bp σ0 F nr s d n) i)) (nI (i + 1)) := by
        intro e
        rw [e] at next
        exact next
      refine ⟨fun g => absurd g (nI_ge hid (by omega)), fun _ => ⟨fun g => no ?_ σ' hF', fun g => ⟨vp_in_nI (by omega) (by decide), fun g2 => no ?_ σ' hF', fun g2 => ?_⟩⟩⟩
      · have : i = d := (nI_eq (by omega) (by omega)).mp g
        simp [m_bp, this]
      · have : ¬ m_br σ0 i = m_br σ0 d := fun z => g2 (by rw [z])
        simp [m_bp, this]
      · have e1 : i ≠ d := fun z => g (by rw [z])
        have e2 : m_br σ0 i = m_br σ0 d := (nI_eq (by omega) (by omega)).mp g2
        refine qA_why H hF' hs hid hn (fun σ1 F1 => ⟨fun z => no ?_ σ1 F1, fun z => ?_⟩)
        · simp [m_bp, z]
        · have e : m_bp σ0 F nr s d n i = true := by simp [m_bp, e1, e2, z]
          rw [e] at next
          rw [nI_1]
          exact next σ1 F1
  unfold xb_X5_pointsOfWinner_e
  rw [nI_clamp (n := d) (by omega), hF 34 (by decide) (by decide), m2]
  exact ⟨vp_in_nI (by omega) (by decide), key nd 0 σ (by omega) hF⟩
theorem qB_points {τ : xw_M} {s d n : Nat} {Z : Int32 → xw_M → Prop} (H : m_C σ0 τ0 nb nd ns nf live nr sz F) (hF : fB τ0 τ) (hs : s < ns) (hd : d < nd) (hn : n ≤ nf) (h : ∀ τ1, fB τ0 τ1 → Z (m_pof σ0 F nr nd s d n) τ1) : xu_X12_pointsOf τ (nI s) (nI d) (nI n) Z := by
  obtain ⟨-, -, -, ⟨b1, -⟩, ⟨q1, q2, q3, -⟩, -, -, -, hT, hl, hB⟩ := id H
  obtain ⟨m1, m2, m3⟩ := m_brk H hd
  have vd : vp_in (nI d) 20 := vp_in_nI (by omega) (by decide)
  intro K24 h24
  unfold xb_X12_pointsOf_e
  rw [nI_clamp (n := d) (by omega), hF.1 31 (by decide) (by decide), m3]
  refine ⟨vd, qB_winner H hF hs (by omega) hn (fun τ1 F1 => ⟨fun w => ?_, fun w => ?_⟩)⟩
  · unfold m_pof at h
    rw [if_pos w] at h
    have key : ∀ (k i : Nat) (τ' : xw_M), i + k = nd → fB τ0 τ' → K24 τ' (nI (fb_ct (m_bp σ0 F nr s d n) i)) (nI i) := by
      intro k
      induction k with
      | zero =>
        intro i τ' hi hF'
        obtain rfl : i = nd := by omega
        apply h24
        unfold xb_X12_pointsOf_24
        rw [hF'.1 0 (by decide) (by decide), q3]
        refine ⟨fun _ => ?_, fun g => absurd (nI_le (Nat.le_refl i) (by omega)) g⟩
        refine qB_class H hF' hs hd (fun τ3 F3 => ?_)
        refine qB_asks H F3 hs hd (fun τ5 F5 v5 => ⟨vp_in_nI (n := 4) (by decide) (by decide), fun τ6 e6 => ⟨vp_in_nI (n := 8) (by decide) (by decide), fun τ7 e7 => ?_⟩⟩)
        change τ6 = xw_i τ5 42 4 _ at e6
        change τ7 = xw_i τ6 42 8 _ at e7
        have f7 : fB τ0 τ7 := by rw [e7, e6]; exact fB_v (fB_v F5)
        have v7 : t_agr (τ7.1 42) (m_pV σ0 F nr s d (fb_ct (m_bp σ0 F nr s d n) i)) := by rw [e7, e6]; exact m_pV_agr v5
        refine qB_first (kd := 2) H (by decide) f7 v7 (fun τ8 F8 v8 => ?_)
        unfold m_pts at h
        cases hq : t_first F nr 2 (m_pV σ0 F nr s d (fb_ct (m_bp σ0 F nr s d n) i)) with
        | none =>
          rw [hq] at h
          exact ⟨fun g => absurd rfl g, fun _ => h τ8 F8⟩
        | some r =>
          rw [hq] at h
          have hr := l_find_some hq
          have n16 := hT.1
          have l1 := hB.1
          have k2 : (F r).1 = 2 := by
            have := hr.2.2
            simp only [Bool.and_eq_true, decide_eq_true_iff] at this
            exact this.1
          obtain ⟨_, _, _, _, p, q, u, _, _, _, _, _, _, u11, _⟩ := hT.2.2.2.2 r (by omega)
          obtain ⟨_, _, _, y4, _⟩ := hB.2.2 r (by omega)
          obtain ⟨p', q', y5, y6, y7, y8, y9⟩ := y4 k2
          have ex : (16 : Int32) * τ8.1 0 18 + o_ix (some r) = nI (16 * live + r) := by
            rw [F8.1 0 (by decide) (by decide), hl]
            show (16 : Int32) * nI live + nI r = _
            rw [show (16 : Int32) = nI 16 from rfl, pk_mul, nI_add]
          refine ⟨fun _ => ?_, fun g => absurd g (o_ne (by omega))⟩
          rw [ex, nI_clamp (n := 16 * live + r) (by omega), F8.1 12 (by decide) (by decide), F8.1 13 (by decide) (by decide), y5, y6]
          have vx : vp_in (nI (16 * live + r)) 32 := vp_in_nI (by omega) (by decide)
          refine ⟨vx, vx, qB_term y7 y8 (by rw [F8.1 22 (by decide) (by decide), F8.1 23 (by decide) (by decide)]; exact y9) (fun τ9 f9 f9' => ?_)⟩
          rw [tA_agr (u11 k2) v8]
          exact h τ9 (fB_F F8 ⟨f9, f9'⟩)
      | succ k ih =>
        intro i τ' hi hF'
        have hid : i < nd := by omega
        obtain ⟨n1, n2, n3⟩ := m_brk H hid
        have next := fun σ1 f1 => ih (i + 1) σ1 (by omega) f1
        simp only [fb_ct_succ] at next
        apply h24
        unfold xb_X12_pointsOf_24
        rw [hF'.1 0 (by decide) (by decide), q3, nI_clamp (n := i) (by omega), nI_clamp (n := d) (by omega), hF'.1 31 (by decide) (by decide), n3, m3, nI_1 i]
        have no : m_bp σ0 F nr s d n i = false → ∀ σ1, fB τ0 σ1 → K24 σ1 (nI (fb_ct (m_bp σ0 F nr s d n) i)) (nI (i + 1)) := by
          intro e
          rw [e] at next
          exact next
        refine ⟨fun g => absurd g (nI_ge hid (by omega)), fun _ => ⟨fun g => no ?_ τ' hF', fun g => ⟨vp_in_nI (by omega) (by decide), vd, fun g2 => no ?_ τ' hF', fun g2 => ?_⟩⟩⟩
        · have : i = d := (nI_eq (by omega) (by omega)).mp g
          simp [m_bp, this]
        · have : ¬ m_br σ0 i = m_br σ0 d := fun z => g2 (by rw [z])
          simp [m_bp, this]
        · have e1 : i ≠ d := fun z => g (by rw [z])
          have e2 : m_br σ0 i = m_br σ0 d := (nI_eq (by omega) (by omega)).mp g2
          refine qB_why H hF' hs hid hn (fun σ1 F1 => ⟨fun z => no ?_ σ1 F1, fun z => ?_⟩)
          · simp [m_bp, z]
          · have e : m_bp σ0 F nr s d n i = true := by simp [m_bp, e1, e2, z]
            rw [e] at next
            rw [nI_1]
            exact next σ1 F1
    exact key nd 0 τ1 (by omega) F1
  · unfold m_pof at h
    rw [if_neg w] at h
    exact h τ1 F1
end POINTS
theorem s_counts : ∀ σ τ, r_R tX σ τ → ∀ a0 a1 a2 : Int32, xu_X11_counts σ a0 a1 a2 (fun r σ1 => xu_X12_counts τ a0 a1 a2 (fun r2 τ1 => r = r2 ∧ r_R tX σ1 τ1)) := by
  intro σ τ hR a b c
  obtain ⟨nb, nd, ns, nf, live, nr, sz, F, H⟩ := r_R_C hR
  obtain ⟨-, -, -, -, ⟨q1, q2, q3, q4⟩, ⟨p1, p2, p3, -⟩, ⟨w1, w2, w3, w4⟩, -⟩ := id H
  refine pA_show p2 (by omega) (fun a1 a2 => ⟨fun g => absurd g (by decide), fun _ => ?_⟩) (fun g => ⟨fun _ => pB_show p3 (by omega) (fun z1 z2 => absurd ⟨z1, z2⟩ g) (fun _ => ⟨fun _ => ⟨rfl, hR⟩, fun z => absurd rfl z⟩), fun z => absurd rfl z⟩)
  refine pA_dog q2 (by omega) (fun b1 b2 => ⟨fun g => absurd g (by decide), fun _ => ?_⟩) (fun g => ⟨fun _ => pB_show p3 (by omega) (fun _ _ => ⟨fun z => absurd z (by decide), fun _ => pB_dog q3 (by omega) (fun z1 z2 => absurd ⟨z1, z2⟩ g) (fun _ => ⟨fun _ => ⟨rfl, hR⟩, fun z => absurd rfl z⟩)⟩) (fun z => absurd ⟨a1, a2⟩ z), fun z => absurd rfl z⟩)
  refine pA_known w2 (by omega) (fun c1 c2 => ⟨fun _ => ⟨i_in a1 (by omega), ?_⟩, fun g => absurd g (by decide)⟩) (fun g => ⟨fun z => absurd rfl z, fun _ => pB_show p3 (by omega) (fun _ _ => ⟨fun z => absurd z (by decide), fun _ => pB_dog q3 (by omega) (fun _ _ => ⟨fun z => absurd z (by decide), fun _ => pB_known w3 (by omega) (fun z1 z2 => absurd ⟨z1, z2⟩ g) (fun _ => ⟨fun _ => ⟨rfl, hR⟩, fun z => absurd rfl z⟩)⟩) (fun z => absurd ⟨b1, b2⟩ z)⟩) (fun z => absurd ⟨a1, a2⟩ z)⟩)
  obtain ⟨s, hs, rfl, -, es⟩ := i_of (n := ns) a1 a2
  obtain ⟨d, hd, rfl, -⟩ := i_of (n := nd) b1 b2
  obtain ⟨n, hn, rfl, -⟩ := i_of (n := nf + 1) c1 (by omega)
  rw [es]
  refine qA_why H fA_0 hs hd (by omega) (fun σ1 F1 => ?_)
  refine pB_show p3 (by omega) (fun _ _ => ⟨fun z => absurd z (by decide), fun _ => pB_dog q3 (by omega) (fun _ _ => ⟨fun z => absurd z (by decide), fun _ => pB_known w3 (by omega) (fun _ _ => ⟨fun z => absurd z (by decide), fun _ => ?_⟩) (fun z => absurd ⟨c1, c2⟩ z)⟩) (fun z => absurd ⟨b1, b2⟩ z)⟩) (fun z => absurd ⟨a1, a2⟩ z)
  exact qB_why H fB_0 hs hd (by omega) (fun τ1 G1 => ⟨rfl, r_R_f hR F1 G1⟩)
theorem s_winner : ∀ σ τ, r_R tX σ τ → ∀ a0 a1 a2 : Int32, xu_X11_winner σ a0 a1 a2 (fun r σ1 => xu_X12_winner τ a0 a1 a2 (fun r2 τ1 => r = r2 ∧ r_R tX σ1 τ1)) := by
  intro σ τ hR a b c
  obtain ⟨nb, nd, ns, nf, live, nr, sz, F, H⟩ := r_R_C hR
  obtain ⟨-, -, -, ⟨q1, q2, q3, q4⟩, -, ⟨p1, p2, p3, -⟩, ⟨w1, w2, w3, w4⟩, -⟩ := id H
  refine pA_show p2 (by omega) (fun a1 a2 => ⟨fun g => absurd g (by decide), fun _ => ?_⟩) (fun g => ⟨fun _ => pB_show p3 (by omega) (fun z1 z2 => absurd ⟨z1, z2⟩ g) (fun _ => ⟨fun _ => ⟨rfl, hR⟩, fun z => absurd rfl z⟩), fun z => absurd rfl z⟩)
  refine pA_breed q2 (by omega) (fun b1 b2 => ⟨fun g => absurd g (by decide), fun _ => ?_⟩) (fun g => ⟨fun _ => pB_show p3 (by omega) (fun _ _ => ⟨fun z => absurd z (by decide), fun _ => pB_breed q3 (by omega) (fun z1 z2 => absurd ⟨z1, z2⟩ g) (fun _ => ⟨fun _ => ⟨rfl, hR⟩, fun z => absurd rfl z⟩)⟩) (fun z => absurd ⟨a1, a2⟩ z), fun z => absurd rfl z⟩)
  refine pA_known w2 (by omega) (fun c1 c2 => ⟨fun _ => ⟨i_in a1 (by omega), ?_⟩, fun g => absurd g (by decide)⟩) (fun g => ⟨fun z => absurd rfl z, fun _ => pB_show p3 (by omega) (fun _ _ => ⟨fun z => absurd z (by decide), fun _ => pB_breed q3 (by omega) (fun _ _ => ⟨fun z => absurd z (by decide), fun _ => pB_known w3 (by omega) (fun z1 z2 => absurd ⟨z1, z2⟩ g) (fun _ => ⟨fun _ => ⟨rfl, hR⟩, fun z => absurd rfl z⟩)⟩) (fun z => absurd ⟨b1, b2⟩ z)⟩) (fun z => absurd ⟨a1, a2⟩ z)⟩)
  obtain ⟨s, hs, rfl, -, es⟩ := i_of (n := ns) a1 a2
  obtain ⟨d, hd, rfl, -⟩ := i_of (n := nb) b1 b2
  obtain ⟨n, hn, rfl, -⟩ := i_of (n := nf + 1) c1 (by omega)
  rw [es]
  refine qA_winner H fA_0 hs (by omega) (by omega) (fun σ1 F1 => ?_)
  refine pB_show p3 (by omega) (fun _ _ => ⟨fun z => absurd z (by decide), fun _ => pB_breed q3 (by omega) (fun _ _ => ⟨fun z => absurd z (by decide), fun _ => pB_known w3 (by omega) (fun _ _ => ⟨fun z => absurd z (by decide), fun _ => ?_⟩) (fun z => absurd ⟨c1, c2⟩ z)⟩) (fun z => absurd ⟨b1, b2⟩ z)⟩) (fun z => absurd ⟨a1, a2⟩ z)
  exact qB_winner H fB_0 hs (by omega) (by omega) (fun τ1 G1 => ⟨rfl, r_R_f hR F1 G1⟩)
theorem s_points : ∀ σ τ, r_R tX σ τ → ∀ a0 a1 a2 : Int32, xu_X11_points σ a0 a1 a2 (fun r σ1 => xu_X12_points τ a0 a1 a2 (fun r2 τ1 => r = r2 ∧ r_R tX σ1 τ1)) := by
  intro σ τ hR a b c
  obtain ⟨nb, nd, ns, nf, live, nr, sz, F, H⟩ := r_R_C hR
  obtain ⟨-, -, -, ⟨k1, -⟩, ⟨q1, q2, q3, q4⟩, ⟨p1, p2, p3, -⟩, ⟨w1, w2, w3, w4⟩, -⟩ := id H
  refine pA_show p2 (by omega) (fun a1 a2 => ⟨fun g => absurd g (by decide), fun _ => ?_⟩) (fun g => ⟨fun _ => pB_show p3 (by omega) (fun z1 z2 => absurd ⟨z1, z2⟩ g) (fun _ => ⟨fun _ => ⟨rfl, hR⟩, fun z => absurd rfl z⟩), fun z => absurd rfl z⟩)
  refine pA_dog q2 (by omega) (fun b1 b2 => ⟨fun g => absurd g (by decide), fun _ => ?_⟩) (fun g => ⟨fun _ => pB_show p3 (by omega) (fun _ _ => ⟨fun z => absurd z (by decide), fun _ => pB_dog q3 (by omega) (fun z1 z2 => absurd ⟨z1, z2⟩ g) (fun _ => ⟨fun _ => ⟨rfl, hR⟩, fun z => absurd rfl z⟩)⟩) (fun z => absurd ⟨a1, a2⟩ z), fun z => absurd rfl z⟩)
  refine pA_known w2 (by omega) (fun c1 c2 => ⟨fun _ => ⟨i_in a1 (by omega), i_in b1 (by omega), ?_⟩, fun g => absurd g (by decide)⟩) (fun g => ⟨fun z => absurd rfl z, fun _ => pB_show p3 (by omega) (fun _ _ => ⟨fun z => absurd z (by decide), fun _ => pB_dog q3 (by omega) (fun _ _ => ⟨fun z => absurd z (by decide), fun _ => pB_known w3 (by omega) (fun z1 z2 => absurd ⟨z1, z2⟩ g) (fun _ => ⟨fun _ => ⟨rfl, hR⟩, fun z => absurd rfl z⟩)⟩) (fun z => absurd ⟨b1, b2⟩ z)⟩) (fun z => absurd ⟨a1, a2⟩ z)⟩)
  obtain ⟨s, hs, rfl, -, es⟩ := i_of (n := ns) a1 a2
  obtain ⟨d, hd, rfl, -, ed⟩ := i_of (n := nd) b1 b2
  obtain ⟨n, hn, rfl, -⟩ := i_of (n := nf + 1) c1 (by omega)
  obtain ⟨m1, m2, m3⟩ := m_brk H hd
  rw [es, ed, m2]
  have fin : ∀ σ1, fA σ σ1 → xu_X12_points τ (nI s) (nI d) (nI n) (fun r2 τ1 => m_pof σ F nr nd s d n = r2 ∧ r_R tX σ1 τ1) := by
    intro σ1 F1
    refine pB_show p3 (by omega) (fun _ _ => ⟨fun z => absurd z (by decide), fun _ => pB_dog q3 (by omega) (fun _ _ => ⟨fun z => absurd z (by decide), fun _ => pB_known w3 (by omega) (fun _ _ => ⟨fun z => absurd z (by decide), fun _ => ?_⟩) (fun z => absurd ⟨c1, c2⟩ z)⟩) (fun z => absurd ⟨b1, b2⟩ z)⟩) (fun z => absurd ⟨a1, a2⟩ z)
    exact qB_points H fB_0 hs hd (by omega) (fun τ1 G1 => ⟨rfl, r_R_f hR F1 G1⟩)
  unfold m_pof at fin
  refine qA_winner H fA_0 hs (by omega) (by omega) (fun σ1 F1 => ⟨fun w => ⟨i_in a1 (by omega), ?_⟩, fun w => ?_⟩)
  · refine qA_points H F1 hs hd (by omega) (fun σ2 F2 => ?_)
    rw [if_pos w] at fin
    exact fin σ2 F2
  · rw [if_neg w] at fin
    exact fin σ1 F1
theorem s_changed : ∀ σ τ, r_R tX σ τ → ∀ a0 a1 a2 : Int32, xu_X11_changed σ a0 a1 a2 (fun r σ1 => xu_X12_changed τ a0 a1 a2 (fun r2 τ1 => r = r2 ∧ r_R tX σ1 τ1)) := by
  intro σ τ hR a b c
  obtain ⟨nb, nd, ns, nf, live, nr, sz, F, H⟩ := r_R_C hR
  obtain ⟨-, -, -, ⟨q1, q2, q3, q4⟩, -, ⟨p1, p2, p3, -⟩, ⟨w1, w2, w3, w4⟩, -⟩ := id H
  intro K hK
  refine pA_show p2 (by omega) (fun a1 a2 => ⟨fun g => absurd g (by decide), fun _ => ?_⟩) (fun g => ⟨fun _ _ _ => pB_show p3 (by omega) (fun z1 z2 => absurd ⟨z1, z2⟩ g) (fun _ => ⟨fun _ => ⟨rfl, hR⟩, fun z => absurd rfl z⟩), fun z => absurd rfl z⟩)
  refine pA_known w2 (by omega) (fun b1 b2 => ⟨fun g => absurd g (by decide), fun _ => ?_⟩) (fun g => ⟨fun _ _ _ => pB_show p3 (by omega) (fun _ _ => ⟨fun z => absurd z (by decide), fun _ => pB_known w3 (by omega) (fun z1 z2 => absurd ⟨z1, z2⟩ g) (fun _ => ⟨fun _ => ⟨rfl, hR⟩, fun z => absurd rfl z⟩)⟩) (fun z => absurd ⟨a1, a2⟩ z), fun z => absurd rfl z⟩)
  refine pA_known w2 (by omega) (fun c1 c2 => ⟨fun _ => ?_, fun g => absurd g (by decide)⟩) (fun g => ⟨fun z => absurd rfl z, fun _ _ _ => pB_show p3 (by omega) (fun _ _ => ⟨fun z => absurd z (by decide), fun _ => pB_known w3 (by omega) (fun _ _ => ⟨fun z => absurd z (by decide), fun _ => pB_known w3 (by omega) (fun z1 z2 => absurd ⟨z1, z2⟩ g) (fun _ => ⟨fun z => absurd rfl z, fun _ => ⟨rfl, hR⟩⟩)⟩) (fun z => absurd ⟨b1, b2⟩ z)⟩) (fun z => absurd ⟨a1, a2⟩ z)⟩)
  obtain ⟨s, hs, rfl, -, es⟩ := i_of (n := ns) a1 a2
  obtain ⟨n, hn, rfl, -⟩ := i_of (n := nf + 1) b1 (by omega)
  obtain ⟨m, hm, rfl, -⟩ := i_of (n := nf + 1) c1 (by omega)
  have fin : ∀ σ1, fA σ σ1 → xu_X12_changed τ (nI s) (nI n) (nI m) (fun r2 τ1 => o_ix (l_find (fun b => decide (¬ m_winner σ F nr nd s b n = m_winner σ F nr nd s b m)) nb 0) = r2 ∧ r_R tX σ1 τ1) := by
    intro σ1 F1 K' hK'
    refine pB_show p3 (by omega) (fun _ _ => ⟨fun z => absurd z (by decide), fun _ => pB_known w3 (by omega) (fun _ _ => ⟨fun z => absurd z (by decide), fun _ => pB_known w3 (by omega) (fun _ _ => ⟨fun _ => ?_, fun z => absurd z (by decide)⟩) (fun z => absurd ⟨c1, c2⟩ z)⟩) (fun z => absurd ⟨b1, b2⟩ z)⟩) (fun z => absurd ⟨a1, a2⟩ z)
    have key : ∀ (k i : Nat) (τ' : xw_M), i + k = nb → fB τ τ' → l_find (fun b => decide (¬ m_winner σ F nr nd s b n = m_winner σ F nr nd s b m)) nb 0 = l_find (fun b => decide (¬ m_winner σ F nr nd s b n = m_winner σ F nr nd s b m)) k i → K' τ' (nI i) := by
      intro k
      induction k with
      | zero =>
        intro i τ' hi hF' e
        obtain rfl : i = nb := by omega
        apply hK'
        unfold xb_X12_changed_29
        rw [hF'.1 0 (by decide) (by decide), q3]
        refine ⟨fun _ => ⟨by rw [e]; rfl, r_R_f hR F1 hF'⟩, fun g => absurd (nI_le (Nat.le_refl i) (by omega)) g⟩
      | succ k ih =>
        intro i τ' hi hF' e
        apply hK'
        unfold xb_X12_changed_29
        rw [hF'.1 0 (by decide) (by decide), q3]
        simp only [l_find] at e
        refine ⟨fun g => absurd g (nI_ge (by omega) (by omega)), fun _ => qB_winner H hF' hs (by omega) (by omega) (fun τ1 G1 => qB_winner H G1 hs (by omega) (by omega) (fun τ2 G2 => ⟨fun w => ?_, fun w => ?_⟩))⟩
        · rw [if_neg (by simp [w])] at e
          rw [nI_1]
          exact ih (i + 1) τ2 (by omega) G2 e
        · rw [if_pos (by simp [w])] at e
          exact ⟨by rw [e]; rfl, r_R_f hR F1 G2⟩
    exact key nb 0 τ (by omega) fB_0 rfl
  have key : ∀ (k i : Nat) (σ' : xw_M), i + k = nb → fA σ σ' → l_find (fun b => decide (¬ m_winner σ F nr nd s b n = m_winner σ F nr nd s b m)) nb 0 = l_find (fun b => decide (¬ m_winner σ F nr nd s b n = m_winner σ F nr nd s b m)) k i → K σ' (nI i) := by
    intro k
    induction k with
    | zero =>
      intro i σ' hi hF' e
      obtain rfl : i = nb := by omega
      apply hK
      unfold xb_X11_changed_29
      rw [hF' 4 (by decide) (by decide), q2]
      refine ⟨fun _ => ?_, fun g => absurd (nI_le (Nat.le_refl i) (by omega)) g⟩
      rw [e] at fin
      exact fin σ' hF'
    | succ k ih =>
      intro i σ' hi hF' e
      apply hK
      unfold xb_X11_changed_29
      rw [hF' 4 (by decide) (by decide), q2, es]
      simp only [l_find] at e
      have vs : vp_in (nI s) 5 := vp_in_nI (by omega) (by decide)
      refine ⟨fun g => absurd g (nI_ge (by omega) (by omega)), fun _ => ⟨vs, qA_winner H hF' hs (by omega) (by omega) (fun σ1 G1 => ⟨vs, qA_winner H G1 hs (by omega) (by omega) (fun σ2 G2 => ⟨fun w => ?_, fun w => ?_⟩)⟩)⟩⟩
      · rw [if_neg (by simp [w])] at e
        rw [nI_1]
        exact ih (i + 1) σ2 (by omega) G2 e
      · rw [if_pos (by simp [w])] at e
        rw [e] at fin
        exact fin σ2 G2
  exact key nb 0 σ (by omega) fA_0 rfl
