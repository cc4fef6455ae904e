/-! BARS -/
def m_own (σ : xw_M) (d : Nat) (w : Int32) (n : Nat) : Int32 := q_own (σ.1 37) (σ.1 42) d (q_sale (σ.1 39) (σ.1 41) (σ.1 43) (nI d) w n)
def m_part (σ : xw_M) (p d : Nat) (w : Int32) (n : Nat) : Int32 := if m_own σ d w n = nI p then -1 else q_back (fun t => q_sale (σ.1 39) (σ.1 41) (σ.1 43) (nI d) t n) (q_own (σ.1 37) (σ.1 42) d) (σ.1 43) (nI p) w 202 w
def m_bV (σ : xw_M) (F : Nat → tU) (nr p s d n k : Nat) : Int32 := if k = 4 then m_cls σ F nr s d else if k = 5 then (if m_own σ d (m_day σ s) n = nI p then 1 else 0) else if k = 6 then (if bt (σ.1 28 (m_own σ d (m_day σ s) n).toNatClampNeg) p then 1 else 0) else if k = 7 then m_part σ p d (m_day σ s) n else m_cV σ s d k
def m_bar (σ : xw_M) (F : Nat → tU) (nr p s d n : Nat) : Int32 := o_ix (t_first F nr 0 (m_bV σ F nr p s d n))
section BAR
variable {σ0 τ0 : xw_M} {nb nd ns nf live nr sz : Nat} {F : Nat → tU}
theorem m_ownk (H : m_C σ0 τ0 nb nd ns nf live nr sz F) {d n : Nat} {w : Int32} (hd : d < nd) (hn : n ≤ nf) : ∃ k : Nat, k < 12 ∧ m_own σ0 d w n = nI k := by
  obtain ⟨-, -, -, -, h7, -, h9, -, -, -, -⟩ := H
  exact (q_own_eq h7 h9 hn hd).2.2
theorem qA_bar {σ : xw_M} {p s d n : Nat} {Z : Int32 → xw_M → Prop} (H : m_C σ0 τ0 nb nd ns nf live nr sz F) (hF : fA σ0 σ) (hp : p < 12) (hs : s < ns) (hd : d < nd) (hn : n ≤ nf) (h : ∀ σ1, fA σ0 σ1 → Z (m_bar σ0 F nr p s d n) σ1) : xu_X0_firstBar σ (nI p) s (nI d) (nI n) Z := by
  obtain ⟨k, hk, ek⟩ := m_ownk (w := m_day σ0 s) H hd hn
  obtain ⟨-, -, -, ⟨b1, b2, b3, b4⟩, h7, h8, h9, -, hT, -, -⟩ := id H
  obtain ⟨q1, q2, q3, q4⟩ := id h7
  obtain ⟨w1, w2, w3, w4⟩ := id h9
  obtain ⟨p1, p2, p3, p4, p5, p6⟩ := id h8
  obtain ⟨y1, y2, y3⟩ := p5 s hs
  have yd : 0 ≤ (m_day σ0 s).toInt := by rw [show m_day σ0 s = τ0.1 36 s from y1]; exact y2
  intro K48 K73 h48 h73
  refine qA_vars H hF hs hd (fun σ1 F1 v1 => ?_)
  have ed : σ1.1 (11 + s) 2 = m_day σ0 s := by rw [F1 (11 + s) (by omega) (by omega)]; rfl
  rw [ed]
  have days : ∀ σ' , fA σ0 σ' → ∀ i, i < nf → σ'.1 39 i = 4 → 0 ≤ (σ'.1 43 i).toInt := by
    intro σ' f i hi g
    rw [f 39 (by decide) (by decide)] at g
    rw [f 43 (by decide) (by decide)]
    exact (q_days h9 i hi g).1
  refine qA_owner (nf := nf) (nd := nd) (by rw [F1 5 (by decide) (by decide)]; exact w2) w1 hn (days σ1 F1) (by rw [F1 4 (by decide) (by decide)]; exact q2) q1 hd ?_
  have eo : q_own (σ1.1 37) (σ1.1 42) d (q_sale (σ1.1 39) (σ1.1 41) (σ1.1 43) (nI d) (m_day σ0 s) n) = m_own σ0 d (m_day σ0 s) n := by
    unfold m_own
    rw [F1 37 (by decide) (by decide), F1 42 (by decide) (by decide), F1 39 (by decide) (by decide), F1 41 (by decide) (by decide), F1 43 (by decide) (by decide)]
  rw [eo]
  refine ⟨vp_in_nI (n := 4) (by decide) (by decide), fun σ5 e5 => ?_⟩
  change σ5 = xw_i σ1 44 4 _ at e5
  have f5 : fA σ0 σ5 := by rw [e5]; exact fA_v F1
  have step : ∀ v : Int32, v = (if m_own σ0 d (m_day σ0 s) n = nI p then 1 else 0) → K48 σ5 5 v (m_own σ0 d (m_day σ0 s) n) := by
    intro v hv
    apply h48
    refine ⟨vp_in_nI (n := 5) (by decide) (by decide), fun σ6 e6 => ?_⟩
    change σ6 = xw_i σ5 44 5 _ at e6
    have f6 : fA σ0 σ6 := by rw [e6]; exact fA_v f5
    have step2 : ∀ u : Int32, u = (if bt (σ0.1 28 (m_own σ0 d (m_day σ0 s) n).toNatClampNeg) p then 1 else 0) → K73 σ6 6 u := by
      intro u hu
      apply h73
      refine ⟨vp_in_nI (n := 6) (by decide) (by decide), fun σ9 e9 => ?_⟩
      change σ9 = xw_i σ6 44 6 _ at e9
      have f9 : fA σ0 σ9 := by rw [e9]; exact fA_v f6
      have ed9 : σ9.1 (11 + s) 2 = m_day σ0 s := by rw [f9 (11 + s) (by omega) (by omega)]; rfl
      rw [ed9]
      refine qA_parted (nf := nf) (nd := nd) (by rw [f9 5 (by decide) (by decide)]; exact w2) w1 hn (days σ9 f9) (by rw [f9 4 (by decide) (by decide)]; exact q2) q1 hd yd ⟨vp_in_nI (n := 7) (by decide) (by decide), fun σ12 e12 => ?_⟩
      rw [f9 37 (by decide) (by decide), f9 42 (by decide) (by decide), f9 39 (by decide) (by decide), f9 41 (by decide) (by decide), f9 43 (by decide) (by decide)] at e12
      change σ12 = xw_i σ9 44 7 (m_part σ0 p d (m_day σ0 s) n) at e12
      have f12 : fA σ0 σ12 := by rw [e12]; exact fA_v f9
      have v12 : t_agr (σ12.1 44) (m_bV σ0 F nr p s d n) := by
        intro j hj
        rw [e12, e9, e6, e5]
        unfold m_bV
        by_cases j4 : j = 4
        · subst j4
          rw [xw_nj (by decide), xw_nj (by decide), xw_nj (by decide), xw_eq, if_pos rfl]
        · by_cases j5 : j = 5
          · subst j5
            rw [xw_nj (by decide), xw_nj (by decide), xw_eq, if_neg (by decide), if_pos rfl, hv]
          · by_cases j6 : j = 6
            · subst j6
              rw [xw_nj (by decide), xw_eq, if_neg (by decide), if_neg (by decide), if_pos rfl, hu]
            · by_cases j7 : j = 7
              · subst j7
                rw [xw_eq, if_neg (by decide), if_neg (by decide), if_neg (by decide), if_pos rfl]
              · rw [xw_nj j7, xw_nj j6, xw_nj j5, xw_nj j4, if_neg j4, if_neg j5, if_neg j6, if_neg j7]
                exact v1 j hj
      have hT12 : TA 0 σ12 nr sz F := TA_c hT (fun c hc => f12 c (by omega) (by omega))
      refine qA_first (kd := 0) (by decide) hT12 (fun σ13 F13 => ?_)
      rw [t_first_agr hT12 v12]
      exact h σ13 (fA_F f12 F13)
    rw [ek] at step2 ⊢
    rw [nI_clamp (by omega)] at step2
    refine pA_areKin hk hp (fun g => ?_) (fun g => ?_)
    · rw [f6 28 (by decide) (by decide)] at g
      exact ⟨fun z => absurd z (by decide), fun _ => step2 1 (by rw [if_pos g])⟩
    · rw [f6 28 (by decide) (by decide)] at g
      exact ⟨fun _ => step2 0 (by rw [if_neg g]), fun z => absurd rfl z⟩
  exact ⟨fun g => step 0 (by rw [if_neg g]), fun g => step 1 (by rw [if_pos g])⟩
theorem qB_bar {τ : xw_M} {p s d n : Nat} {Z : Int32 → xw_M → Prop} (H : m_C σ0 τ0 nb nd ns nf live nr sz F) (hF : fB τ0 τ) (hp : p < 12) (hs : s < ns) (hd : d < nd) (hn : n ≤ nf) (h : ∀ τ1, fB τ0 τ1 → Z (m_bar σ0 F nr p s d n) τ1) : xu_X12_barOf τ (nI p) (nI s) (nI d) (nI n) Z := by
  obtain ⟨k, hk, ek⟩ := m_ownk (w := m_day σ0 s) H hd hn
  obtain ⟨hkin, -, -, ⟨b1, b2, b3, b4⟩, h7, h8, h9, -, hT, -, -⟩ := id H
  obtain ⟨q1, q2, q3, q4⟩ := id h7
  obtain ⟨w1, w2, w3, w4⟩ := id h9
  obtain ⟨p1, p2, p3, p4, p5, p6⟩ := id h8
  obtain ⟨y1, y2, y3⟩ := p5 s hs
  have cs : (nI s).toNatClampNeg = s := nI_clamp (by omega)
  have vs : vp_in (nI s) 5 := vp_in_nI (by omega) (by decide)
  intro K53 K80 h53 h80
  refine qB_class H hF hs hd (fun τ1 F1 => ?_)
  refine qB_asks H F1 hs hd (fun τ3 F3 v3 => ⟨vs, ?_⟩)
  have ed : τ3.1 36 (nI s).toNatClampNeg = m_day σ0 s := by rw [cs, F3.1 36 (by decide) (by decide)]; exact y1.symm
  rw [ed]
  refine qB_owner (by omega) (by omega) ?_
  have eo : q_own (τ3.1 34) (τ3.1 41) d (q_sale (τ3.1 38) (τ3.1 40) (τ3.1 39) (nI d) (m_day σ0 s) n) = m_own σ0 d (m_day σ0 s) n := by
    rw [F3.1 34 (by decide) (by decide), F3.1 41 (by decide) (by decide), F3.1 38 (by decide) (by decide), F3.1 40 (by decide) (by decide), F3.1 39 (by decide) (by decide)]
    exact (q_own_eq h7 h9 hn hd).2.1.symm
  rw [eo]
  refine ⟨vp_in_nI (n := 4) (by decide) (by decide), fun σ5 e5 => ?_⟩
  change σ5 = xw_i τ3 42 4 _ at e5
  have f5 : fB τ0 σ5 := by rw [e5]; exact fB_v F3
  have step : ∀ v : Int32, v = (if m_own σ0 d (m_day σ0 s) n = nI p then 1 else 0) → K53 σ5 5 v (m_own σ0 d (m_day σ0 s) n) := by
    intro v hv
    apply h53
    refine ⟨vp_in_nI (n := 5) (by decide) (by decide), fun σ6 e6 => ?_⟩
    change σ6 = xw_i σ5 42 5 _ at e6
    have f6 : fB τ0 σ6 := by rw [e6]; exact fB_v f5
    have step2 : ∀ u : Int32, u = (if bt (σ0.1 28 (m_own σ0 d (m_day σ0 s) n).toNatClampNeg) p then 1 else 0) → K80 σ6 6 u := by
      intro u hu
      apply h80
      refine ⟨vp_in_nI (n := 6) (by decide) (by decide), fun σ9 e9 => ⟨vs, ?_⟩⟩
      change σ9 = xw_i σ6 42 6 _ at e9
      have f9 : fB τ0 σ9 := by rw [e9]; exact fB_v f6
      have ed9 : σ9.1 36 (nI s).toNatClampNeg = m_day σ0 s := by rw [cs, f9.1 36 (by decide) (by decide)]; exact y1.symm
      rw [ed9]
      refine qB_parted (by omega) (by omega) (fun i hi g => by rw [f9.1 38 (by decide) (by decide)] at g; rw [f9.1 39 (by decide) (by decide)]; exact q_daysB h9 i (by omega) g) ⟨vp_in_nI (n := 7) (by decide) (by decide), fun σ12 e12 => ?_⟩
      rw [f9.1 34 (by decide) (by decide), f9.1 41 (by decide) (by decide), f9.1 38 (by decide) (by decide), f9.1 40 (by decide) (by decide), f9.1 39 (by decide) (by decide), ← q_parted_eq h7 h9 hn hd] at e12
      change σ12 = xw_i σ9 42 7 (m_part σ0 p d (m_day σ0 s) n) at e12
      have f12 : fB τ0 σ12 := by rw [e12]; exact fB_v f9
      have v12 : t_agr (σ12.1 42) (m_bV σ0 F nr p s d n) := by
        intro j hj
        rw [e12, e9, e6, e5]
        unfold m_bV
        by_cases j4 : j = 4
        · subst j4
          rw [xw_nj (by decide), xw_nj (by decide), xw_nj (by decide), xw_eq, if_pos rfl]
        · by_cases j5 : j = 5
          · subst j5
            rw [xw_nj (by decide), xw_nj (by decide), xw_eq, if_neg (by decide), if_pos rfl, hv]
          · by_cases j6 : j = 6
            · subst j6
              rw [xw_nj (by decide), xw_eq, if_neg (by decide), if_neg (by decide), if_pos rfl, hu]
            · by_cases j7 : j = 7
              · subst j7
                rw [xw_eq, if_neg (by decide), if_neg (by decide), if_neg (by decide), if_pos rfl]
              · rw [xw_nj j7, xw_nj j6, xw_nj j5, xw_nj j4, if_neg j4, if_neg j5, if_neg j6, if_neg j7]
                exact v3 j hj
      exact qB_first (kd := 0) H (by decide) f12 v12 (fun τ13 F13 _ => h τ13 F13)
    rw [ek] at step2 ⊢
    rw [nI_clamp (by omega)] at step2
    rw [ix12, nI_clamp (by omega), f6.1 25 (by decide) (by decide), hkin k p hk hp]
    refine ⟨vp_in_nI (by omega) (by decide), fun g => ?_, fun g => ?_⟩
    · refine step2 0 ?_
      by_cases c : bt (σ0.1 28 k) p = true
      · rw [if_pos c] at g; exact absurd g (by decide)
      · rw [if_neg c]
    · refine step2 1 ?_
      by_cases c : bt (σ0.1 28 k) p = true
      · rw [if_pos c]
      · rw [if_neg c] at g; exact absurd rfl g
  exact ⟨fun g => step 0 (by rw [if_neg g]), fun g => step 1 (by rw [if_pos g])⟩
end BAR
theorem s_classed : ∀ σ τ, r_R tX σ τ → ∀ a0 a1 : Int32, xu_X11_classed σ a0 a1 (fun r σ1 => xu_X12_classed τ a0 a1 (fun r2 τ1 => r = r2 ∧ r_R tX σ1 τ1)) := by
  intro σ τ hR a b
  obtain ⟨nb, nd, ns, nf, live, nr, sz, F, H⟩ := r_R_C hR
  obtain ⟨-, -, -, -, ⟨q1, q2, q3, q4⟩, ⟨p1, p2, p3, -⟩, -⟩ := id H
  refine pA_show p2 (by omega) (fun a1 a2 => ⟨fun g => absurd g (by decide), fun _ => ?_⟩) (fun g => ⟨fun _ => pB_show p3 (by omega) (fun z1 z2 => absurd ⟨z1, z2⟩ g) (fun _ => ⟨fun _ => ⟨rfl, hR⟩, fun z => absurd rfl z⟩), fun z => absurd rfl z⟩)
  refine pA_dog q2 (by omega) (fun b1 b2 => ⟨fun _ => ⟨i_in a1 (by omega), ?_⟩, fun g => absurd g (by decide)⟩) (fun g => ⟨fun z => absurd rfl z, fun _ => pB_show p3 (by omega) (fun _ _ => ⟨fun z => absurd z (by decide), fun _ => pB_dog q3 (by omega) (fun z1 z2 => absurd ⟨z1, z2⟩ g) (fun _ => ⟨fun _ => ⟨rfl, hR⟩, fun z => absurd rfl z⟩)⟩) (fun z => absurd ⟨a1, a2⟩ z)⟩)
  obtain ⟨s, hs, rfl, -, es⟩ := i_of (n := ns) a1 a2
  obtain ⟨d, hd, rfl, -, ed⟩ := i_of (n := nd) b1 b2
  rw [es]
  refine qA_vars H fA_0 hs hd (fun σ1 F1 _ => ?_)
  refine pB_show p3 (by omega) (fun _ _ => ⟨fun z => absurd z (by decide), fun _ => pB_dog q3 (by omega) (fun _ _ => ⟨fun z => absurd z (by decide), fun _ => ?_⟩) (fun z => absurd ⟨b1, b2⟩ z)⟩) (fun z => absurd ⟨a1, a2⟩ z)
  exact qB_class H fB_0 hs hd (fun τ1 G1 => ⟨rfl, r_R_f hR F1 G1⟩)
theorem s_barred : ∀ σ τ, r_R tX σ τ → ∀ a0 a1 a2 a3 : Int32, xu_X11_barred σ a0 a1 a2 a3 (fun r σ1 => xu_X12_barred τ a0 a1 a2 a3 (fun r2 τ1 => r = r2 ∧ r_R tX σ1 τ1)) := by
  intro σ τ hR p a b c
  obtain ⟨nb, nd, ns, nf, live, nr, sz, F, H⟩ := r_R_C hR
  obtain ⟨-, -, -, -, ⟨q1, q2, q3, q4⟩, ⟨p1, p2, p3, -⟩, ⟨w1, w2, w3, w4⟩, -⟩ := id H
  refine pA_person (fun y1 y2 => ⟨fun g => absurd g (by decide), fun _ => ?_⟩) (fun g => ⟨fun _ => pB_person (fun z1 z2 => absurd ⟨z1, z2⟩ g) (fun _ => ⟨fun _ => ⟨rfl, hR⟩, fun z => absurd rfl z⟩), fun z => absurd rfl z⟩)
  refine pA_show p2 (by omega) (fun a1 a2 => ⟨fun g => absurd g (by decide), fun _ => ?_⟩) (fun g => ⟨fun _ => pB_person (fun _ _ => ⟨fun z => absurd z (by decide), fun _ => pB_show p3 (by omega) (fun z1 z2 => absurd ⟨z1, z2⟩ g) (fun _ => ⟨fun _ => ⟨rfl, hR⟩, fun z => absurd rfl z⟩)⟩) (fun z => absurd ⟨y1, y2⟩ z), fun z => absurd rfl z⟩)
  refine pA_dog q2 (by omega) (fun b1 b2 => ⟨fun g => absurd g (by decide), fun _ => ?_⟩) (fun g => ⟨fun _ => pB_person (fun _ _ => ⟨fun z => absurd z (by decide), fun _ => pB_show p3 (by omega) (fun _ _ => ⟨fun z => absurd z (by decide), fun _ => pB_dog q3 (by omega) (fun z1 z2 => absurd ⟨z1, z2⟩ g) (fun _ => ⟨fun _ => ⟨rfl, hR⟩, fun z => absurd rfl z⟩)⟩) (fun z => absurd ⟨a1, a2⟩ z)⟩) (fun z => absurd ⟨y1, y2⟩ z), fun z => absurd rfl z⟩)
  refine pA_known w2 (by omega) (fun c1 c2 => ⟨fun _ => ⟨i_in a1 (by omega), ?_⟩, fun g => absurd g (by decide)⟩) (fun g => ⟨fun z => absurd rfl z, fun _ => pB_person (fun _ _ => ⟨fun z => absurd z (by decide), fun _ => pB_show p3 (by omega) (fun _ _ => ⟨fun z => absurd z (by decide), fun _ => pB_dog q3 (by omega) (fun _ _ => ⟨fun z => absurd z (by decide), fun _ => pB_known w3 (by omega) (fun z1 z2 => absurd ⟨z1, z2⟩ g) (fun _ => ⟨fun _ => ⟨rfl, hR⟩, fun z => absurd rfl z⟩)⟩) (fun z => absurd ⟨b1, b2⟩ z)⟩) (fun z => absurd ⟨a1, a2⟩ z)⟩) (fun z => absurd ⟨y1, y2⟩ z)⟩)
  obtain ⟨pp, hp, rfl, -⟩ := i_of (n := 12) y1 y2
  obtain ⟨s, hs, rfl, -, es⟩ := i_of (n := ns) a1 a2
  obtain ⟨d, hd, rfl, -⟩ := i_of (n := nd) b1 b2
  obtain ⟨n, hn, rfl, -⟩ := i_of (n := nf + 1) c1 (by omega)
  rw [es]
  refine qA_bar H fA_0 hp hs hd (by omega) (fun σ1 F1 => ?_)
  refine pB_person (fun _ _ => ⟨fun z => absurd z (by decide), fun _ => pB_show p3 (by omega) (fun _ _ => ⟨fun z => absurd z (by decide), fun _ => pB_dog q3 (by omega) (fun _ _ => ⟨fun z => absurd z (by decide), fun _ => pB_known w3 (by omega) (fun _ _ => ⟨fun z => absurd z (by decide), fun _ => ?_⟩) (fun z => absurd ⟨c1, c2⟩ z)⟩) (fun z => absurd ⟨b1, b2⟩ z)⟩) (fun z => absurd ⟨a1, a2⟩ z)⟩) (fun z => absurd ⟨y1, y2⟩ z)
  exact qB_bar H fB_0 hp hs hd (by omega) (fun τ1 G1 => ⟨rfl, r_R_f hR F1 G1⟩)
