/-! why a DOG does not COUNT -/
theorem m_min_i (a b : Int32) : (m_min a b).toInt = if b.toInt < a.toInt then b.toInt else a.toInt := by
  unfold m_min
  simp only [i_lt]
  split <;> rfl
theorem m_max_i (a b : Int32) : (m_max a b).toInt = if a.toInt < b.toInt then b.toInt else a.toInt := by
  unfold m_max
  simp only [i_lt]
  split <;> rfl
def m_ent (σ : xw_M) (s d : Nat) : Bool := bt (σ.1 (11 + s) 3) d
def m_jud (σ : xw_M) (s b : Nat) : Int32 := σ.1 (66 + s) (4 * b + 1)
def m_why (σ : xw_M) (F : Nat → tU) (nr s d n : Nat) : Int32 := if m_ent σ s d = false then 1 else if (l_last (m_P σ 1 s d) n).isSome then 2 else if (l_last (m_P σ 2 s d) n).isSome then 3 else if m_out σ s d n then 4 else if m_jud σ s (m_br σ d) = -1 then 5 else if m_bar σ F nr (m_jud σ s (m_br σ d)).toNatClampNeg s d n = -1 then 0 else 6
section WHY
variable {σ0 τ0 : xw_M} {nb nd ns nf live nr sz : Nat} {F : Nat → tU}
theorem qB_out {τ : xw_M} {s d n : Nat} {Z : Int32 → xw_M → Prop} (H : m_C σ0 τ0 nb nd ns nf live nr sz F) (hF : fB τ0 τ) (hd : d < nd) (hn : n ≤ nf) (h : Z (t_b (m_out σ0 s d n)) τ) : xu_X12_isOut τ (nI s) (nI d) (nI n) Z := by
  have w1 := H.2.2.2.2.2.2.1.1
  obtain ⟨m1, m2, m3⟩ := m_brk H hd
  obtain ⟨-, -, -, ⟨b1, b2, b3, b4⟩, ⟨q1, -⟩, -⟩ := id H
  obtain ⟨g1, g2, g3, g4, -⟩ := b4 _ m1
  intro K17 K93 K117 K150 K186 K216 h17 h93 h117 h150 h186 h216
  have scan : ∀ i, i ≤ nf → ∀ (m : Nat) (a b c : Int32), m < 3 → (l_last (m_P σ0 3 s d) i = none → K117 τ (nI m) a b c) → (∀ j, l_last (m_P σ0 3 s d) i = some j → K17 τ (nI (m + 1)) (if m = 0 then τ0.1 41 j else a) (if m = 1 then τ0.1 41 j else b) (if m = 2 then τ0.1 41 j else c) (nI j - 1)) → K17 τ (nI m) a b c (nI i - 1) := by
    intro i
    induction i with
    | zero =>
      intro _ m a b c hm hx _
      apply h17
      exact ⟨fun _ => hx rfl, fun g => absurd (by decide) g⟩
    | succ i ih =>
      intro hi m a b c hm hx hy
      rw [nI_pred]
      apply h17
      have ci : (nI i).toNatClampNeg = i := nI_clamp (by omega)
      have vi : vp_in (nI i) 200 := vp_in_nI (by omega) (by decide)
      have hb := m_PB (s := s) (d := d) (k := 3) H (by decide) (show i < nf by omega)
      simp only [l_last] at hx hy
      unfold xb_X12_isOut_17
      rw [ci, hF.1 38 (by decide) (by decide), hF.1 39 (by decide) (by decide), hF.1 40 (by decide) (by decide), hF.1 41 (by decide) (by decide), i_s1]
      have no : ¬ (τ0.1 38 i = nI 3 ∧ τ0.1 39 i = nI s ∧ τ0.1 40 i = nI d) → K17 τ (nI m) a b c (nI i - 1) := by
        intro cc
        have e : m_P σ0 3 s d i = false := by
          cases e : m_P σ0 3 s d i
          · rfl
          · exact absurd (hb.mpr e) cc
        rw [e] at hx hy
        exact ih (by omega) m a b c hm hx hy
      refine ⟨fun g => absurd g (nI_pos (by omega)), fun _ => ⟨fun g => absurd g (nI_ge (b := 3) hm (by decide)), fun _ => ⟨vi, fun g => no (fun z => g z.1), fun c1 => ⟨vi, fun g => no (fun z => g z.2.1), fun c2 => ⟨vi, fun c3 => ?_, fun g => no (fun z => g z.2.2)⟩⟩⟩⟩⟩
      have e := hb.mp ⟨c1, c2, c3⟩
      rw [e] at hy
      have hy := hy i rfl
      have h93' : ∀ a b c, xb_X12_isOut_93 (nI s) (nI d) (nI n) K17 K93 K117 K150 K186 K216 Z τ (nI m) a b c (nI i) → K93 τ (nI m) a b c (nI i) := fun a b c => h93 τ (nI m) a b c (nI i)
      unfold xb_X12_isOut_93 at h93'
      rw [ci, hF.1 41 (by decide) (by decide), nI_1, i_s1] at h93'
      rcases (show m = 0 ∨ m = 1 ∨ m = 2 by omega) with rfl | rfl | rfl
      · exact ⟨fun g => absurd rfl g, fun _ => ⟨vi, fun _ => h93' _ _ _ ⟨fun _ => hy, fun g => absurd g (by decide)⟩, fun g => absurd g (by decide)⟩⟩
      · exact ⟨fun _ => ⟨fun g => absurd rfl g, fun _ => ⟨vi, h93' _ _ _ ⟨fun _ => hy, fun g => absurd g (by decide)⟩⟩⟩, fun g => absurd g (by decide)⟩
      · exact ⟨fun _ => ⟨fun _ => h93' _ _ _ ⟨fun g => absurd rfl g, fun _ => ⟨vi, hy⟩⟩, fun g => absurd g (by decide)⟩, fun g => absurd g (by decide)⟩
  have fin : ∀ v, (m_l1 σ0 s d n).isSome = true → v = m_held σ0 s d n → K216 τ v := by
    intro v h1 hv
    apply h216
    have cd : (nI d).toNatClampNeg = d := nI_clamp (by omega)
    have vd : vp_in (nI d) 20 := vp_in_nI (by omega) (by decide)
    have vb : vp_in (nI (m_br σ0 d)) 6 := vp_in_nI (by omega) (by decide)
    unfold xb_X12_isOut_216
    rw [cd, hF.1 31 (by decide) (by decide), hF.1 29 (by decide) (by decide), hF.1 30 (by decide) (by decide), m3, nI_clamp (n := m_br σ0 d) (by omega), ← g3, ← g4, hv]
    unfold m_out at h
    rw [h1] at h
    refine ⟨vd, vb, fun z => ⟨Or.inr rfl, ?_⟩, fun z => ⟨vd, vb, fun z2 => ⟨Or.inl rfl, ?_⟩, fun z2 => ⟨Or.inr rfl, ?_⟩⟩⟩
    · simpa [z, t_b] using h
    · have z3 : ¬ σ0.1 33 (m_br σ0 d) < m_held σ0 s d n := by rw [i_lt]; rw [i_le] at z2; omega
      simpa [z, z3, t_b] using h
    · have z3 : σ0.1 33 (m_br σ0 d) < m_held σ0 s d n := by rw [i_lt]; rw [i_le] at z2; omega
      simpa [z, z3, t_b] using h
  show K17 τ (nI 0) 0 0 0 (nI n - 1)
  refine scan n hn 0 0 0 0 (by decide) (fun e1 => ?_) (fun j1 e1 => ?_)
  · apply h117
    refine ⟨fun g => absurd rfl g, fun _ => ⟨Or.inl rfl, ?_⟩⟩
    have : m_out σ0 s d n = false := by
      unfold m_out
      rw [show m_l1 σ0 s d n = none from e1]
      rfl
    rw [this] at h
    exact h
  · have l1 : m_l1 σ0 s d n = some j1 := e1
    obtain ⟨x1, x2, x3, x4⟩ := m_last_v H hn e1
    simp only [if_true, Nat.zero_ne_one, if_false, show ¬ (0 : Nat) = 2 by decide]
    have fin := fun v => fin v (by rw [l1]; rfl)
    refine scan j1 (by omega) 1 _ _ _ (by decide) (fun e2 => ?_) (fun j2 e2 => ?_)
    · apply h117
      refine ⟨fun _ => ⟨fun _ => h150 _ _ _ _ _ _ ⟨fun _ => fin _ ?_, fun g => absurd g (by decide)⟩, fun g => absurd g (by decide)⟩, fun g => absurd g (by decide)⟩
      unfold m_held m_l2
      rw [l1]
      show τ0.1 41 j1 = match l_last (m_P σ0 3 s d) j1 with | none => σ0.1 42 j1 | some j => _
      rw [e2]
      exact x2
    · obtain ⟨y1, y2, y3, y4⟩ := m_last_v H (by omega) e2
      have l2 : m_l2 σ0 s d n = some j2 := by unfold m_l2; rw [l1]; exact e2
      simp only [if_true, Nat.one_ne_zero, if_false, show ¬ (1 : Nat) = 2 by decide]
      refine scan j2 (by omega) 2 _ _ _ (by decide) (fun e3 => ?_) (fun j3 e3 => ?_)
      · apply h117
        have l3 : m_l3 σ0 s d n = none := by unfold m_l3; rw [l2]; exact e3
        have hv : m_held σ0 s d n = m_min (σ0.1 42 j1) (σ0.1 42 j2) := by
          unfold m_held
          rw [l2, l3, l1]
          rfl
        rw [x2, y2]
        refine ⟨fun _ => ⟨fun g => absurd rfl g, fun _ => ⟨fun g => h150 _ _ _ _ _ _ ⟨fun _ => fin _ ?_, fun g => absurd g (by decide)⟩, fun g => h150 _ _ _ _ _ _ ⟨fun _ => fin _ ?_, fun g => absurd g (by decide)⟩⟩⟩, fun g => absurd g (by decide)⟩
        · rw [hv, i_eq, m_min_i]
          rw [i_le] at g
          split <;> omega
        · rw [hv, i_eq, m_min_i]
          rw [i_le] at g
          split <;> omega
      · obtain ⟨z1, z2, z3, z4⟩ := m_last_v H (by omega) e3
        have l3 : m_l3 σ0 s d n = some j3 := by unfold m_l3; rw [l2]; exact e3
        have hv : m_held σ0 s d n = m_max (m_min (σ0.1 42 j1) (σ0.1 42 j2)) (m_min (m_max (σ0.1 42 j1) (σ0.1 42 j2)) (σ0.1 42 j3)) := by
          unfold m_held
          rw [l2, l3, l1]
          rfl
        simp only [if_true, show ¬ (2 : Nat) = 0 by decide, if_false, show ¬ (2 : Nat) = 1 by decide]
        rw [x2, y2, z2]
        generalize σ0.1 42 j1 = a at *
        generalize σ0.1 42 j2 = b at *
        generalize σ0.1 42 j3 = c at *
        have hvi := congrArg Int32.toInt hv
        simp only [m_max_i, m_min_i] at hvi
        have last : K117 τ (nI 3) a b c := by
          apply h117
          refine ⟨fun _ => ⟨fun _ => h150 _ _ _ _ _ _ ⟨fun g => absurd rfl g, fun _ => ?_⟩, fun g => absurd g (by decide)⟩, fun g => absurd g (by decide)⟩
          refine ⟨fun g => ⟨fun _ => h186 _ _ _ _ ⟨fun y => ⟨fun u => fin _ ?_, fun u => fin _ ?_⟩, fun y => fin _ ?_⟩, fun u => absurd g u⟩, fun g => ⟨fun u => absurd u g, fun _ => h186 _ _ _ _ ⟨fun y => ⟨fun u => fin _ ?_, fun u => fin _ ?_⟩, fun y => fin _ ?_⟩⟩⟩
          all_goals rw [i_eq, hvi]
          all_goals simp only [i_le] at *
          all_goals repeat' split
          all_goals omega
        apply h17
        exact ⟨fun _ => last, fun _ => ⟨fun _ => last, fun g => absurd (nI_le (Nat.le_refl 3) (by decide)) g⟩⟩
theorem qA_entry {σ : xw_M} {s d : Nat} {Z : Int32 → xw_M → Prop} (hd : d < 20) (h1 : bt (σ.1 (11 + s) 3) d = true → Z 1 σ) (h0 : bt (σ.1 (11 + s) 3) d = false → Z 0 σ) : xu_X7_hasEntry σ s (nI d) Z := by
  refine pA_within (fun _ _ => ⟨fun g => absurd g (by decide), fun _ => ⟨fun g => ⟨Or.inl rfl, h0 ?_⟩, fun g => ⟨Or.inr rfl, h1 ?_⟩⟩⟩) (fun g => absurd ⟨by rw [i_0, i_nI (by omega)]; omega, by show (nI d).toInt ≤ (nI 19).toInt; rw [i_nI (by omega), i_nI (by decide)]; omega⟩ g)
  · rw [bt_test _ (by omega)] at g
    cases e : bt (σ.1 (11 + s) 3) d
    · rfl
    · exact absurd e g
  · rwa [bt_test _ (by omega)] at g
theorem m_judk (H : m_C σ0 τ0 nb nd ns nf live nr sz F) {s b : Nat} (hs : s < 5) (hb : b < 6) : τ0.1 45 (6 * s + b) = m_jud σ0 s b ∧ (m_jud σ0 s b = -1 ∨ ∃ k : Nat, k < 12 ∧ m_jud σ0 s b = nI k) := by
  obtain ⟨-, -, -, -, -, -, -, h10, -⟩ := H
  obtain ⟨e, g⟩ := h10 s hs b hb
  refine ⟨e.symm, ?_⟩
  rcases g with g | g
  · exact Or.inl g.2.1
  · exact Or.inr g.2.2.2.2.2.2.1
theorem qA_why {σ : xw_M} {s d n : Nat} {Z : Int32 → xw_M → Prop} (H : m_C σ0 τ0 nb nd ns nf live nr sz F) (hF : fA σ0 σ) (hs : s < ns) (hd : d < nd) (hn : n ≤ nf) (h : ∀ σ1, fA σ0 σ1 → Z (m_why σ0 F nr s d n) σ1) : xu_X5_standing σ s (nI d) (nI n) Z := by
  have w1 := H.2.2.2.2.2.2.1.1
  obtain ⟨m1, m2, m3⟩ := m_brk H hd
  obtain ⟨-, -, -, ⟨b1, b2, b3, b4⟩, ⟨q1, -⟩, ⟨p1, p2, p3, p4, p5, p6⟩, -⟩ := id H
  obtain ⟨g1, g2, g3, g4, g5⟩ := b4 _ m1
  have num : ∀ σ', fA σ0 σ' → σ'.1 (11 + s) 0 = nI s := fun σ' f => by rw [f (11 + s) (by omega) (by omega)]; exact p4 s (by omega)
  have ent : ∀ σ', fA σ0 σ' → bt (σ'.1 (11 + s) 3) d = m_ent σ0 s d := fun σ' f => by rw [f (11 + s) (by omega) (by omega)]; rfl
  intro K98 h98
  have ne : ∀ j : Nat, j < nf → ¬ o_ix (some j) = -1 := by
    intro j hj
    show ¬ nI j = -1
    rw [i_eq, i_nI (by omega), i_m1]
    omega
  unfold m_why at h
  refine qA_entry (by omega) (fun e0 => ?_) (fun e0 => ⟨fun g => absurd rfl g, fun _ => ?_⟩)
  · rw [ent σ hF] at e0
    rw [e0] at h
    refine ⟨fun _ => ?_, fun g => absurd g (by decide)⟩
    rw [num σ hF]
    refine qA_last (k := 1) (o := some n) H hF (fun m e => by cases e; exact hn) ?_
    show _ ∧ _
    rw [show l_lastO (m_P σ0 1 s d) (some n) = l_last (m_P σ0 1 s d) n from rfl]
    cases e1 : l_last (m_P σ0 1 s d) n with
    | some j =>
      rw [e1] at h
      exact ⟨fun g => absurd g (ne j (by have := (l_last_some e1).1; omega)), fun _ => h σ hF⟩
    | none =>
      rw [e1] at h
      refine ⟨fun _ => ?_, fun g => absurd rfl g⟩
      rw [num σ hF]
      refine qA_last (k := 2) (o := some n) H hF (fun m e => by cases e; exact hn) ?_
      show _ ∧ _
      rw [show l_lastO (m_P σ0 2 s d) (some n) = l_last (m_P σ0 2 s d) n from rfl]
      cases e2 : l_last (m_P σ0 2 s d) n with
      | some j =>
        rw [e2] at h
        exact ⟨fun g => absurd g (ne j (by have := (l_last_some e2).1; omega)), fun _ => h σ hF⟩
      | none =>
        rw [e2] at h
        refine ⟨fun _ => ⟨vp_in_nI (by omega) (by decide), ?_⟩, fun g => absurd rfl g⟩
        rw [num σ hF, nI_clamp (n := d) (by omega), hF 34 (by decide) (by decide), m2]
        refine qA_held H hF hn ?_
        have go : m_out σ0 s d n = false → K98 σ (nI (m_br σ0 d)) := by
          intro e3
          rw [e3] at h
          apply h98
          have ej : σ.1 (66 + s) (4 * m_br σ0 d + 1) = m_jud σ0 s (m_br σ0 d) := by rw [hF (66 + s) (by omega) (by omega)]; rfl
          have jk := (m_judk H (show s < 5 by omega) (show m_br σ0 d < 6 by omega)).2
          refine pA_has (by omega) (fun g => ⟨fun _ => ?_, fun z => absurd z (by decide)⟩) (fun g => ⟨fun z => absurd rfl z, fun _ => ?_⟩)
          · rw [ej] at g
            refine pA_at (w := 1) (by omega) (by decide) ?_
            rw [ej]
            rcases jk with jk | ⟨p, hp, ep⟩
            · exact absurd jk g
            · rw [ep] at h ⊢
              rw [nI_clamp (by omega)] at h
              have gp : ¬ nI p = -1 := by rw [← ep]; exact g
              refine qA_bar H hF hp hs hd hn (fun σ1 F1 => ⟨fun z => ?_, fun z => ?_⟩)
              · have := h σ1 F1
                simpa [gp, z] using this
              · have := h σ1 F1
                simpa [gp, z] using this
          · rw [ej] at g
            have := h σ hF
            simpa [g] using this
        unfold m_out at go h
        cases e3 : m_l1 σ0 s d n with
        | none =>
          have hh : m_held σ0 s d n = -1 := by
            unfold m_held m_l2
            rw [e3]
            rfl
          rw [e3] at go
          rw [hh]
          exact ⟨fun _ => go rfl, fun g => absurd rfl g⟩
        | some j =>
          rw [e3] at go h
          have hh : 0 ≤ (m_held σ0 s d n).toInt := by
            unfold m_held
            have o1 : 0 ≤ (m_vo σ0 (m_l1 σ0 s d n)).toInt := by rw [e3]; exact (m_last_v H hn e3).2.2.1
            cases e4 : m_l2 σ0 s d n with
            | none => exact o1
            | some j2 =>
              have k1 := m_l1k (nf := nf) hn j e3
              have o2 : 0 ≤ (σ0.1 42 j2).toInt := by
                unfold m_l2 at e4
                rw [e3] at e4
                exact (m_last_v H (by omega) e4).2.2.1
              cases e5 : m_l3 σ0 s d n with
              | none => show 0 ≤ (m_min _ _).toInt; rw [m_min_i]; split <;> omega
              | some j3 =>
                have k2 := m_l2k (nf := nf) hn j2 e4
                have o3 : 0 ≤ (σ0.1 42 j3).toInt := by
                  unfold m_l3 at e5
                  rw [e4] at e5
                  exact (m_last_v H (by omega) e5).2.2.1
                show 0 ≤ (m_max (m_min _ _) (m_min (m_max _ _) _)).toInt
                rw [m_max_i, m_min_i, m_min_i, m_max_i]
                repeat' split
                all_goals omega
          refine ⟨fun g => absurd g (by rw [i_eq, i_m1]; omega), fun _ => ?_⟩
          have e11 : (σ.1 4 11 - 1).toInt = (nb : Int) - 1 := by
            rw [hF 4 (by decide) (by decide), b2, i_sub (by rw [i_nI (by omega), i_1]; omega) (by rw [i_nI (by omega), i_1]; omega), i_nI (by omega), i_1]
          have vb : vp_in (nI (m_br σ0 d)) 6 := vp_in_nI (by omega) (by decide)
          refine pA_within (fun _ _ => ⟨fun g => absurd g (by decide), fun _ => ⟨vb, vb, ?_⟩⟩) (fun g => absurd ⟨by rw [i_0, i_nI (by omega)]; omega, by rw [e11, i_nI (by omega)]; omega⟩ g)
          rw [nI_clamp (n := m_br σ0 d) (by omega), hF 32 (by decide) (by decide), hF 33 (by decide) (by decide)]
          simp only [Option.isSome_some, Bool.true_and, Bool.or_eq_false_iff, decide_eq_false_iff_not, i_lt] at go
          refine pA_within (fun y1 y2 => ⟨fun g => absurd g (by decide), fun _ => ⟨Or.inr rfl, fun _ => go ⟨by omega, by omega⟩, fun g => absurd g (by decide)⟩⟩) (fun y => ⟨fun _ => ⟨Or.inl rfl, fun g => absurd rfl g, fun _ => ?_⟩, fun g => absurd rfl g⟩)
          have t : (decide (m_held σ0 s d n < σ0.1 32 (m_br σ0 d)) || decide (σ0.1 33 (m_br σ0 d) < m_held σ0 s d n)) = true := by
            simp only [Bool.or_eq_true, decide_eq_true_iff, i_lt]
            omega
          have := h σ hF
          rw [t] at this
          exact this
  · rw [ent σ hF] at e0
    rw [e0] at h
    exact h σ hF
theorem m_entB (H : m_C σ0 τ0 nb nd ns nf live nr sz F) {s d : Nat} (hs : s < ns) (hd : d < nd) : τ0.1 37 (20 * s + d) = t_b (m_ent σ0 s d) := by
  obtain ⟨-, -, -, -, ⟨q1, -⟩, ⟨p1, p2, p3, p4, p5, p6⟩, -⟩ := H
  exact (p6 s (by omega) d (by omega)).2 (by omega)
theorem qB_why {τ : xw_M} {s d n : Nat} {Z : Int32 → xw_M → Prop} (H : m_C σ0 τ0 nb nd ns nf live nr sz F) (hF : fB τ0 τ) (hs : s < ns) (hd : d < nd) (hn : n ≤ nf) (h : ∀ τ1, fB τ0 τ1 → Z (m_why σ0 F nr s d n) τ1) : xu_X12_whyOf τ (nI s) (nI d) (nI n) Z := by
  have w1 := H.2.2.2.2.2.2.1.1
  obtain ⟨m1, m2, m3⟩ := m_brk H hd
  obtain ⟨-, -, -, ⟨b1, b2, b3, b4⟩, ⟨q1, -⟩, ⟨p1, p2, p3, p4, p5, p6⟩, -⟩ := id H
  unfold xu_X12_whyOf
  rw [ix20, nI_clamp (by omega), hF.1 37 (by decide) (by decide), m_entB H hs hd]
  refine ⟨vp_in_nI (by omega) (by decide), fun e0 => ?_, fun e0 => ?_⟩
  · have e0 : m_ent σ0 s d = true := by
      cases e : m_ent σ0 s d
      · rw [e] at e0; exact absurd rfl e0
      · rfl
    unfold m_why at h
    rw [e0] at h
    refine qB_told (k := 1) H hF (by decide) hn ⟨fun e1 => ?_, fun e1 => ?_⟩
    · have e1 : (l_last (m_P σ0 1 s d) n).isSome = false := by
        cases e : (l_last (m_P σ0 1 s d) n).isSome
        · rfl
        · rw [e] at e1; exact absurd e1 (by decide)
      rw [e1] at h
      refine qB_told (k := 2) H hF (by decide) hn ⟨fun e2 => ?_, fun e2 => ?_⟩
      · have e2 : (l_last (m_P σ0 2 s d) n).isSome = false := by
          cases e : (l_last (m_P σ0 2 s d) n).isSome
          · rfl
          · rw [e] at e2; exact absurd e2 (by decide)
        rw [e2] at h
        refine qB_out H hF hd hn ⟨fun e3 => ⟨vp_in_nI (by omega) (by decide), ?_⟩, fun e3 => ?_⟩
        · have e3 : m_out σ0 s d n = false := by
            cases e : m_out σ0 s d n
            · rfl
            · rw [e] at e3; exact absurd e3 (by decide)
          rw [e3] at h
          have jk := m_judk H (show s < 5 by omega) (show m_br σ0 d < 6 by omega)
          rw [nI_clamp (n := d) (by omega), hF.1 31 (by decide) (by decide), m3, ix6, nI_clamp (n := 6 * s + m_br σ0 d) (by omega), hF.1 45 (by decide) (by decide), jk.1]
          refine ⟨vp_in_nI (by omega) (by decide), fun x7 e7 => ⟨fun g => ?_, fun g => ?_⟩⟩
          · rw [e7] at g
            rcases jk.2 with jk | ⟨p, hp, ep⟩
            · exact absurd jk g
            · rw [e7, ep]
              rw [ep] at h g
              rw [nI_clamp (by omega)] at h
              refine qB_bar H hF hp hs hd hn (fun τ1 F1 => ⟨fun z => ?_, fun z => ?_⟩)
              · have := h τ1 F1
                simpa [g, z] using this
              · have := h τ1 F1
                simpa [g, z] using this
          · rw [e7] at g
            have := h τ hF
            simpa [g] using this
        · have e3 : m_out σ0 s d n = true := by
            cases e : m_out σ0 s d n
            · rw [e] at e3; exact absurd rfl e3
            · rfl
          rw [e3] at h
          exact h τ hF
      · have e2 : (l_last (m_P σ0 2 s d) n).isSome = true := by
          cases e : (l_last (m_P σ0 2 s d) n).isSome
          · rw [e] at e2; exact absurd rfl e2
          · rfl
        rw [e2] at h
        exact h τ hF
    · have e1 : (l_last (m_P σ0 1 s d) n).isSome = true := by
        cases e : (l_last (m_P σ0 1 s d) n).isSome
        · rw [e] at e1; exact absurd rfl e1
        · rfl
      rw [e1] at h
      exact h τ hF
  · have e0 : m_ent σ0 s d = false := by
      cases e : m_ent σ0 s d
      · rfl
      · rw [e] at e0; exact absurd e0 (by decide)
    unfold m_why at h
    rw [e0] at h
    exact h τ hF
end WHY
