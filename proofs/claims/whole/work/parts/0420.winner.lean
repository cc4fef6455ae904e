/-! THE WINNER -/
def m_ah (σ : xw_M) (f g : Nat) : Bool := decide (σ.1 42 f < σ.1 42 g) || (decide (σ.1 42 f = σ.1 42 g) && decide (f < g))
def m_step (σ : xw_M) (F : Nat → tU) (nr s b n d : Nat) (o : Option (Nat × Nat)) : Option (Nat × Nat) := if m_br σ d = b ∧ m_why σ F nr s d n = 0 then (match l_last (m_P σ 0 s d) n with
    | none => o
    | some f => match o with
      | none => some (d, f)
      | some (d', g) => if m_ah σ f g then some (d, f) else some (d', g)) else o
def m_win (σ : xw_M) (F : Nat → tU) (nr s b n : Nat) : Nat → Option (Nat × Nat)
  | 0 => none
  | d + 1 => m_step σ F nr s b n d (m_win σ F nr s b n d)
def w_d : Option (Nat × Nat) → Int32
  | none => -1
  | some (d, _) => nI d
def w_fB : Option (Nat × Nat) → Int32
  | none => 0
  | some (_, f) => nI f
def m_winner (σ : xw_M) (F : Nat → tU) (nr nd s b n : Nat) : Int32 := w_d (m_win σ F nr s b n nd)
theorem m_win_some {σ : xw_M} {F : Nat → tU} {nr s b n : Nat} : ∀ {k d g : Nat}, m_win σ F nr s b n k = some (d, g) → d < k ∧ m_br σ d = b ∧ m_why σ F nr s d n = 0 ∧ l_last (m_P σ 0 s d) n = some g := by
  intro k
  induction k with
  | zero => intro d g h; cases h
  | succ k ih =>
    intro d g h
    simp only [m_win, m_step] at h
    by_cases c : m_br σ k = b ∧ m_why σ F nr s k n = 0
    · rw [if_pos c] at h
      cases e : l_last (m_P σ 0 s k) n with
      | none =>
        rw [e] at h
        have := ih h
        exact ⟨by omega, this.2⟩
      | some f =>
        rw [e] at h
        cases e2 : m_win σ F nr s b n k with
        | none =>
          rw [e2] at h
          cases h
          exact ⟨Nat.lt_succ_self _, c.1, c.2, e⟩
        | some q =>
          obtain ⟨d', g'⟩ := q
          rw [e2] at h
          simp only at h
          by_cases c2 : m_ah σ f g' = true
          · rw [if_pos c2] at h
            cases h
            exact ⟨Nat.lt_succ_self _, c.1, c.2, e⟩
          · rw [if_neg c2] at h
            cases h
            have := ih e2
            exact ⟨by omega, this.2⟩
    · rw [if_neg c] at h
      have := ih h
      exact ⟨by omega, this.2⟩
section WINNER
variable {σ0 τ0 : xw_M} {nb nd ns nf live nr sz : Nat} {F : Nat → tU}
theorem o_ne {j : Nat} (hj : j < 2 ^ 31) : ¬ o_ix (some j) = -1 := by
  show ¬ nI j = -1
  rw [i_eq, i_nI (by omega), i_m1]
  omega
theorem m_Pd {σ : xw_M} {k s d i : Nat} (h : m_P σ k s d i = true) : σ.1 41 i = nI d := by
  unfold m_P at h
  rw [decide_eq_true_iff] at h
  exact h.2.2
theorem qA_winner {σ : xw_M} {s b n : Nat} {Z : Int32 → xw_M → Prop} (H : m_C σ0 τ0 nb nd ns nf live nr sz F) (hF : fA σ0 σ) (hs : s < ns) (hb : b < 100) (hn : n ≤ nf) (h : ∀ σ1, fA σ0 σ1 → Z (m_winner σ0 F nr nd s b n) σ1) : xu_X5_winnerOf σ s (nI b) (nI n) Z := by
  have w1 := H.2.2.2.2.2.2.1.1
  obtain ⟨-, -, -, ⟨b1, -⟩, ⟨q1, q2, -⟩, ⟨p1, p2, p3, p4, p5, p6⟩, -⟩ := id H
  intro K9 K74 h9 h74
  have key : ∀ (k i : Nat) (σ' : xw_M), i + k = nd → fA σ0 σ' → K9 σ' (w_d (m_win σ0 F nr s b n i)) (o_ix ((m_win σ0 F nr s b n i).map Prod.snd)) (nI i) := by
    intro k
    induction k with
    | zero =>
      intro i σ' hi hF'
      obtain rfl : i = nd := by omega
      apply h9
      unfold xb_X5_winnerOf_9
      rw [hF' 4 (by decide) (by decide), q2]
      exact ⟨fun _ => h σ' hF', fun g => absurd (nI_le (Nat.le_refl i) (by omega)) g⟩
    | succ k ih =>
      intro i σ' hi hF'
      have hid : i < nd := by omega
      obtain ⟨m1, m2, m3⟩ := m_brk H hid
      have next := fun σ1 f1 => ih (i + 1) σ1 (by omega) f1
      simp only [m_win] at next
      rw [← nI_1] at next
      apply h9
      unfold xb_X5_winnerOf_9
      rw [hF' 4 (by decide) (by decide), q2, hF' (11 + s) (by omega) (by omega), show σ0.1 (11 + s) 0 = nI s from p4 s (by omega)]
      refine ⟨fun g => absurd g (nI_ge hid (by omega)), fun _ => ?_⟩
      refine qA_last (k := 0) (o := some n) H hF' (fun m e => by cases e; exact hn) ⟨vp_in_nI (by omega) (by decide), ?_⟩
      rw [nI_clamp (n := i) (by omega), hF' 34 (by decide) (by decide), m2, show l_lastO (m_P σ0 0 s i) (some n) = l_last (m_P σ0 0 s i) n from rfl]
      have stay : m_step σ0 F nr s b n i (m_win σ0 F nr s b n i) = m_win σ0 F nr s b n i → ∀ v7, K74 σ' 0 (w_d (m_win σ0 F nr s b n i)) (o_ix ((m_win σ0 F nr s b n i).map Prod.snd)) (nI i) v7 := by
        intro e v7
        apply h74
        rw [e] at next
        exact ⟨fun _ => next σ' hF', fun g => absurd rfl g⟩
      refine ⟨fun g => stay ?_ _, fun g => ?_⟩
      · unfold m_step
        rw [if_neg (fun z => g (by rw [z.1]))]
      · have eb : m_br σ0 i = b := (nI_eq (by omega) (by omega)).mp g
        cases el : l_last (m_P σ0 0 s i) n with
        | none =>
          refine ⟨fun _ => stay ?_ _, fun z => absurd rfl z⟩
          unfold m_step
          rw [el]
          split <;> rfl
        | some f =>
          obtain ⟨f1, f2, -⟩ := l_last_some el
          refine ⟨fun z => absurd z (o_ne (by omega)), fun _ => ?_⟩
          have go : (∀ o', o' = m_step σ0 F nr s b n i (m_win σ0 F nr s b n i) → m_why σ0 F nr s i n = 0 → o' = some (i, f)) → K74 σ' 1 (w_d (m_win σ0 F nr s b n i)) (o_ix ((m_win σ0 F nr s b n i).map Prod.snd)) (nI i) (o_ix (some f)) := by
            intro ho
            apply h74
            refine ⟨fun z => absurd z (by decide), fun _ => ?_⟩
            refine qA_why H hF' hs hid hn (fun σ1 F1 => ⟨fun z => ?_, fun z => ?_⟩)
            · have e : m_step σ0 F nr s b n i (m_win σ0 F nr s b n i) = m_win σ0 F nr s b n i := by
                unfold m_step
                rw [if_neg (fun y => z y.2)]
              rw [e] at next
              exact next σ1 F1
            · have e := ho _ rfl z
              rw [e] at next
              exact next σ1 F1
          cases ep : m_win σ0 F nr s b n i with
          | none =>
            rw [ep] at go
            refine qA_valueAt (o := some f) H hF' (fun m e => by cases e; omega) (qA_valueAt (o := none) H hF' (fun m e => by cases e) ⟨fun _ => ⟨Or.inr rfl, fun z => absurd z (by decide), fun _ => go ?_⟩, fun z => absurd rfl z⟩)
            intro o' e z
            rw [e]
            unfold m_step
            rw [if_pos ⟨eb, z⟩, el]
          | some q =>
            obtain ⟨d', g'⟩ := q
            obtain ⟨x1, x2, x3, x4⟩ := m_win_some ep
            have x5 := (l_last_some x4).1
            rw [ep] at go stay
            refine qA_valueAt (o := some f) H hF' (fun m e => by cases e; omega) (qA_valueAt (o := some g') H hF' (fun m e => by cases e; omega) ⟨fun z => absurd z (o_ne (by omega)), fun _ => ?_⟩)
            have yes : m_ah σ0 f g' = true → K74 σ' 1 (w_d (some (d', g'))) (o_ix (Option.map Prod.snd (some (d', g')))) (nI i) (o_ix (some f)) := by
              intro y
              refine go (fun o' e z => ?_)
              rw [e]
              unfold m_step
              rw [if_pos ⟨eb, z⟩, el]
              simp only
              rw [if_pos y]
            have no : m_ah σ0 f g' = false → K74 σ' 0 (w_d (some (d', g'))) (o_ix (Option.map Prod.snd (some (d', g')))) (nI i) (o_ix (some f)) := by
              intro y
              refine stay ?_ _
              unfold m_step
              rw [el]
              simp only
              rw [if_neg (c := m_ah σ0 f g' = true) (by rw [y]; decide)]
              split <;> rfl
            refine ⟨fun c => ⟨Or.inr rfl, fun z => absurd z (by decide), fun _ => yes ?_⟩, fun c => ⟨fun c2 => ⟨Or.inl rfl, fun _ => no ?_, fun z => absurd rfl z⟩, fun c2 => ⟨fun c3 => ⟨Or.inl rfl, fun _ => no ?_, fun z => absurd rfl z⟩, fun c3 => ⟨Or.inr rfl, fun z => absurd z (by decide), fun _ => yes ?_⟩⟩⟩⟩
            · change σ0.1 42 f < σ0.1 42 g' at c
              simp [m_ah, c]
            · change ¬ σ0.1 42 f < σ0.1 42 g' at c
              change ¬ σ0.1 42 f = σ0.1 42 g' at c2
              simp [m_ah, c, c2]
            · change ¬ σ0.1 42 f < σ0.1 42 g' at c
              have : ¬ f < g' := by have := (nI_leI (a := g') (b := f) (by omega) (by omega)).mp c3; omega
              simp [m_ah, c, this]
            · change σ0.1 42 f = σ0.1 42 g' at c2
              have : f < g' := by
                rcases Nat.lt_or_ge f g' with q | q
                · exact q
                · exact absurd ((nI_leI (a := g') (b := f) (by omega) (by omega)).mpr q) c3
              simp [m_ah, c2, this]
  exact key nd 0 σ (by omega) hF
theorem qB_winner {τ : xw_M} {s b n : Nat} {Z : Int32 → xw_M → Prop} (H : m_C σ0 τ0 nb nd ns nf live nr sz F) (hF : fB τ0 τ) (hs : s < ns) (hb : b < 100) (hn : n ≤ nf) (h : ∀ τ1, fB τ0 τ1 → Z (m_winner σ0 F nr nd s b n) τ1) : xu_X12_winnerOf τ (nI s) (nI b) (nI n) Z := by
  have w1 := H.2.2.2.2.2.2.1.1
  obtain ⟨-, -, -, ⟨b1, -⟩, ⟨q1, q2, q3, -⟩, ⟨p1, p2, p3, p4, p5, p6⟩, ⟨-, -, -, w4⟩, -⟩ := id H
  intro K9 K49 h9 h49
  have key : ∀ (k i : Nat) (τ' : xw_M), i + k = nd → fB τ0 τ' → K9 τ' (w_d (m_win σ0 F nr s b n i)) (w_fB (m_win σ0 F nr s b n i)) (nI i) := by
    intro k
    induction k with
    | zero =>
      intro i τ' hi hF'
      obtain rfl : i = nd := by omega
      apply h9
      unfold xb_X12_winnerOf_9
      rw [hF'.1 0 (by decide) (by decide), q3]
      exact ⟨fun _ => h τ' hF', fun g => absurd (nI_le (Nat.le_refl i) (by omega)) g⟩
    | succ k ih =>
      intro i τ' hi hF'
      have hid : i < nd := by omega
      obtain ⟨m1, m2, m3⟩ := m_brk H hid
      have next := fun σ1 f1 => ih (i + 1) σ1 (by omega) f1
      simp only [m_win] at next
      rw [← nI_1] at next
      apply h9
      unfold xb_X12_winnerOf_9
      rw [hF'.1 0 (by decide) (by decide), q3, nI_clamp (n := i) (by omega), hF'.1 31 (by decide) (by decide), m3]
      refine ⟨fun g => absurd g (nI_ge hid (by omega)), fun _ => ⟨vp_in_nI (by omega) (by decide), fun g => ?_, fun g => ?_⟩⟩
      · have e : m_step σ0 F nr s b n i (m_win σ0 F nr s b n i) = m_win σ0 F nr s b n i := by
          unfold m_step
          rw [if_neg (fun z => g (by rw [z.1]))]
        rw [e] at next
        exact next τ' hF'
      · have eb : m_br σ0 i = b := (nI_eq (by omega) (by omega)).mp g
        refine qB_why H hF' hs hid hn (fun τ1 F1 => ⟨fun z => ?_, fun z => ?_⟩)
        · have inner : ∀ (k j : Nat), j + k = n → K49 τ1 (w_d (m_win σ0 F nr s b n i)) (w_fB (m_win σ0 F nr s b n i)) (nI i) (o_ix (l_last (m_P σ0 0 s i) j)) (nI j) := by
            intro k
            induction k with
            | zero =>
              intro j hj
              obtain rfl : j = n := by omega
              apply h49
              refine ⟨fun _ => ?_, fun g => absurd (nI_le (Nat.le_refl j) (by omega)) g⟩
              cases el : l_last (m_P σ0 0 s i) j with
              | none =>
                have e : m_step σ0 F nr s b j i (m_win σ0 F nr s b j i) = m_win σ0 F nr s b j i := by
                  unfold m_step
                  rw [el]
                  split <;> rfl
                rw [e] at next
                exact ⟨fun _ => next τ1 F1, fun z => absurd rfl z⟩
              | some f =>
                obtain ⟨f1, f2, -⟩ := l_last_some el
                refine ⟨fun z => absurd z (o_ne (by omega)), fun _ => ?_⟩
                cases ep : m_win σ0 F nr s b j i with
                | none =>
                  have e : m_step σ0 F nr s b j i none = some (i, f) := by
                    unfold m_step
                    rw [if_pos ⟨eb, z⟩, el]
                  rw [ep, e] at next
                  exact ⟨fun _ => next τ1 F1, fun z => absurd rfl z⟩
                | some q =>
                  obtain ⟨d', g'⟩ := q
                  obtain ⟨x1, x2, x3, x4⟩ := m_win_some ep
                  obtain ⟨x5, x6, -⟩ := l_last_some x4
                  have hne : f ≠ g' := by
                    intro ef
                    subst ef
                    have := (m_Pd f2).symm.trans (m_Pd x6)
                    have := (nI_eq (by omega) (by omega)).mp this
                    omega
                  have vf : vp_in (o_ix (some f)) 200 := (show vp_in (nI f) 200 from vp_in_nI (by omega) (by decide))
                  have vg : vp_in (w_fB (some (d', g'))) 200 := (show vp_in (nI g') 200 from vp_in_nI (by omega) (by decide))
                  have ef : τ1.1 41 (o_ix (some f)).toNatClampNeg = σ0.1 42 f := by
                    show τ1.1 41 (nI f).toNatClampNeg = _
                    rw [nI_clamp (by omega), F1.1 41 (by decide) (by decide)]
                    exact (w4 f (by omega)).2.2.1.symm
                  have eg : τ1.1 41 (w_fB (some (d', g'))).toNatClampNeg = σ0.1 42 g' := by
                    show τ1.1 41 (nI g').toNatClampNeg = _
                    rw [nI_clamp (by omega), F1.1 41 (by decide) (by decide)]
                    exact (w4 g' (by omega)).2.2.1.symm
                  have es : m_step σ0 F nr s b j i (some (d', g')) = if m_ah σ0 f g' then some (i, f) else some (d', g') := by
                    unfold m_step
                    rw [if_pos ⟨eb, z⟩, el]
                  rw [ep, es] at next
                  rw [ef, eg]
                  have yes : m_ah σ0 f g' = true → K9 τ1 (nI i) (o_ix (some f)) (nI i + 1) := by
                    intro y
                    rw [if_pos y] at next
                    exact next τ1 F1
                  have no : m_ah σ0 f g' = false → K9 τ1 (w_d (some (d', g'))) (w_fB (some (d', g'))) (nI i + 1) := by
                    intro y
                    rw [if_neg (by rw [y]; decide)] at next
                    exact next τ1 F1
                  refine ⟨fun y => absurd y (by show ¬ nI d' = -1; rw [i_eq, i_nI (by omega), i_m1]; omega), fun _ => ⟨vf, vg, fun c => no ?_, fun c => ⟨vf, vg, fun c2 => yes ?_, fun c2 => ⟨fun c3 => yes ?_, fun c3 => no ?_⟩⟩⟩⟩
                  · have c1 : ¬ σ0.1 42 f < σ0.1 42 g' := by rw [i_lt] at *; omega
                    have c2 : ¬ σ0.1 42 f = σ0.1 42 g' := by rw [i_eq]; rw [i_lt] at c; omega
                    simp [m_ah, c1, c2]
                  · have c1 : σ0.1 42 f < σ0.1 42 g' := by rw [i_eq] at c2; rw [i_lt] at *; omega
                    simp [m_ah, c1]
                  · have c1 : f < g' := by
                      have := (nI_leI (a := f) (b := g') (by omega) (by omega)).mp c3
                      omega
                    simp [m_ah, c2, c1]
                  · have c1 : ¬ f < g' := by
                      intro z
                      exact c3 ((nI_leI (a := f) (b := g') (by omega) (by omega)).mpr (by omega))
                    have c4 : ¬ σ0.1 42 f < σ0.1 42 g' := by rw [c2, i_lt]; omega
                    simp [m_ah, c4, c1]
            | succ k ih2 =>
              intro j hj
              have next2 := ih2 (j + 1) (by omega)
              apply h49
              have cj : (nI j).toNatClampNeg = j := nI_clamp (by omega)
              have vj : vp_in (nI j) 200 := vp_in_nI (by omega) (by decide)
              have hb := m_PB (s := s) (d := i) (k := 0) H (by decide) (show j < nf by omega)
              simp only [l_last] at next2
              unfold xb_X12_winnerOf_49
              rw [cj, F1.1 38 (by decide) (by decide), F1.1 39 (by decide) (by decide), F1.1 40 (by decide) (by decide), nI_1 j]
              have no : ¬ (τ0.1 38 j = nI 0 ∧ τ0.1 39 j = nI s ∧ τ0.1 40 j = nI i) → K49 τ1 (w_d (m_win σ0 F nr s b n i)) (w_fB (m_win σ0 F nr s b n i)) (nI i) (o_ix (l_last (m_P σ0 0 s i) j)) (nI (j + 1)) := by
                intro cc
                have e : m_P σ0 0 s i j = false := by
                  cases e : m_P σ0 0 s i j
                  · rfl
                  · exact absurd (hb.mpr e) cc
                rw [e] at next2
                exact next2
              refine ⟨fun g => absurd g (nI_ge (by omega) (by omega)), fun _ => ⟨vj, fun g => no (fun z => g z.1), fun c1 => ⟨vj, fun g => no (fun z => g z.2.1), fun c2 => ⟨vj, fun g => no (fun z => g z.2.2), fun c3 => ?_⟩⟩⟩⟩
              rw [hb.mp ⟨c1, c2, c3⟩] at next2
              exact next2
          exact inner n 0 (by omega)
        · have e : m_step σ0 F nr s b n i (m_win σ0 F nr s b n i) = m_win σ0 F nr s b n i := by
            unfold m_step
            rw [if_neg (fun y => z y.2)]
          rw [e] at next
          exact next τ1 F1
  exact key nd 0 τ (by omega) hF
end WINNER
