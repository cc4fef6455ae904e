/-! what both gather for a PLAN -/
def gA (σ σ1 : xw_M) : Prop := ∀ c, c ≠ 7 → c ≠ 44 → c ≠ 45 → c ≠ 46 → c ≠ 47 → c ≠ 64 → c ≠ 66 + 5 → c ≠ 66 + 6 → σ1.1 c = σ.1 c
def gB (τ τ1 : xw_M) : Prop := (∀ c, c ≠ 42 → c ≠ 43 → c < 48 ∨ 57 < c → τ1.1 c = τ.1 c) ∧ τ1.2 = τ.2
theorem gA_0 {σ : xw_M} : gA σ σ := fun _ _ _ _ _ _ _ _ _ => rfl
theorem gB_0 {τ : xw_M} : gB τ τ := ⟨fun _ _ _ _ => rfl, rfl⟩
theorem gA_t {a b c : xw_M} (h1 : gA a b) (h2 : gA b c) : gA a c := fun x p1 p2 p3 p4 p5 p6 p7 p8 => (h2 x p1 p2 p3 p4 p5 p6 p7 p8).trans (h1 x p1 p2 p3 p4 p5 p6 p7 p8)
theorem gB_t {a b c : xw_M} (h1 : gB a b) (h2 : gB b c) : gB a c := ⟨fun x p1 p2 p3 => (h2.1 x p1 p2 p3).trans (h1.1 x p1 p2 p3), h2.2.trans h1.2⟩
theorem gA_f {a b : xw_M} (h : fA a b) : gA a b := fun x _ p2 _ _ _ p6 _ _ => h x p2 p6
theorem gB_f {a b : xw_M} (h : fB a b) : gB a b := ⟨fun x p1 p2 _ => h.1 x p1 p2, h.2⟩
theorem gA_d {σ σ1 : xw_M} (h : gA σ σ1) {c : Nat} (hc : c < 7 ∨ (7 < c ∧ c < 44) ∨ (47 < c ∧ c < 64) ∨ (64 < c ∧ c < 71) ∨ 72 < c) : σ1.1 c = σ.1 c := h c (by omega) (by omega) (by omega) (by omega) (by omega) (by omega) (by omega) (by omega)
theorem gB_d {τ τ1 : xw_M} (h : gB τ τ1) {c : Nat} (hc : c < 42 ∨ (43 < c ∧ c < 48) ∨ 57 < c) : τ1.1 c = τ.1 c := h.1 c (by omega) (by omega) (by omega)
section GATHER
variable {σ0 τ0 : xw_M} {nb nd ns nf live nr sz : Nat} {F : Nat → tU}
theorem m_C_g {σ1 τ1 : xw_M} (H : m_C σ0 τ0 nb nd ns nf live nr sz F) (f : gA σ0 σ1) (g : gB τ0 τ1) : m_C σ1 τ1 nb nd ns nf live nr sz F := by
  obtain ⟨h2, h3, h4, h6, h7, h8, h9, h10, h11, h12, h13⟩ := H
  refine ⟨?_, ?_, ?_, ?_, ?_, ?_, ?_, ?_, TA_c h11 (fun c hc => gA_d f (by omega)), by rw [gB_d g (c := 0) (by omega)]; exact h12, TB_c h13 (fun c c1 c2 => gB_d g (by omega))⟩
  · rw [gA_d f (c := 28) (by omega), gB_d g (c := 25) (by omega)]; exact h2
  · rw [gA_d f (c := 29) (by omega), gB_d g (c := 26) (by omega)]; exact h3
  · rw [gA_d f (c := 0) (by omega), gB_d g (c := 0) (by omega)]; exact h4
  · rw [gA_d f (c := 4) (by omega), gB_d g (c := 0) (by omega), gA_d f (c := 30) (by omega), gA_d f (c := 31) (by omega), gA_d f (c := 32) (by omega), gA_d f (c := 33) (by omega), gB_d g (c := 27) (by omega), gB_d g (c := 28) (by omega), gB_d g (c := 29) (by omega), gB_d g (c := 30) (by omega)]; exact h6
  · rw [gA_d f (c := 4) (by omega), gB_d g (c := 0) (by omega), gA_d f (c := 34) (by omega), gA_d f (c := 35) (by omega), gA_d f (c := 36) (by omega), gA_d f (c := 37) (by omega), gA_d f (c := 38) (by omega), gB_d g (c := 31) (by omega), gB_d g (c := 32) (by omega), gB_d g (c := 33) (by omega), gB_d g (c := 34) (by omega), gB_d g (c := 35) (by omega)]; exact h7
  · rw [gA_d f (c := 0) (by omega), gB_d g (c := 0) (by omega), gB_d g (c := 36) (by omega), gB_d g (c := 37) (by omega)]
    exact r_shows_c h8 (fun i hi => gA_d f (by omega))
  · rw [gA_d f (c := 5) (by omega), gB_d g (c := 0) (by omega), gA_d f (c := 39) (by omega), gA_d f (c := 40) (by omega), gA_d f (c := 41) (by omega), gA_d f (c := 42) (by omega), gA_d f (c := 43) (by omega), gB_d g (c := 38) (by omega), gB_d g (c := 39) (by omega), gB_d g (c := 40) (by omega), gB_d g (c := 41) (by omega)]; exact h9
  · rw [gB_d g (c := 44) (by omega), gB_d g (c := 45) (by omega), gB_d g (c := 46) (by omega), gB_d g (c := 47) (by omega)]
    exact r_plan_c h10 (fun i hi => gA_d f (by omega))
theorem m_bar_g {σ1 : xw_M} {p s d n : Nat} (f : gA σ0 σ1) (hs : s < 5) : m_bar σ1 F nr p s d n = m_bar σ0 F nr p s d n := by
  have e11 := gA_d f (c := 11 + s) (by omega)
  have c1 : m_cV σ1 s d = m_cV σ0 s d := by
    funext k
    unfold m_cV m_day m_br
    rw [e11, gA_d f (c := 35) (by omega), gA_d f (c := 36) (by omega), gA_d f (c := 34) (by omega), gA_d f (c := 30) (by omega)]
  have c2 : m_cls σ1 F nr s d = m_cls σ0 F nr s d := by unfold m_cls; rw [c1]
  have c3 : ∀ w, m_own σ1 d w n = m_own σ0 d w n := by
    intro w
    unfold m_own
    rw [gA_d f (c := 37) (by omega), gA_d f (c := 42) (by omega), gA_d f (c := 39) (by omega), gA_d f (c := 41) (by omega), gA_d f (c := 43) (by omega)]
  have c4 : m_day σ1 s = m_day σ0 s := by unfold m_day; rw [e11]
  have c5 : ∀ w, m_part σ1 p d w n = m_part σ0 p d w n := by
    intro w
    unfold m_part
    rw [c3, gA_d f (c := 37) (by omega), gA_d f (c := 42) (by omega), gA_d f (c := 39) (by omega), gA_d f (c := 41) (by omega), gA_d f (c := 43) (by omega)]
  have c6 : m_bV σ1 F nr p s d n = m_bV σ0 F nr p s d n := by
    funext k
    unfold m_bV
    rw [c2, c3, c4, c5, c1, gA_d f (c := 28) (by omega)]
  unfold m_bar
  rw [c6]
end GATHER
def m_mayd (σ : xw_M) (F : Nat → tU) (nr s b n p : Nat) : Nat → Bool
  | 0 => bt (σ.1 29 p) b
  | d + 1 => m_mayd σ F nr s b n p d && (!(m_hp σ s b d) || decide (m_bar σ F nr p s d n = -1))
def m_jm (σ : xw_M) (F : Nat → tU) (nr nd s b n : Nat) : Nat → Int32
  | 0 => 0
  | p + 1 => if m_mayd σ F nr s b n p nd then m_jm σ F nr nd s b n p ||| ((1 : Int32) <<< (nI p &&& 31)) else m_jm σ F nr nd s b n p
theorem m_jm_bit {σ : xw_M} {F : Nat → tU} {nr nd s b n : Nat} : ∀ {k : Nat}, k ≤ 12 → ∀ i, i < 32 → bt (m_jm σ F nr nd s b n k) i = (decide (i < k) && m_mayd σ F nr s b n i nd)
  | 0, _, i, _ => by simp [m_jm, b_0]
  | k + 1, hk, i, hi => by
    have ih := m_jm_bit (σ := σ) (F := F) (nr := nr) (nd := nd) (s := s) (b := b) (n := n) (k := k) (by omega) i hi
    simp only [m_jm]
    by_cases c : i = k
    · subst c
      split
      · rename_i g
        rw [bt_set _ (by omega) hi, g]; simp
      · rename_i g
        rw [ih]
        simp [g]
    · split
      · rw [bt_set _ (by omega) hi, ih]
        by_cases c2 : i < k
        · simp [c, c2, show i < k + 1 by omega]
        · simp [c, c2, show ¬ i < k + 1 by omega]
      · rw [ih]
        by_cases c2 : i < k
        · simp [c2, show i < k + 1 by omega]
        · simp [c2, show ¬ i < k + 1 by omega]
theorem m_mayd_no {σ : xw_M} {F : Nat → tU} {nr s b n p d : Nat} (h : m_mayd σ F nr s b n p d = false) : ∀ k, m_mayd σ F nr s b n p (d + k) = false
  | 0 => h
  | k + 1 => by
    show m_mayd σ F nr s b n p (d + k + 1) = false
    simp only [m_mayd]
    rw [m_mayd_no h k]
    rfl
theorem m_hp_g {σ σ1 : xw_M} {s b : Nat} (f : gA σ σ1) (hs : s < 5) : m_hp σ1 s b = m_hp σ s b := by
  funext d
  unfold m_hp m_ent m_br
  rw [gA_d f (c := 11 + s) (by omega), gA_d f (c := 34) (by omega)]
theorem m_mayd_g {σ σ1 : xw_M} {F : Nat → tU} {nr s b n p : Nat} (f : gA σ σ1) (hs : s < 5) : ∀ d, m_mayd σ1 F nr s b n p d = m_mayd σ F nr s b n p d
  | 0 => by simp only [m_mayd]; rw [gA_d f (c := 29) (by omega)]
  | d + 1 => by
    simp only [m_mayd]
    rw [m_mayd_g f hs d, m_hp_g f hs, m_bar_g f hs]
theorem m_jm_g {σ σ1 : xw_M} {F : Nat → tU} {nr nd s b n : Nat} (f : gA σ σ1) (hs : s < 5) : ∀ k, m_jm σ1 F nr nd s b n k = m_jm σ F nr nd s b n k
  | 0 => rfl
  | k + 1 => by
    simp only [m_jm]
    rw [m_jm_g f hs k, m_mayd_g f hs]
section GATHER2
variable {σ0 τ0 : xw_M} {nb nd ns nf live nr sz : Nat} {F : Nat → tU}
theorem qA_judges {σ : xw_M} {s b n : Nat} {y : Int32} {Z : Int32 → xw_M → Prop} (H : m_C σ0 τ0 nb nd ns nf live nr sz F) (hF : fA σ0 σ) (hs : s < ns) (hb : b < 6) (hn : n ≤ nf) (hy : ∀ d, d < nd → bt y d = m_hp σ0 s b d) (h : ∀ σ1, fA σ0 σ1 → Z (m_jm σ0 F nr nd s b n 12) σ1) : xu_X4_judgesFor σ s (nI b) y (nI n) Z := by
  obtain ⟨-, -, -, -, ⟨q1, q2, -⟩, -⟩ := id H
  intro K6 K41 K98 h6 h41 h98
  have key : ∀ (k p : Nat) (σ' : xw_M), p + k = 12 → fA σ0 σ' → K6 σ' (m_jm σ0 F nr nd s b n p) (nI p) := by
    intro k
    induction k with
    | zero =>
      intro p σ' hp hF'
      obtain rfl : p = 12 := by omega
      apply h6
      exact ⟨fun _ => h σ' hF', fun z => absurd (by decide) z⟩
    | succ k ih =>
      intro p σ' hp hF'
      have next := fun σ1 f1 => ih (p + 1) σ1 (by omega) f1
      simp only [m_jm] at next
      have done : ∀ σ1, fA σ0 σ1 → K98 σ1 (m_jm σ0 F nr nd s b n p) (nI p) (t_b (m_mayd σ0 F nr s b n p nd)) := by
        intro σ1 f1
        apply h98
        unfold xb_X4_judgesFor_98
        rw [nI_1]
        refine ⟨fun z => ?_, fun z => ?_⟩
        · have e : m_mayd σ0 F nr s b n p nd = false := by
            cases hq : m_mayd σ0 F nr s b n p nd
            · rfl
            · rw [hq] at z; exact absurd z (by decide)
          simp only [e] at next
          rw [Int32.or_zero]
          exact next σ1 f1
        · have e : m_mayd σ0 F nr s b n p nd = true := by
            cases hq : m_mayd σ0 F nr s b n p nd
            · rw [hq] at z; exact absurd rfl z
            · rfl
          simp only [e, if_true] at next
          exact next σ1 f1
      have dogs : ∀ (j d : Nat) (σ1 : xw_M), d + j = nd → fA σ0 σ1 → K41 σ1 (m_jm σ0 F nr nd s b n p) (nI p) (t_b (m_mayd σ0 F nr s b n p d)) (nI d) := by
        intro j
        induction j with
        | zero =>
          intro d σ1 hd f1
          obtain rfl : d = nd := by omega
          apply h41
          unfold xb_X4_judgesFor_41
          rw [f1 4 (by decide) (by decide), q2]
          exact ⟨fun _ => done σ1 f1, fun z => absurd (nI_le (Nat.le_refl d) (by omega)) z⟩
        | succ j ihj =>
          intro d σ1 hd f1
          have nx := fun σ2 f2 => ihj (d + 1) σ2 (by omega) f2
          simp only [m_mayd] at nx
          apply h41
          unfold xb_X4_judgesFor_41
          rw [f1 4 (by decide) (by decide), q2, nI_1]
          refine ⟨fun z => absurd z (nI_ge (by omega) (by omega)), fun _ => ⟨fun z => ?_, fun z => ?_⟩⟩
          · have e : m_mayd σ0 F nr s b n p d = false := by
              cases hq : m_mayd σ0 F nr s b n p d
              · rfl
              · rw [hq] at z; exact absurd z (by decide)
            have e2 := m_mayd_no e (nd - d)
            rw [show d + (nd - d) = nd by omega] at e2
            have dn := done σ1 f1
            rw [e2] at dn
            rw [e]
            exact dn
          · have e : m_mayd σ0 F nr s b n p d = true := by
              cases hq : m_mayd σ0 F nr s b n p d
              · rw [hq] at z; exact absurd rfl z
              · rfl
            simp only [e, Bool.true_and] at nx
            refine ⟨fun z2 => ?_, fun z2 => ?_⟩
            · rw [bt_test0 y (by omega), hy d (by omega)] at z2
              simp only [z2, Bool.not_false, Bool.true_or] at nx
              exact nx σ1 f1
            · have e3 : m_hp σ0 s b d = true := by
                cases hq : m_hp σ0 s b d
                · exact absurd ((bt_test0 y (by omega)).mpr (by rw [hy d (by omega)]; exact hq)) z2
                · rfl
              simp only [e3, Bool.not_true, Bool.false_or] at nx
              refine qA_bar H f1 (by omega) hs (by omega) hn (fun σ2 f2 => ⟨fun w => ?_, fun w => ?_⟩)
              · simp only [w, decide_false] at nx
                exact nx σ2 f2
              · simp only [w, decide_true] at nx
                exact nx σ2 f2
      apply h6
      unfold xb_X4_judgesFor_6
      rw [nI_clamp (n := p) (by omega), hF' 29 (by decide) (by decide)]
      have st := dogs nd 0 σ' (by omega) hF'
      simp only [m_mayd] at st
      refine ⟨fun z => absurd z (nI_ge (b := 12) (by omega) (by decide)), fun _ => ⟨vp_in_nI (by omega) (by decide), fun z => ?_, fun z => ?_⟩⟩
      · have e : bt (σ0.1 29 p) b = false := by
          cases hq : bt (σ0.1 29 p) b
          · rfl
          · exact absurd ((bt_test _ (by omega)).mpr hq) z
        rw [e] at st
        exact st
      · have e := (bt_test _ (by omega)).mp z
        rw [e] at st
        exact st
  exact key 12 0 σ (by omega) hF
def m_tk (σ : xw_M) (s nd b : Nat) : Nat := (σ.1 31 b).toNatClampNeg * fb_ct (m_hp σ s b) nd
theorem m_mins (H : m_C σ0 τ0 nb nd ns nf live nr sz F) {b : Nat} (hb : b < nb) : ∃ k, 1 ≤ k ∧ k ≤ 9 ∧ σ0.1 31 b = nI k ∧ τ0.1 28 b = nI k ∧ (σ0.1 31 b).toNatClampNeg = k := by
  obtain ⟨-, -, -, ⟨b1, b2, b3, b4⟩, -⟩ := H
  obtain ⟨g1, g2, g3, g4, g5, g6, g7, g8, -⟩ := b4 b hb
  obtain ⟨k, k1, k2, k3, k4⟩ := i_of (n := 10) (x := σ0.1 31 b) (by omega) (by omega)
  exact ⟨k, by omega, by omega, k2, g2.symm.trans k2, k4⟩
theorem qB_gathers {s n : Nat} {Z : xw_M → Prop} (H : m_C σ0 τ0 nb nd ns nf live nr sz F) (hs : s < ns) (hn : n ≤ nf) (h : ∀ τ1, gB τ0 τ1 → (∀ b, b < nb → τ1.1 48 b = nI (m_tk σ0 s nd b) ∧ τ1.1 49 b = m_jm σ0 F nr nd s b n 12 ∧ τ1.1 50 b = m_han σ0 s b nd) → Z τ1) : xu_X12_gathers τ0 (nI s) (nI n) Z := by
  obtain ⟨-, hp, -, ⟨b1, b2, b3, b4⟩, ⟨q1, q2, q3, q4⟩, ⟨p1, -⟩, -⟩ := id H
  intro K2 K39 K83 K139 h2 h39 h83 h139
  have key : ∀ (k b : Nat) (τ : xw_M), b + k = nb → gB τ0 τ → (∀ x, x < b → τ.1 48 x = nI (m_tk σ0 s nd x) ∧ τ.1 49 x = m_jm σ0 F nr nd s x n 12 ∧ τ.1 50 x = m_han σ0 s x nd) → K2 τ (nI b) := by
    intro k
    induction k with
    | zero =>
      intro b τ hb g hx
      obtain rfl : b = nb := by omega
      apply h2
      unfold xb_X12_gathers_2
      rw [gB_d g (c := 0) (by omega), b3]
      exact ⟨fun _ => h τ g hx, fun z => absurd (nI_le (Nat.le_refl b) (by omega)) z⟩
    | succ k ih =>
      intro b τ hb g hx
      have hbn : b < nb := by omega
      obtain ⟨mn, mn1, mn2, mn3, mn4, mn5⟩ := m_mins H hbn
      have vb : vp_in (nI b) 6 := vp_in_nI (by omega) (by decide)
      have cb : (nI b).toNatClampNeg = b := nI_clamp (by omega)
      apply h2
      unfold xb_X12_gathers_2
      rw [gB_d g (c := 0) (by omega), b3, cb]
      refine ⟨fun z => absurd z (nI_ge hbn (by omega)), fun _ => ⟨vb, fun τ1 e1 => ⟨vb, fun τ2 e2 => ?_⟩⟩⟩
      have c2 : ∀ c, c ≠ 48 → c ≠ 49 → τ2.1 c = τ.1 c := fun c c1 c2 => by rw [e2, e1, xw_ne c2, xw_ne c1]
      have d2 : τ2.2 = τ.2 := by rw [e2, e1]; rfl
      have g2 : gB τ0 τ2 := gB_t g ⟨fun c _ _ hc => c2 c (by omega) (by omega), d2⟩
      refine qB_han H (by rw [gB_d g2 (c := 0) (by omega)]) (gB_d g2 (by omega)) (gB_d g2 (by omega)) (gB_d g2 (by omega)) hs (by omega) ⟨vb, fun τ5 e5 => ?_⟩
      have inv5 : gB τ0 τ5 ∧ (∀ x, x < b → τ5.1 48 x = nI (m_tk σ0 s nd x) ∧ τ5.1 49 x = m_jm σ0 F nr nd s x n 12 ∧ τ5.1 50 x = m_han σ0 s x nd) ∧ τ5.1 50 b = m_han σ0 s b nd ∧ τ5.1 48 b = 0 ∧ τ5.1 49 b = 0 := by
        refine ⟨gB_t g2 ⟨fun c _ _ hc => by rw [e5]; exact xw_ne (by omega), by rw [e5]; rfl⟩, fun x hxb => ?_, by rw [e5]; exact xw_eq, ?_, ?_⟩
        · rw [e5, e2, e1, xw_ne (c' := 48) (by decide), xw_ne (c' := 48) (by decide), xw_nj (show x ≠ b by omega), xw_ne (c' := 49) (by decide), xw_nj (show x ≠ b by omega), xw_ne (c' := 49) (by decide), xw_nj (show x ≠ b by omega), xw_ne (c' := 50) (by decide), xw_ne (c' := 50) (by decide)]
          exact hx x hxb
        · rw [e5, e2, e1, xw_ne (by decide), xw_ne (by decide), xw_eq]
        · rw [e5, e2, xw_ne (by decide), xw_eq]
      clear e1 e2 e5 c2 d2 g2 g hx
      obtain ⟨g5, i1, i2, i3, i4⟩ := inv5

      have dogs : ∀ (j d : Nat) (τ' : xw_M), d + j = nd → gB τ0 τ' → (∀ x, x < b → τ'.1 48 x = nI (m_tk σ0 s nd x) ∧ τ'.1 49 x = m_jm σ0 F nr nd s x n 12 ∧ τ'.1 50 x = m_han σ0 s x nd) → τ'.1 50 b = m_han σ0 s b nd → τ'.1 48 b = nI (mn * fb_ct (m_hp σ0 s b) d) → (∀ q, q < 32 → bt (τ'.1 49 b) q = (decide (q < 12) && m_mayd σ0 F nr s b n q d)) → K83 τ' (nI b) (nI d) := by
        intro j
        induction j with
        | zero =>
          intro d τ' hd g' j1 j2 j3 j4
          obtain rfl : d = nd := by omega
          apply h83
          unfold xb_X12_gathers_83
          rw [gB_d g' (c := 0) (by omega), q3, nI_1]
          refine ⟨fun _ => ih (b + 1) τ' (by omega) g' (fun x hxb => ?_), fun z => absurd (nI_le (Nat.le_refl d) (by omega)) z⟩
          by_cases c : x = b
          · subst c
            refine ⟨?_, ?_, j2⟩
            · rw [j3]; unfold m_tk; rw [mn5]
            · apply b_ext
              intro q hq
              rw [j4 q hq, m_jm_bit (Nat.le_refl 12) q hq]
          · exact j1 x (by omega)
        | succ j ihj =>
          intro d τ' hd g' j1 j2 j3 j4
          have hdn : d < nd := by omega
          have nx := fun τ2 => ihj (d + 1) τ2 (by omega)
          simp only [fb_ct_succ, m_mayd] at nx
          obtain ⟨m1, m2, m3⟩ := m_brk H hdn
          have hpb := m_hpB H (b := b) hs (by omega) hdn
          apply h83
          unfold xb_X12_gathers_83
          rw [gB_d g' (c := 0) (by omega), q3, ix20, nI_clamp (n := 20 * s + d) (by omega), gB_d g' (c := 37) (by omega), nI_clamp (n := d) (by omega), gB_d g' (c := 31) (by omega), cb, gB_d g' (c := 28) (by omega), mn4, j3, nI_1 d, nI_add]
          have skip : m_hp σ0 s b d = false → K83 τ' (nI b) (nI (d + 1)) := by
            intro e
            simp only [e, Bool.not_false, Bool.true_or, Bool.and_true] at nx
            exact nx τ' g' j1 j2 j3 j4
          refine ⟨fun z => absurd z (nI_ge hdn (by omega)), fun _ => ⟨vp_in_nI (by omega) (by decide), fun z => skip ?_, fun z => ⟨vp_in_nI (by omega) (by decide), fun z2 => ⟨vb, vb, vb, fun τ7 e7 => ?_⟩, fun z2 => skip ?_⟩⟩⟩
          · cases hq : m_hp σ0 s b d
            · rfl
            · exact absurd z (hpb.mp hq).1
          · have e : m_hp σ0 s b d = true := hpb.mpr ⟨z, z2⟩
            simp only [e, if_true, Bool.not_true, Bool.false_or] at nx
            have fbl := fb_ct_le (m_hp σ0 s b) d

            have pers : ∀ (i p : Nat) (τ8 : xw_M), p + i = 12 → gB τ0 τ8 → (∀ x, x < b → τ8.1 48 x = nI (m_tk σ0 s nd x) ∧ τ8.1 49 x = m_jm σ0 F nr nd s x n 12 ∧ τ8.1 50 x = m_han σ0 s x nd) → τ8.1 50 b = m_han σ0 s b nd → τ8.1 48 b = nI (mn * (fb_ct (m_hp σ0 s b) d + 1)) → (∀ q, q < 32 → bt (τ8.1 49 b) q = (decide (q < 12) && (if q < p then m_mayd σ0 F nr s b n q d && decide (m_bar σ0 F nr q s d n = -1) else m_mayd σ0 F nr s b n q d))) → K139 τ8 (nI b) (nI d) (nI p) := by
              intro i
              induction i with
              | zero =>
                intro p τ8 hp8 g8 k1 k2 k3 k4
                obtain rfl : p = 12 := by omega
                apply h139
                unfold xb_X12_gathers_139
                rw [nI_1]
                refine ⟨fun _ => nx τ8 g8 k1 k2 k3 (fun q hq => ?_), fun z => absurd (by decide) z⟩
                rw [k4 q hq]
                by_cases c : q < 12
                · simp [c]
                · simp [c]
              | succ i ihi =>
                intro p τ8 hp8 g8 k1 k2 k3 k4
                have p12 : p < 12 := by omega
                have nxp := fun τ9 => ihi (p + 1) τ9 (by omega)
                apply h139
                unfold xb_X12_gathers_139
                rw [cb, nI_1 p]
                have kp := k4 p (by omega)
                rw [if_neg (Nat.lt_irrefl p)] at kp
                refine ⟨fun z => absurd z (nI_ge (b := 12) p12 (by decide)), fun _ => ⟨vb, fun z => ?_, fun z => ?_⟩⟩
                · have e1 : m_mayd σ0 F nr s b n p d = false := by
                    cases hq : m_mayd σ0 F nr s b n p d
                    · rfl
                    · rw [hq, decide_eq_true p12] at kp
                      exact absurd ((bt_test _ (by omega)).mpr kp) z
                  refine nxp τ8 g8 k1 k2 k3 (fun q hq => ?_)
                  rw [k4 q hq]
                  by_cases c : q = p
                  · subst c; simp [e1]
                  · by_cases c2 : q < p
                    · simp [c2, show q < p + 1 by omega]
                    · simp [c2, show ¬ q < p + 1 by omega]
                · have e1 : m_mayd σ0 F nr s b n p d = true := by
                    have z' := (bt_test _ (by omega)).mp z
                    rw [kp, decide_eq_true p12] at z'
                    exact z'
                  refine qB_bar (m_C_g H gA_0 g8) fB_0 p12 hs hdn hn (fun τ9 f9 => ?_)
                  have g9 := gB_t g8 (gB_f f9)
                  have r48 := f9.1 48 (by decide) (by decide)
                  have r49 := f9.1 49 (by decide) (by decide)
                  have r50 := f9.1 50 (by decide) (by decide)
                  refine ⟨fun w => ?_, fun w => ⟨vb, vb, fun τ10 e10 => ?_⟩⟩
                  · refine nxp τ9 g9 (by rw [r48, r49, r50]; exact k1) (by rw [r50]; exact k2) (by rw [r48]; exact k3) (fun q hq => ?_)
                    rw [r49, k4 q hq]
                    by_cases c : q = p
                    · subst c; simp [w]
                    · by_cases c2 : q < p
                      · simp [c2, show q < p + 1 by omega]
                      · simp [c2, show ¬ q < p + 1 by omega]
                  · have s48 : τ10.1 48 = τ8.1 48 := by rw [e10, xw_ne (by decide)]; exact r48
                    have s50 : τ10.1 50 = τ8.1 50 := by rw [e10, xw_ne (by decide)]; exact r50
                    have s49 : ∀ x, x ≠ b → τ10.1 49 x = τ8.1 49 x := fun x hxb => by rw [e10, xw_nj hxb, r49]
                    have s49b : τ10.1 49 b = τ8.1 49 b &&& (((1 : Int32) <<< (nI p &&& 31)) ^^^ (-1)) := by rw [e10, xw_eq, r49]
                    refine nxp τ10 (gB_t g9 ⟨fun c _ _ hc => by rw [e10]; exact xw_ne (by omega), by rw [e10]; rfl⟩) (fun x hxb => ?_) (by rw [s50]; exact k2) (by rw [s48]; exact k3) (fun q hq => ?_)
                    · rw [s48, s50, s49 x (by omega)]; exact k1 x hxb
                    · rw [s49b, b_clr _ (by omega) hq, k4 q hq]
                      by_cases c : q = p
                      · subst c; simp [w]
                      · by_cases c2 : q < p
                        · simp [c, c2, show q < p + 1 by omega]
                        · simp [c, c2, show ¬ q < p + 1 by omega]
            have s48b : τ7.1 48 b = nI (mn * (fb_ct (m_hp σ0 s b) d + 1)) := by rw [e7, xw_eq, Nat.mul_add, Nat.mul_one]
            have s48 : ∀ x, x ≠ b → τ7.1 48 x = τ'.1 48 x := fun x hxb => by rw [e7, xw_nj hxb]
            have sc : ∀ c, c ≠ 48 → τ7.1 c = τ'.1 c := fun c hc => by rw [e7, xw_ne hc]
            refine pers 12 0 τ7 (by omega) (gB_t g' ⟨fun c _ _ hc => sc c (by omega), by rw [e7]; rfl⟩) (fun x hxb => ?_) (by rw [sc 50 (by decide)]; exact j2) s48b (fun q hq => ?_)
            · rw [s48 x (by omega), sc 49 (by decide), sc 50 (by decide)]; exact j1 x hxb
            · rw [sc 49 (by decide), j4 q hq, if_neg (by omega)]
          · cases hq : m_hp σ0 s b d
            · rfl
            · exact absurd (hpb.mp hq).2 z2

      have perm : ∀ (i p : Nat) (τ' : xw_M), p + i = 12 → gB τ0 τ' → (∀ x, x < b → τ'.1 48 x = nI (m_tk σ0 s nd x) ∧ τ'.1 49 x = m_jm σ0 F nr nd s x n 12 ∧ τ'.1 50 x = m_han σ0 s x nd) → τ'.1 50 b = m_han σ0 s b nd → τ'.1 48 b = 0 → (∀ q, q < 32 → bt (τ'.1 49 b) q = (decide (q < p) && bt (σ0.1 29 q) b)) → K39 τ' (nI b) (nI p) := by
        intro i
        induction i with
        | zero =>
          intro p τ' hp8 g8 k1 k2 k3 k4
          obtain rfl : p = 12 := by omega
          apply h39
          refine ⟨fun _ => ?_, fun z => absurd (by decide) z⟩
          refine dogs nd 0 τ' (by omega) g8 k1 k2 ?_ (fun q hq => ?_)
          · rw [k3]; rfl
          · rw [k4 q hq]; rfl
        | succ i ihi =>
          intro p τ' hp8 g8 k1 k2 k3 k4
          have p12 : p < 12 := by omega
          have nxp := fun τ9 => ihi (p + 1) τ9 (by omega)
          have ep : τ'.1 26 p = σ0.1 29 p := by rw [gB_d g8 (c := 26) (by omega)]; exact (hp p p12).1.symm
          apply h39
          unfold xb_X12_gathers_39
          rw [nI_clamp (n := p) (by omega), cb, nI_1 p, ep]
          refine ⟨fun z => absurd z (nI_ge (b := 12) p12 (by decide)), fun _ => ⟨vp_in_nI (by omega) (by decide), fun z => ?_, fun z => ⟨vb, vb, fun τ6 e6 => ?_⟩⟩⟩
          · refine nxp τ' g8 k1 k2 k3 (fun q hq => ?_)
            rw [k4 q hq]
            by_cases c : q = p
            · subst c
              have : bt (σ0.1 29 q) b = false := by
                cases hq : bt (σ0.1 29 q) b
                · rfl
                · exact absurd ((bt_test _ (by omega)).mpr hq) z
              simp [this]
            · by_cases c2 : q < p
              · simp [c2, show q < p + 1 by omega]
              · simp [c2, show ¬ q < p + 1 by omega]
          · have s48 : τ6.1 48 = τ'.1 48 := by rw [e6, xw_ne (by decide)]
            have s50 : τ6.1 50 = τ'.1 50 := by rw [e6, xw_ne (by decide)]
            have s49 : ∀ x, x ≠ b → τ6.1 49 x = τ'.1 49 x := fun x hxb => by rw [e6, xw_nj hxb]
            have s49b : τ6.1 49 b = τ'.1 49 b ||| ((1 : Int32) <<< (nI p &&& 31)) := by rw [e6, xw_eq]
            refine nxp τ6 (gB_t g8 ⟨fun c _ _ hc => by rw [e6]; exact xw_ne (by omega), by rw [e6]; rfl⟩) (fun x hxb => ?_) (by rw [s50]; exact k2) (by rw [s48]; exact k3) (fun q hq => ?_)
            · rw [s48, s50, s49 x (by omega)]; exact k1 x hxb
            · rw [s49b, bt_set _ (by omega) hq, k4 q hq]
              by_cases c : q = p
              · subst c
                simp [(bt_test _ (by omega)).mp z]
              · by_cases c2 : q < p
                · simp [c, c2, show q < p + 1 by omega]
                · simp [c, c2, show ¬ q < p + 1 by omega]
      exact perm 12 0 τ5 (by omega) g5 i1 i2 i3 (fun q hq => by rw [i4, b_0]; simp)
  exact key nb 0 τ0 (by omega) gB_0 (fun x hx => absurd hx (by omega))
end GATHER2
