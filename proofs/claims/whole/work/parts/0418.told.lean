/-! what FACTS tell of a DOG in a SHOW -/
def m_P (σ : xw_M) (k s d i : Nat) : Bool := decide (σ.1 39 i = nI k ∧ σ.1 40 i = nI s ∧ σ.1 41 i = nI d)
def l_last (P : Nat → Bool) : Nat → Option Nat
  | 0 => none
  | n + 1 => if P n then some n else l_last P n
def l_lastO (P : Nat → Bool) : Option Nat → Option Nat
  | none => none
  | some m => l_last P m
theorem l_last_some {P : Nat → Bool} : ∀ {n r : Nat}, l_last P n = some r → r < n ∧ P r = true ∧ ∀ j, r < j → j < n → P j = false
  | 0, _, h => by cases h
  | n + 1, r, h => by
    simp only [l_last] at h
    cases hp : P n with
    | true =>
      rw [hp] at h
      cases h
      exact ⟨Nat.lt_succ_self _, hp, fun j h1 h2 => absurd h2 (by omega)⟩
    | false =>
      rw [hp] at h
      have h2 := l_last_some (n := n) h
      refine ⟨by omega, h2.2.1, fun j j1 j2 => ?_⟩
      rcases Nat.lt_or_ge j n with q | q
      · exact h2.2.2 j j1 q
      · obtain rfl : j = n := by omega
        exact hp
theorem l_last_none {P : Nat → Bool} : ∀ {n : Nat}, l_last P n = none ↔ ∀ j, j < n → P j = false
  | 0 => ⟨fun _ j hj => absurd hj (Nat.not_lt_zero j), fun _ => rfl⟩
  | n + 1 => by
    simp only [l_last]
    cases hp : P n with
    | true => exact ⟨fun h => by simp at h, fun h => by rw [h n (Nat.lt_succ_self n)] at hp; cases hp⟩
    | false =>
      rw [if_neg (by decide), l_last_none (n := n)]
      refine ⟨fun h j hj => ?_, fun h j hj => h j (by omega)⟩
      rcases Nat.lt_or_ge j n with q | q
      · exact h j q
      · obtain rfl : j = n := by omega
        exact hp
theorem i_s1 (x : Int32) : x + (-1) = x - 1 := by rw [Int32.sub_eq_add_neg]
theorem ix20 (s d : Nat) : (20 : Int32) * nI s + nI d = nI (20 * s + d) := by
  rw [show (20 : Int32) = nI 20 from rfl, pk_mul, nI_add]
section TOLD
variable {σ0 τ0 : xw_M} {nb nd ns nf live nr sz : Nat} {F : Nat → tU}
theorem m_PB (H : m_C σ0 τ0 nb nd ns nf live nr sz F) {k s d i : Nat} (hk : k < 4) (hi : i < nf) : (τ0.1 38 i = nI k ∧ τ0.1 39 i = nI s ∧ τ0.1 40 i = nI d) ↔ m_P σ0 k s d i = true := by
  obtain ⟨-, -, -, -, -, -, ⟨w1, w2, w3, w4⟩, -⟩ := H
  obtain ⟨g1, g2, g3, g4, g5⟩ := w4 i hi
  unfold m_P
  rw [decide_eq_true_iff, g1, g2]
  rcases g5 with g | g
  · have n4 : ¬ τ0.1 38 i = nI k := by
      rw [← g1, g.1]
      intro z
      have := (nI_eq (a := 4) (b := k) (by decide) (by omega)).mp z
      omega
    exact ⟨fun z => absurd z.1 n4, fun z => absurd z.1 n4⟩
  · rw [g.2.1]
theorem qA_last {σ : xw_M} {k s d : Nat} {o : Option Nat} {Z : Int32 → xw_M → Prop} (H : m_C σ0 τ0 nb nd ns nf live nr sz F) (hF : fA σ0 σ) (ho : ∀ m, o = some m → m ≤ nf) (h : Z (o_ix (l_lastO (m_P σ0 k s d) o)) σ) : xu_X1_lastOf σ (nI k) (nI s) (nI d) (o_ix o) Z := by
  obtain ⟨-, -, -, -, -, -, ⟨w1, w2, w3, w4⟩, -⟩ := id H
  intro K hK
  have key : ∀ i, i ≤ nf → Z (o_ix (l_last (m_P σ0 k s d) i)) σ → K σ (nI i - 1) := by
    intro i
    induction i with
    | zero =>
      intro _ hz
      apply hK
      exact ⟨fun _ => hz, fun g => absurd (by decide) g⟩
    | succ i ih =>
      intro hi hz
      rw [nI_pred]
      apply hK
      have ci : (nI i).toNatClampNeg = i := nI_clamp (by omega)
      have vi : vp_in (nI i) 200 := vp_in_nI (by omega) (by decide)
      simp only [l_last] at hz
      unfold xb_X1_lastOf_13
      rw [ci, hF 39 (by decide) (by decide), hF 40 (by decide) (by decide), hF 41 (by decide) (by decide), i_s1]
      have no : ¬ (σ0.1 39 i = nI k ∧ σ0.1 40 i = nI s ∧ σ0.1 41 i = nI d) → K σ (nI i - 1) := by
        intro c
        have e : m_P σ0 k s d i = false := by unfold m_P; exact decide_eq_false c
        rw [e] at hz
        exact ih (by omega) hz
      refine ⟨fun g => absurd g (nI_pos (by omega)), fun _ => ⟨vi, fun g => no (fun z => g z.1), fun g1 => ⟨vi, fun g => no (fun z => g z.2.1), fun g2 => ⟨vi, fun g => no (fun z => g z.2.2), fun g3 => ?_⟩⟩⟩⟩
      have e : m_P σ0 k s d i = true := by unfold m_P; exact decide_eq_true ⟨g1, g2, g3⟩
      rw [e] at hz
      exact hz
  intro x1 e1
  rw [hF 5 (by decide) (by decide), w2] at e1
  cases o with
  | none =>
    rw [if_neg (by show ¬ nI nf < -1; rw [i_lt, i_nI (by omega), i_m1]; omega)] at e1
    rw [e1]
    apply hK
    exact ⟨fun _ => h, fun g => absurd (by decide) g⟩
  | some m =>
    have hm := ho m rfl
    change x1 = (if nI nf < nI m then nI nf else nI m) - 1 at e1
    rw [if_neg (nI_nlt hm (by omega))] at e1
    rw [e1]
    exact key m hm h
theorem qB_told {τ : xw_M} {k s d n : Nat} {Z : Int32 → xw_M → Prop} (H : m_C σ0 τ0 nb nd ns nf live nr sz F) (hF : fB τ0 τ) (hk : k < 4) (hn : n ≤ nf) (h : Z (t_b (l_last (m_P σ0 k s d) n).isSome) τ) : xu_X12_isTold τ (nI k) (nI s) (nI d) (nI n) Z := by
  have w1 := H.2.2.2.2.2.2.1.1
  intro K hK
  have key : ∀ j i, i + j = n → (∀ t, t < i → m_P σ0 k s d t = false) → K τ (nI i) := by
    intro j
    induction j with
    | zero =>
      intro i hi hno
      obtain rfl : i = n := by omega
      apply hK
      refine ⟨fun _ => ⟨Or.inl rfl, ?_⟩, fun g => absurd (nI_le (Nat.le_refl i) (by omega)) g⟩
      rw [l_last_none.mpr hno] at h
      exact h
    | succ j ih =>
      intro i hi hno
      apply hK
      have ci : (nI i).toNatClampNeg = i := nI_clamp (by omega)
      have vi : vp_in (nI i) 200 := vp_in_nI (by omega) (by decide)
      have hb := m_PB (s := s) (d := d) H hk (show i < nf by omega)
      unfold xb_X12_isTold_3
      rw [ci, hF.1 38 (by decide) (by decide), hF.1 39 (by decide) (by decide), hF.1 40 (by decide) (by decide), nI_1]
      have no : ¬ (τ0.1 38 i = nI k ∧ τ0.1 39 i = nI s ∧ τ0.1 40 i = nI d) → K τ (nI (i + 1)) := by
        intro c
        refine ih (i + 1) (by omega) (fun t ht => ?_)
        rcases Nat.lt_or_ge t i with q | q
        · exact hno t q
        · obtain rfl : t = i := by omega
          cases e : m_P σ0 k s d t
          · rfl
          · exact absurd (hb.mpr e) c
      refine ⟨fun g => absurd g (nI_ge (by omega) (by omega)), fun _ => ⟨vi, fun g => no (fun z => g z.1), fun g1 => ⟨vi, fun g => no (fun z => g z.2.1), fun g2 => ⟨vi, fun g => no (fun z => g z.2.2), fun g3 => ⟨Or.inr rfl, ?_⟩⟩⟩⟩⟩
      have e := hb.mp ⟨g1, g2, g3⟩
      cases hq : l_last (m_P σ0 k s d) n with
      | none => rw [l_last_none.mp hq i (by omega)] at e; cases e
      | some r => rw [hq] at h; exact h
  exact key n 0 (by omega) (fun t ht => absurd ht (Nat.not_lt_zero t))
end TOLD
/-! measures -/
def m_vo (σ : xw_M) : Option Nat → Int32
  | none => -1
  | some m => σ.1 42 m
def m_min (a b : Int32) : Int32 := if b < a then b else a
def m_max (a b : Int32) : Int32 := if a < b then b else a
def m_l1 (σ : xw_M) (s d n : Nat) : Option Nat := l_last (m_P σ 3 s d) n
def m_l2 (σ : xw_M) (s d n : Nat) : Option Nat := l_lastO (m_P σ 3 s d) (m_l1 σ s d n)
def m_l3 (σ : xw_M) (s d n : Nat) : Option Nat := l_lastO (m_P σ 3 s d) (m_l2 σ s d n)
def m_held (σ : xw_M) (s d n : Nat) : Int32 := match m_l2 σ s d n with
  | none => m_vo σ (m_l1 σ s d n)
  | some j => match m_l3 σ s d n with
    | none => m_min (m_vo σ (m_l1 σ s d n)) (σ.1 42 j)
    | some k => m_max (m_min (m_vo σ (m_l1 σ s d n)) (σ.1 42 j)) (m_min (m_max (m_vo σ (m_l1 σ s d n)) (σ.1 42 j)) (σ.1 42 k))
def m_out (σ : xw_M) (s d n : Nat) : Bool := (m_l1 σ s d n).isSome && (decide (m_held σ s d n < σ.1 32 (m_br σ d)) || decide (σ.1 33 (m_br σ d) < m_held σ s d n))
section MEAS
variable {σ0 τ0 : xw_M} {nb nd ns nf live nr sz : Nat} {F : Nat → tU}
theorem m_last_v (H : m_C σ0 τ0 nb nd ns nf live nr sz F) {s d n m : Nat} (hn : n ≤ nf) (h : l_last (m_P σ0 3 s d) n = some m) : m < n ∧ τ0.1 41 m = σ0.1 42 m ∧ 0 ≤ (σ0.1 42 m).toInt ∧ (σ0.1 42 m).toInt ≤ 99 := by
  obtain ⟨-, -, -, -, -, -, ⟨w1, w2, w3, w4⟩, -⟩ := H
  obtain ⟨a, b, -⟩ := l_last_some h
  obtain ⟨g1, g2, g3, g4, g5⟩ := w4 m (by omega)
  unfold m_P at b
  rw [decide_eq_true_iff] at b
  refine ⟨a, g3.symm, ?_⟩
  rcases g5 with g | g
  · rw [g.1] at b
    exact absurd b.1 (by decide)
  · exact ⟨g.2.2.2.2.1, g.2.2.2.2.2.1⟩
theorem qA_valueAt {σ : xw_M} {o : Option Nat} {Z : Int32 → xw_M → Prop} (H : m_C σ0 τ0 nb nd ns nf live nr sz F) (hF : fA σ0 σ) (ho : ∀ m, o = some m → m < nf) (h : Z (m_vo σ0 o) σ) : xu_X1_valueAt σ (o_ix o) Z := by
  obtain ⟨-, -, -, -, -, -, ⟨w1, w2, w3, w4⟩, -⟩ := id H
  have e : (σ.1 5 6 - 1).toInt = (nf : Int) - 1 := by
    rw [hF 5 (by decide) (by decide), w2, i_sub (by rw [i_nI (by omega), i_1]; omega) (by rw [i_nI (by omega), i_1]; omega), i_nI (by omega), i_1]
  cases o with
  | none => exact pA_within (fun g _ => absurd g (by decide)) (fun _ => ⟨fun _ => h, fun g => absurd rfl g⟩)
  | some m =>
    have hm := ho m rfl
    refine pA_within (fun _ _ => ⟨fun g => absurd g (by decide), fun _ => ⟨(show vp_in (nI m) 200 from vp_in_nI (by omega) (by decide)), ?_⟩⟩) (fun g => absurd ⟨by show (0 : Int32).toInt ≤ (nI m).toInt; rw [i_0, i_nI (by omega)]; omega, by show (nI m).toInt ≤ _; rw [e, i_nI (by omega)]; omega⟩ g)
    show Z (σ.1 42 (nI m).toNatClampNeg) σ
    rw [nI_clamp (by omega), hF 42 (by decide) (by decide)]
    exact h
theorem m_l1k {s d n : Nat} (hn : n ≤ nf) : ∀ m, m_l1 σ0 s d n = some m → m < nf := fun m h => by have := (l_last_some h).1; omega
theorem m_l2k {s d n : Nat} (hn : n ≤ nf) : ∀ m, m_l2 σ0 s d n = some m → m < nf := by
  intro m h
  unfold m_l2 at h
  cases q : m_l1 σ0 s d n with
  | none => rw [q] at h; cases h
  | some j =>
    rw [q] at h
    have := m_l1k (nf := nf) hn j q
    have := (l_last_some h).1
    omega
theorem m_l3k {s d n : Nat} (hn : n ≤ nf) : ∀ m, m_l3 σ0 s d n = some m → m < nf := by
  intro m h
  unfold m_l3 at h
  cases q : m_l2 σ0 s d n with
  | none => rw [q] at h; cases h
  | some j =>
    rw [q] at h
    have := m_l2k (nf := nf) hn j q
    have := (l_last_some h).1
    omega
theorem qA_held {σ : xw_M} {s d n : Nat} {Z : Int32 → xw_M → Prop} (H : m_C σ0 τ0 nb nd ns nf live nr sz F) (hF : fA σ0 σ) (hn : n ≤ nf) (h : Z (m_held σ0 s d n) σ) : xu_X1_heldMeasure σ (nI s) (nI d) (nI n) Z := by
  have w1 := H.2.2.2.2.2.2.1.1
  refine qA_last (k := 3) (o := some n) H hF (fun m e => by cases e; exact hn) ?_
  show xu_X1_lastOf σ _ _ _ (o_ix (m_l1 σ0 s d n)) _
  refine qA_last (k := 3) H hF (fun m e => by have := m_l1k (nf := nf) hn m e; omega) ?_
  show xu_X1_lastOf σ _ _ _ (o_ix (m_l2 σ0 s d n)) _
  refine qA_last (k := 3) H hF (fun m e => by have := m_l2k (nf := nf) hn m e; omega) ?_
  refine qA_valueAt H hF (m_l1k hn) (qA_valueAt H hF (m_l2k hn) (qA_valueAt H hF (m_l3k hn) ?_))
  have E1 : l_lastO (m_P σ0 3 s d) (some n) = m_l1 σ0 s d n := rfl
  have E2 : l_lastO (m_P σ0 3 s d) (m_l1 σ0 s d n) = m_l2 σ0 s d n := rfl
  have E3 : l_lastO (m_P σ0 3 s d) (m_l2 σ0 s d n) = m_l3 σ0 s d n := rfl
  simp only [E1, E2, E3]
  unfold m_held at h
  have ne : ∀ j : Nat, j < nf → ¬ o_ix (some j) = -1 := by
    intro j hj
    show ¬ nI j = -1
    rw [i_eq, i_nI (by omega), i_m1]
    omega
  have k2 := m_l2k (nf := nf) (σ0 := σ0) (s := s) (d := d) hn
  have k3 := m_l3k (nf := nf) (σ0 := σ0) (s := s) (d := d) hn
  generalize m_l2 σ0 s d n = o2 at *
  generalize m_l3 σ0 s d n = o3 at *
  cases o2 with
  | none => exact ⟨fun g => absurd rfl g, fun _ => h⟩
  | some j =>
    refine ⟨fun _ => ?_, fun g => absurd g (ne j (k2 j rfl))⟩
    cases o3 with
    | none => exact ⟨fun g => absurd rfl g, fun _ => h⟩
    | some k => exact ⟨fun _ => h, fun g => absurd g (ne k (k3 k rfl))⟩
end MEAS
