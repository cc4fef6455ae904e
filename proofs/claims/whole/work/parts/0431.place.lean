/-! the class places a BREED -/
def a_rel (V : pV) (σ : xw_M) (acc : List pE) : Prop := ∀ p, p ∈ acc → σ.1 (66 + 5) (4 * p.1) = nI p.2.1 ∧ σ.1 (66 + 5) (4 * p.1 + 1) = nI p.2.2.1 ∧ σ.1 (66 + 5) (4 * p.1 + 2) = nI p.2.2.2 ∧ σ.1 (66 + 5) (4 * p.1 + 3) = nI (p_end V p)
def a_msk (P : Int32) (acc : List pE) : Prop := ∀ o, o < 6 → (bt P o = true ↔ ∃ p, p ∈ acc ∧ p.1 = o)
def a_env (V : pV) (nb : Nat) (σ : xw_M) : Prop := (∀ b, b < nb → σ.1 45 b = nI (V.1 b) ∧ (p_B V b → σ.1 46 b = V.2.1 b) ∧ σ.1 47 b = V.2.2.1 b) ∧ σ.1 7 7 = nI V.2.2.2
def a_S (V : pV) (nb : Nat) (σ : xw_M) (P : Int32) (acc : List pE) : Prop := p_V V ∧ nb ≤ 6 ∧ acc.length ≤ 6 ∧ p_ok V nb acc ∧ a_env V nb σ ∧ a_rel V σ acc ∧ a_msk P acc
theorem p_bd {V : pV} {nb : Nat} {acc : List pE} {p : pE} (hl : acc.length ≤ 6) (ok : p_ok V nb acc) (hp : p ∈ acc) : p.2.2.2 ≤ 1080 ∧ p_end V p ≤ 1080 ∧ p.2.2.2 + V.1 p.1 = p_end V p := by
  have := p_end_le (V := V) hp
  have := ok.1
  have e : p.2.2.2 + V.1 p.1 = p_end V p := rfl
  omega
theorem i_nm {k : Nat} (h : k < 2 ^ 31) : ¬ nI k = -1 := by rw [i_eq, i_nI h, i_m1]; omega
section PLACE
variable {V : pV} {nb : Nat} {σ : xw_M} {P : Int32} {acc : List pE} {b t : Nat}
theorem a_mean {Z : Int32 → xw_M → Prop} (H : a_S V nb σ P acc) (hb : b < nb) (ht : t ≤ 5000) (h : ∀ x, (∀ i, i < 32 → (bt x i = true ↔ ∃ p, p ∈ acc ∧ p.1 = i ∧ p_ov V b t p)) → Z x σ) : xu_X4_meanwhile σ (nI b) (nI t) P Z := by
  obtain ⟨hV, n6, l6, ok, ⟨en, er⟩, rel, msk⟩ := H
  have tb := hV.2.2.1 b
  intro K hK
  have key : ∀ (k o : Nat) (x : Int32), o + k = 6 → (∀ i, i < 32 → (bt x i = true ↔ ∃ p, p ∈ acc ∧ p.1 = i ∧ i < o ∧ p_ov V b t p)) → K σ x (nI o) := by
    intro k
    induction k with
    | zero =>
      intro o x ho hx
      obtain rfl : o = 6 := by omega
      apply hK
      refine ⟨fun _ => h x (fun i hi => ?_), fun z => absurd (by decide) z⟩
      rw [hx i hi]
      constructor
      · rintro ⟨p, p1, p2, _, p3⟩
        exact ⟨p, p1, p2, p3⟩
      · rintro ⟨p, p1, p2, p3⟩
        exact ⟨p, p1, p2, by have := (ok.2.2 p p1).1; omega, p3⟩
    | succ k ih =>
      intro o x ho hx
      apply hK
      unfold xb_X4_meanwhile_6
      rw [nI_1, nI_clamp (n := b) (by omega), (en b hb).1, nI_add]
      refine ⟨fun z => absurd z (nI_ge (b := 6) (by omega) (by decide)), fun _ => ⟨fun z => ?_, fun z => ⟨vp_in_nI (by omega) (by decide), ?_⟩⟩⟩
      · rw [bt_test P (by omega), msk o (by omega)] at z
        refine ih (o + 1) x (by omega) (fun i hi => ?_)
        rw [hx i hi]
        constructor
        · rintro ⟨p, p1, p2, p3, p4⟩
          exact ⟨p, p1, p2, by omega, p4⟩
        · rintro ⟨p, p1, p2, p3, p4⟩
          have : i ≠ o := fun q => z ⟨p, p1, by omega⟩
          exact ⟨p, p1, p2, by omega, p4⟩
      · rw [bt_test P (by omega), msk o (by omega)] at z
        obtain ⟨p, p1, p2⟩ := z
        have ov : ∀ q, q ∈ acc → q.1 = o → (m_ovl σ 5 o (nI t) (nI (t + V.1 b)) = true ↔ p_ov V b t q) := by
          intro q q1 q2
          obtain ⟨r0, r1, r2, r3⟩ := rel q q1
          have bd := p_bd l6 ok q1
          have j12 := (ok.2.2 q q1).2.2
          rw [q2] at r0 r1 r2 r3
          unfold m_ovl
          rw [r1, r2, r3, Bool.and_eq_true, Bool.and_eq_true, decide_eq_true_iff, decide_eq_true_iff, decide_eq_true_iff, nI_ltI (by omega) (by omega), nI_ltI (by omega) (by omega)]
          exact ⟨fun g => g.2, fun g => ⟨i_nm (by omega), g⟩⟩
        refine pA_over (by omega) (fun e => ⟨fun z => absurd z (by decide), fun _ => ?_⟩) (fun e => ⟨fun _ => ?_, fun z => absurd rfl z⟩)
        · refine ih (o + 1) _ (by omega) (fun i hi => ?_)
          rw [bt_set _ (by omega) hi, Bool.or_eq_true, decide_eq_true_iff, hx i hi]
          constructor
          · rintro (⟨q, q1, q2, q3, q4⟩ | rfl)
            · exact ⟨q, q1, q2, by omega, q4⟩
            · exact ⟨p, p1, p2, by omega, (ov p p1 p2).mp e⟩
          · rintro ⟨q, q1, q2, q3, q4⟩
            by_cases c : i = o
            · exact Or.inr c
            · exact Or.inl ⟨q, q1, q2, by omega, q4⟩
        · refine ih (o + 1) _ (by omega) (fun i hi => ?_)
          rw [hx i hi]
          constructor
          · rintro ⟨q, q1, q2, q3, q4⟩
            exact ⟨q, q1, q2, by omega, q4⟩
          · rintro ⟨q, q1, q2, q3, q4⟩
            by_cases c : i = o
            · have := (ov q q1 (by omega)).mpr q4
              rw [e] at this
              exact absurd this (by decide)
            · exact ⟨q, q1, q2, by omega, q4⟩
  exact key 6 0 0 (by omega) (fun i hi => by
    rw [b_0]
    constructor
    · intro z; exact absurd z (by decide)
    · rintro ⟨q, q1, q2, q3, q4⟩; omega)
theorem a_taken {S : pE → Prop} {x : Int32} {w : Nat} {sel : pE → Nat} {Z : Int32 → xw_M → Prop} (H : a_S V nb σ P acc) (hw : w < 4) (hs : ∀ p, p ∈ acc → σ.1 (66 + 5) (4 * p.1 + w) = nI (sel p) ∧ sel p < 32) (hx : ∀ i, i < 32 → (bt x i = true ↔ ∃ p, p ∈ acc ∧ p.1 = i ∧ S p)) (h : ∀ y, (∀ i, i < 32 → (bt y i = true ↔ ∃ p, p ∈ acc ∧ S p ∧ sel p = i)) → Z y σ) : xu_X4_taken σ x (nI w) Z := by
  obtain ⟨hV, n6, l6, ok, ⟨en, er⟩, rel, msk⟩ := H
  intro K hK
  have key : ∀ (k o : Nat) (y : Int32), o + k = 6 → (∀ i, i < 32 → (bt y i = true ↔ ∃ p, p ∈ acc ∧ p.1 < o ∧ S p ∧ sel p = i)) → K σ y (nI o) := by
    intro k
    induction k with
    | zero =>
      intro o y ho hy
      obtain rfl : o = 6 := by omega
      apply hK
      refine ⟨fun _ => h y (fun i hi => ?_), fun z => absurd (by decide) z⟩
      rw [hy i hi]
      constructor
      · rintro ⟨p, p1, p2, p3⟩
        exact ⟨p, p1, p3⟩
      · rintro ⟨p, p1, p3⟩
        exact ⟨p, p1, by have := (ok.2.2 p p1).1; omega, p3⟩
    | succ k ih =>
      intro o y ho hy
      apply hK
      unfold xb_X4_taken_5
      rw [nI_1]
      refine ⟨fun z => absurd z (nI_ge (b := 6) (by omega) (by decide)), fun _ => ⟨fun z => ?_, fun z => ?_⟩⟩
      · rw [bt_test x (by omega), hx o (by omega)] at z
        refine ih (o + 1) y (by omega) (fun i hi => ?_)
        rw [hy i hi]
        constructor
        · rintro ⟨p, p1, p2, p3⟩
          exact ⟨p, p1, by omega, p3⟩
        · rintro ⟨p, p1, p2, p3, p4⟩
          have : p.1 ≠ o := fun q => z ⟨p, p1, q, p3⟩
          exact ⟨p, p1, by omega, p3, p4⟩
      · rw [bt_test x (by omega), hx o (by omega)] at z
        obtain ⟨p, p1, p2, p3⟩ := z
        refine pA_at (by omega) hw ?_
        obtain ⟨e1, e2⟩ := hs p p1
        rw [← p2, e1, p2]
        refine ih (o + 1) _ (by omega) (fun i hi => ?_)
        rw [bt_set _ e2 hi, Bool.or_eq_true, decide_eq_true_iff, hy i hi]
        constructor
        · rintro (⟨q, q1, q2, q3⟩ | rfl)
          · exact ⟨q, q1, by omega, q3⟩
          · exact ⟨p, p1, by omega, p3, rfl⟩
        · rintro ⟨q, q1, q2, q3, q4⟩
          by_cases c : q.1 = o
          · refine Or.inr ?_
            obtain ⟨f1, f2⟩ := hs q q1
            rw [c, ← p2, e1] at f1
            rw [← q4]
            exact ((nI_eq (by omega) (by omega)).mp f1).symm
          · exact Or.inl ⟨q, q1, by omega, q3, q4⟩
  exact key 6 0 0 (by omega) (fun i hi => by
    rw [b_0]
    constructor
    · intro z; exact absurd z (by decide)
    · rintro ⟨q, q1, q2, q3⟩; omega)
theorem b_free {x y : Int32} : ¬ x &&& (y ^^^ (-1)) = 0 ↔ ∃ i, i < 32 ∧ bt x i = true ∧ ¬ bt y i = true := by
  constructor
  · intro z
    obtain ⟨k, k1, k2, _⟩ := b_low z
    rw [b_and, b_xor, b_m1 k k1] at k2
    refine ⟨k, k1, ?_⟩
    cases hx : bt x k <;> cases hy : bt y k <;> simp [hx, hy] at k2 ⊢
  · rintro ⟨i, i1, i2, i3⟩ z
    have := congrArg (fun q => bt q i) z
    simp only [b_and, b_xor, b_m1 i i1, b_0, i2] at this
    cases hy : bt y i
    · rw [hy] at this; exact absurd this (by decide)
    · exact i3 hy
theorem a_fits {Z : Int32 → xw_M → Prop} (H : a_S V nb σ P acc) (hb : b < nb) (hB : p_B V b) (ht : t ≤ 5000) (h1 : p_fit V acc b t → Z 1 σ) (h0 : ¬ p_fit V acc b t → Z 0 σ) : xu_X4_fits σ (nI b) (nI t) P Z := by
  obtain ⟨hV, n6, l6, ok, ⟨en, er⟩, rel, msk⟩ := id H
  intro K31 K65 h31 h65
  refine a_mean H hb ht (fun x hx => ?_)
  refine a_taken (w := 0) (S := p_ov V b t) (sel := fun p => p.2.1) H (by decide) (fun p hp => ⟨(rel p hp).1, by have := (ok.2.2 p hp).2.1; have := hV.2.1; omega⟩) hx (fun y hy => ?_)
  have yR : ∀ i, V.2.2.2 ≤ i → i < 32 → bt y i = false := by
    intro i i1 i2
    cases hq : bt y i
    · rfl
    · obtain ⟨p, p1, p2, p3⟩ := (hy i i2).mp hq
      have := (ok.2.2 p p1).2.1
      omega
  have R3 := hV.2.1
  obtain ⟨k, hk, ek⟩ := b_small (fun i (i1 : 20 ≤ i) i2 => yR i (by omega) i2)
  have all : V.2.2.2 ≤ fb_ct (fun i => bt y i) V.2.2.2 ↔ ¬ ∃ i, i < V.2.2.2 ∧ ¬ p_r V acc b t i := by
    have le := fb_ct_le (fun i => bt y i) V.2.2.2
    constructor
    · rintro g ⟨i, i1, i2⟩
      exact i2 ((hy i (by omega)).mp (fb_ct_all (p := fun i => bt y i) (n := V.2.2.2) |>.mp (by omega) i i1))
    · intro g
      have : fb_ct (fun i => bt y i) V.2.2.2 = V.2.2.2 := fb_ct_all.mpr (fun i hi => (hy i (by omega)).mpr (Classical.byContradiction fun no => g ⟨i, hi, no⟩))
      omega
  have s31 : ∀ s0 : Int32, ((s0 = 0 ∧ ¬ ∃ i, i < V.2.2.2 ∧ ¬ p_r V acc b t i) ∨ (s0 = 1 ∧ ∃ i, i < V.2.2.2 ∧ ¬ p_r V acc b t i)) → K31 σ s0 x := by
    intro s0 hs0
    apply h31
    refine ⟨vp_in_nI (by omega) (by decide), ?_⟩
    refine a_taken (w := 1) (S := p_ov V b t) (sel := fun p => p.2.2.1) H (by decide) (fun p hp => ⟨(rel p hp).2.1, by have := (ok.2.2 p hp).2.2; omega⟩) hx (fun z hz => ?_)
    rw [nI_clamp (n := b) (by omega), (en b hb).2.1 hB]
    have jf : ¬ V.2.1 b &&& (z ^^^ (-1)) = 0 ↔ ∃ i, i < 12 ∧ bt (V.2.1 b) i = true ∧ ¬ p_j V acc b t i := by
      rw [b_free]
      constructor
      · rintro ⟨i, i1, i2, i3⟩
        have i12 : i < 12 := Nat.not_le.mp (fun c => by rw [hV.2.2.2 b i c i1] at i2; exact absurd i2 (by decide))
        exact ⟨i, i12, i2, fun g => i3 ((hz i i1).mpr g)⟩
      · rintro ⟨i, i1, i2, i3⟩
        exact ⟨i, by omega, i2, fun g => i3 ((hz i (by omega)).mp g)⟩
    have s65 : ∀ s1 : Int32, ((s1 = 0 ∧ ¬ ∃ i, i < 12 ∧ bt (V.2.1 b) i = true ∧ ¬ p_j V acc b t i) ∨ (s1 = 1 ∧ ∃ i, i < 12 ∧ bt (V.2.1 b) i = true ∧ ¬ p_j V acc b t i)) → ∀ (k o : Nat) (v7 : Int32), o + k = 6 → ((v7 = 0 ∧ ∃ p, p ∈ acc ∧ p.1 < o ∧ p_ov V b t p ∧ ¬ V.2.2.1 p.1 &&& V.2.2.1 b = 0) ∨ (v7 = 1 ∧ ∀ p, p ∈ acc → p.1 < o → p_ov V b t p → V.2.2.1 p.1 &&& V.2.2.1 b = 0)) → K65 σ x s0 s1 v7 (nI o) := by
      intro s1 hs1 k
      induction k with
      | zero =>
        intro o v7 ho hv
        obtain rfl : o = 6 := by omega
        apply h65
        refine ⟨fun _ => ⟨fun z0 => ⟨by simp, h0 (fun f => ?_)⟩, fun z0 => ⟨fun z1 => ⟨by simp, h0 (fun f => ?_)⟩, fun z1 => ⟨fun z2 => ⟨by simp, h0 (fun f => ?_)⟩, fun z2 => ⟨by simp, h1 ?_⟩⟩⟩⟩, fun z => absurd (by decide) z⟩
        · rcases hs0 with ⟨_, g⟩ | ⟨g, _⟩
          · exact g f.1
          · rw [g] at z0; exact absurd z0 (by decide)
        · rcases hs1 with ⟨_, g⟩ | ⟨g, _⟩
          · exact g f.2.1
          · rw [g] at z1; exact absurd z1 (by decide)
        · rcases hv with ⟨_, p, p1, p2, p3⟩ | ⟨g, _⟩
          · exact f.2.2 ⟨p, p1, p3⟩
          · rw [g] at z2; exact absurd z2 (by decide)
        · refine ⟨?_, ?_, ?_⟩
          · rcases hs0 with ⟨g, _⟩ | ⟨_, g⟩
            · exact absurd g z0
            · exact g
          · rcases hs1 with ⟨g, _⟩ | ⟨_, g⟩
            · exact absurd g z1
            · exact g
          · rcases hv with ⟨g, _⟩ | ⟨_, g⟩
            · exact absurd g z2
            · rintro ⟨p, p1, p2, p3⟩
              exact p3 (g p p1 (by have := (ok.2.2 p p1).1; omega) p2)
      | succ k ih =>
        intro o v7 ho hv
        apply h65
        unfold xb_X4_fits_65
        rw [nI_1]
        refine ⟨fun z => absurd z (nI_ge (b := 6) (by omega) (by decide)), fun _ => ⟨fun z => ?_, fun z => ⟨vp_in_nI (by omega) (by decide), vp_in_nI (by omega) (by decide), ?_⟩⟩⟩
        · rw [bt_test x (by omega), hx o (by omega)] at z
          refine ih (o + 1) v7 (by omega) ?_
          rcases hv with ⟨g, p, p1, p2, p3⟩ | ⟨g, f⟩
          · exact Or.inl ⟨g, p, p1, by omega, p3⟩
          · refine Or.inr ⟨g, fun p p1 p2 p3 => f p p1 ?_ p3⟩
            have : p.1 ≠ o := fun q => z ⟨p, p1, q, p3⟩
            omega
        · rw [bt_test x (by omega), hx o (by omega)] at z
          obtain ⟨p, p1, p2, p3⟩ := z
          have po := (ok.2.2 p p1).1
          rw [nI_clamp (n := o) (by omega), nI_clamp (n := b) (by omega), (en o (by omega)).2.2, (en b hb).2.2]
          refine ⟨fun z => ih (o + 1) v7 (by omega) ?_, fun z => ih (o + 1) 0 (by omega) (Or.inl ⟨rfl, p, p1, by omega, p3, by rw [p2]; exact z⟩)⟩
          rcases hv with ⟨g, q, q1, q2, q3⟩ | ⟨g, f⟩
          · exact Or.inl ⟨g, q, q1, by omega, q3⟩
          · refine Or.inr ⟨g, fun q q1 q2 q3 => ?_⟩
            by_cases c : q.1 = o
            · rw [c]; exact z
            · exact f q q1 (by omega) q3
    have start : (1 : Int32) = 0 ∧ (∃ p, p ∈ acc ∧ p.1 < 0 ∧ p_ov V b t p ∧ ¬ V.2.2.1 p.1 &&& V.2.2.1 b = 0) ∨ (1 : Int32) = 1 ∧ ∀ p, p ∈ acc → p.1 < 0 → p_ov V b t p → V.2.2.1 p.1 &&& V.2.2.1 b = 0 := Or.inr ⟨rfl, fun p _ q => absurd q (by omega)⟩
    refine ⟨fun g => s65 0 (Or.inl ⟨rfl, fun f => (jf.mpr f) g⟩) 6 0 1 (by omega) start, fun g => s65 1 (Or.inr ⟨rfl, jf.mp g⟩) 6 0 1 (by omega) start⟩
  rw [ek] at all ⊢
  refine qJ_bits hk ?_
  rw [ek] at yR
  rw [fb_ct_cut (p := fun i => bt (nI k) i) (m := V.2.2.2) (n := 20) (by omega) (fun i i1 i2 => yR i i1 (by omega)), er]
  have le := fb_ct_le (fun i => bt (nI k) i) V.2.2.2
  refine ⟨fun g => s31 0 (Or.inl ⟨rfl, all.mp ((nI_leI (by omega) (by omega)).mp g)⟩), fun g => s31 1 (Or.inr ⟨rfl, Classical.byContradiction fun no => g (nI_le (all.mpr no) (by omega))⟩)⟩
def a_put (V : pV) (σ : xw_M) (b : Nat) (e : Nat × Nat × Nat) : xw_M := xw_i (xw_i (xw_i (xw_i σ (66 + 5) (4 * b) (nI e.1)) (66 + 5) (4 * b + 1) (nI e.2.1)) (66 + 5) (4 * b + 2) (nI e.2.2)) (66 + 5) (4 * b + 3) (nI (e.2.2 + V.1 b))
theorem pA_put {o : Nat} {r j t u : Int32} {Z : xw_M → Prop} (hb : b < 6) (h : Z (xw_i (xw_i (xw_i (xw_i σ (66 + o) (4 * b) r) (66 + o) (4 * b + 1) j) (66 + o) (4 * b + 2) t) (66 + o) (4 * b + 3) u)) : xu_X10_put σ o (nI b) r j t u Z := by
  have c0 : nI b * (4 : Int32) + (0 : Int32) = nI (4 * b) := by rw [show (0 : Int32) = nI 0 from rfl, ix4]; rfl
  have c1 : nI b * (4 : Int32) + (1 : Int32) = nI (4 * b + 1) := by rw [show (1 : Int32) = nI 1 from rfl, ix4]
  have c2 : nI b * (4 : Int32) + (2 : Int32) = nI (4 * b + 2) := by rw [show (2 : Int32) = nI 2 from rfl, ix4]
  have c3 : nI b * (4 : Int32) + (3 : Int32) = nI (4 * b + 3) := by rw [show (3 : Int32) = nI 3 from rfl, ix4]
  refine pA_within (fun _ _ => ⟨fun z => absurd z (by decide), fun _ => ?_⟩) (fun z => absurd ⟨by rw [i_0, i_nI (by omega)]; omega, by rw [i_5, i_nI (by omega)]; omega⟩ z)
  rw [c0, c1, c2, c3, nI_clamp (n := 4 * b) (by omega), nI_clamp (n := 4 * b + 1) (by omega), nI_clamp (n := 4 * b + 2) (by omega), nI_clamp (n := 4 * b + 3) (by omega)]
  refine ⟨vp_in_nI (by omega) (by decide), fun σ3 e3 => ⟨vp_in_nI (by omega) (by decide), fun σ4 e4 => ⟨vp_in_nI (by omega) (by decide), fun σ5 e5 => ⟨vp_in_nI (by omega) (by decide), fun σ6 e6 => ?_⟩⟩⟩⟩
  rw [e6, e5, e4, e3]
  exact h
theorem a_place {e : Nat × Nat × Nat} {Z : xw_M → Prop} (H : a_S V nb σ P acc) (hb : b < nb) (hB : p_B V b) (he : p_is V acc b e) (h : Z (a_put V σ b e)) : xu_X4_placeBreed σ (nI b) P Z := by
  obtain ⟨hV, n6, l6, ok, ⟨en, er⟩, rel, msk⟩ := id H
  have le := p_is_le hV hB he
  have l1 := ok.1
  intro K hK
  have key : ∀ (k o v : Nat), o + k = 6 → (v = 1000000 ∨ (v ≤ 2000 ∧ p_fit V acc b v)) → (e.2.2 = 0 → v = 0) → (∀ p, p ∈ acc → p.1 < o → p_end V p = e.2.2 → v ≤ e.2.2) → K σ (nI v) (nI o) := by
    intro k
    induction k with
    | zero =>
      intro o v ho hv hv0 hve
      obtain rfl : o = 6 := by omega
      have vle : v ≤ e.2.2 := by
        rcases p_is_end he with z | ⟨p, p1, p2⟩
        · rw [hv0 z]; omega
        · exact hve p p1 (by have := (ok.2.2 p p1).1; omega) p2
      have ve : v = e.2.2 := by
        rcases hv with hv | ⟨_, hv⟩
        · omega
        · have : ¬ v < e.2.2 := fun c => he.2.1 v c hv
          omega
      subst ve
      apply hK
      refine ⟨fun _ => ?_, fun z => absurd (by decide) z⟩
      refine a_mean H hb (by omega) (fun x hx => ?_)
      refine a_taken (w := 0) (S := p_ov V b e.2.2) (sel := fun p => p.2.1) H (by decide) (fun p hp => ⟨(rel p hp).1, by have := (ok.2.2 p hp).2.1; have := hV.2.1; omega⟩) hx (fun y hy => ?_)
      obtain ⟨_, _, ⟨r1, r2, r3⟩, j1, j2, j3, j4⟩ := id he
      have R3 := hV.2.1
      refine qJ_ntz (k := e.1) (by omega) ?_ (fun i hi => ?_) ?_
      · rw [b_xor, b_m1 _ (by omega)]
        cases hq : bt y e.1
        · rfl
        · exact absurd ((hy e.1 (by omega)).mp hq) r2
      · rw [b_xor, b_m1 _ (by omega), (hy i (by omega)).mpr (r3 i hi)]
        rfl
      refine ⟨vp_in_nI (by omega) (by decide), ?_⟩
      refine a_taken (w := 1) (S := p_ov V b e.2.2) (sel := fun p => p.2.2.1) H (by decide) (fun p hp => ⟨(rel p hp).2.1, by have := (ok.2.2 p hp).2.2; omega⟩) hx (fun z hz => ?_)
      rw [nI_clamp (n := b) (by omega), (en b hb).2.1 hB]
      refine qJ_ntz (k := e.2.1) (by omega) ?_ (fun i hi => ?_) ?_
      · rw [b_and, b_xor, b_m1 _ (by omega), j2]
        cases hq : bt z e.2.1
        · rfl
        · exact absurd ((hz e.2.1 (by omega)).mp hq) j3
      · rw [b_and, b_xor, b_m1 _ (by omega)]
        cases hq : bt (V.2.1 b) i
        · rfl
        · rw [(hz i (by omega)).mpr (j4 i hi hq)]
          rfl
      refine ⟨vp_in_nI (by omega) (by decide), ?_⟩
      rw [(en b hb).1, nI_add]
      exact pA_put (by omega) h
    | succ k ih =>
      intro o v ho hv hv0 hve
      apply hK
      unfold xb_X4_placeBreed_20
      rw [nI_1]
      refine ⟨fun z => absurd z (nI_ge (b := 6) (by omega) (by decide)), fun _ => ⟨fun z => ?_, fun z => ?_⟩⟩
      · rw [bt_test P (by omega), msk o (by omega)] at z
        refine ih (o + 1) v (by omega) hv hv0 (fun p p1 p2 p3 => hve p p1 ?_ p3)
        have : p.1 ≠ o := fun q => z ⟨p, p1, q⟩
        omega
      · rw [bt_test P (by omega), msk o (by omega)] at z
        obtain ⟨p, p1, p2⟩ := z
        have bd := p_bd l6 ok p1
        have uni : ∀ q, q ∈ acc → q.1 = o → p_end V q = p_end V p := by
          intro q q1 q2
          have a := (rel q q1).2.2.2
          have c := (rel p p1).2.2.2
          rw [q2, ← p2, c] at a
          have bq := p_bd l6 ok q1
          exact ((nI_eq (by omega) (by omega)).mp a).symm
        refine pA_at (w := 3) (by omega) (by decide) ?_
        have c := (rel p p1).2.2.2
        rw [p2] at c
        rw [c]
        have v6 : v < 2 ^ 31 := by omega
        refine ⟨fun z => ?_, fun z => ?_⟩
        · have z2 := (nI_leI v6 (by omega)).mp z
          refine ih (o + 1) v (by omega) hv hv0 (fun q q1 q2 q3 => ?_)
          by_cases cq : q.1 = o
          · rw [← q3, uni q q1 cq]; exact z2
          · exact hve q q1 (by omega) q3
        · have z2 : ¬ v ≤ p_end V p := fun q => z (nI_le q (by omega))
          refine a_fits H hb hB (by omega) (fun f => ⟨fun z => absurd z (by decide), fun _ => ?_⟩) (fun f => ⟨fun _ => ?_, fun z => absurd rfl z⟩)
          · refine ih (o + 1) (p_end V p) (by omega) (Or.inr ⟨by omega, f⟩) (fun z0 => by have := hv0 z0; omega) (fun q q1 q2 q3 => ?_)
            by_cases cq : q.1 = o
            · rw [← q3, uni q q1 cq]; exact Nat.le_refl _
            · have := hve q q1 (by omega) q3
              omega
          · refine ih (o + 1) v (by omega) hv hv0 (fun q q1 q2 q3 => ?_)
            by_cases cq : q.1 = o
            · rw [uni q q1 cq] at q3
              rw [q3] at f
              exact absurd he.1 f
            · exact hve q q1 (by omega) q3
  refine a_fits (t := 0) H hb hB (by omega) (fun f => ⟨fun z => absurd z (by decide), fun _ => ?_⟩) (fun f => ⟨fun _ => ?_, fun z => absurd rfl z⟩)
  · exact key 6 0 0 (by omega) (Or.inr ⟨by omega, f⟩) (fun _ => rfl) (fun p _ q => absurd q (by omega))
  · refine key 6 0 1000000 (by omega) (Or.inl rfl) (fun z => ?_) (fun p _ q => absurd q (by omega))
    have := he.1
    rw [z] at this
    exact absurd this f
end PLACE
