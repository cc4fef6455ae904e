/-! enter, clash, count -/
theorem r_R_entry {σ τ : xw_M} {s d ns nd : Nat} (h : r_R tX σ τ) (e1 : σ.1 0 9 = nI ns) (l1 : ns ≤ 5) (hs : s < ns) (e2 : σ.1 4 12 = nI nd) (l2 : nd ≤ 20) (hd : d < nd) : r_R tX (xw_i σ (11 + s) 3 (σ.1 (11 + s) 3 ||| ((1 : Int32) <<< (nI d &&& 31)))) (xw_i τ 37 (20 * s + d) 1) := by
  obtain ⟨nt, nb, nd', ns', nf, h1, h2, h3, h4, h5, h6, h7, h8, h9, h10, h11⟩ := h
  have q1 := h7.1
  have q2 := h8.1
  have en : ns' = ns := (nI_eq (by omega) (by omega)).mp (h8.2.1.symm.trans e1)
  have ed : nd' = nd := (nI_eq (by omega) (by omega)).mp (h7.2.1.symm.trans e2)
  subst en ed
  have a : ∀ c, c ≠ 11 + s → (xw_i σ (11 + s) 3 (σ.1 (11 + s) 3 ||| ((1 : Int32) <<< (nI d &&& 31)))).1 c = σ.1 c := fun c hc => xw_ne hc
  have a3 : (xw_i σ (11 + s) 3 (σ.1 (11 + s) 3 ||| ((1 : Int32) <<< (nI d &&& 31)))).1 (11 + s) 3 = σ.1 (11 + s) 3 ||| ((1 : Int32) <<< (nI d &&& 31)) := xw_eq
  have aj : ∀ j, j ≠ 3 → (xw_i σ (11 + s) 3 (σ.1 (11 + s) 3 ||| ((1 : Int32) <<< (nI d &&& 31)))).1 (11 + s) j = σ.1 (11 + s) j := fun j hj => xw_nj hj
  have b : ∀ c, c ≠ 37 → (xw_i τ 37 (20 * s + d) 1).1 c = τ.1 c := fun c hc => xw_ne hc
  have b3 : (xw_i τ 37 (20 * s + d) 1).1 37 (20 * s + d) = 1 := xw_eq
  have bj : ∀ j, j ≠ 20 * s + d → (xw_i τ 37 (20 * s + d) 1).1 37 j = τ.1 37 j := fun j hj => xw_nj hj
  have b2 : (xw_i τ 37 (20 * s + d) 1).2 = τ.2 := rfl
  generalize xw_i σ (11 + s) 3 (σ.1 (11 + s) 3 ||| ((1 : Int32) <<< (nI d &&& 31))) = σ1 at *
  generalize xw_i τ 37 (20 * s + d) 1 = τ1 at *
  refine ⟨nt, nb, nd', ns', nf, ?_, ?_, ?_, ?_, ?_, ?_, ?_, ?_, ?_, ?_, tX_ok _ _ _ _ h11 (by rw [b2]) (fun c hc => a c (by omega)) (by rw [b 0 (by decide)]) (fun c c1 c2 => b c (by omega))⟩
  · rw [a 1 (by omega), b 0 (by decide), a 24 (by omega), b 1 (by decide)]; exact h1
  · rw [a 28 (by omega), b 25 (by decide)]; exact h2
  · rw [a 29 (by omega), b 26 (by decide)]; exact h3
  · rw [a 0 (by omega), b 0 (by decide)]; exact h4
  · rw [a 0 (by omega), b 0 (by decide)]; exact h5
  · rw [a 4 (by omega), b 0 (by decide), a 30 (by omega), a 31 (by omega), a 32 (by omega), a 33 (by omega), b 27 (by decide), b 28 (by decide), b 29 (by decide), b 30 (by decide)]; exact h6
  · rw [a 4 (by omega), b 0 (by decide), a 34 (by omega), a 35 (by omega), a 36 (by omega), a 37 (by omega), a 38 (by omega), b 31 (by decide), b 32 (by decide), b 33 (by decide), b 34 (by decide), b 35 (by decide)]; exact h7
  · rw [a 0 (by omega), b 0 (by decide), b 36 (by decide)]
    obtain ⟨p1, p2, p3, p4, p5, p6⟩ := h8
    refine ⟨p1, p2, p3, fun i hi => ?_, fun i hi => ?_, fun i hi e he => ?_⟩
    · show σ1.1 (11 + i) 0 = nI i
      by_cases c : i = s
      · subst c; rw [aj 0 (by decide)]; exact p4 i hi
      · rw [a _ (by omega)]; exact p4 i hi
    · show σ1.1 (11 + i) 2 = τ.1 36 i ∧ _
      by_cases c : i = s
      · subst c; rw [aj 2 (by decide)]; exact p5 i hi
      · rw [a _ (by omega)]; exact p5 i hi
    · show (bt (σ1.1 (11 + i) 3) e = true → i < ns' ∧ e < nd') ∧ (e < 20 → τ1.1 37 (20 * i + e) = if bt (σ1.1 (11 + i) 3) e then 1 else 0)
      by_cases c : i = s
      · subst c
        rw [a3, bt_set _ (by omega) he]
        refine ⟨fun g => ?_, fun g => ?_⟩
        · rw [Bool.or_eq_true, decide_eq_true_iff] at g
          rcases g with g | g
          · exact (p6 i hi e he).1 g
          · exact ⟨hs, by omega⟩
        · by_cases f : e = d
          · subst f; rw [b3]; simp
          · rw [bj _ (by omega), (p6 i hi e he).2 g]
            simp [f]
      · rw [a _ (by omega)]
        refine ⟨(p6 i hi e he).1, fun g => ?_⟩
        rw [bj _ (by omega)]
        exact (p6 i hi e he).2 g
  · rw [a 5 (by omega), b 0 (by decide), a 39 (by omega), a 40 (by omega), a 41 (by omega), a 42 (by omega), a 43 (by omega), b 38 (by decide), b 39 (by decide), b 40 (by decide), b 41 (by decide)]; exact h9
  · rw [b 44 (by decide), b 45 (by decide), b 46 (by decide), b 47 (by decide)]
    exact r_plan_c h10 (fun i hi => a _ (by omega))
theorem s_enter : ∀ σ τ, r_R tX σ τ → ∀ a0 a1 : Int32, xu_X11_enter σ a0 a1 (fun r σ1 => xu_X12_enter τ a0 a1 (fun r2 τ1 => r = r2 ∧ r_R tX σ1 τ1)) := by
  intro σ τ hR a b
  obtain ⟨nb, nd, ns, nf, live, nr, sz, F, H⟩ := r_R_C hR
  obtain ⟨-, -, -, ⟨b1', -⟩, ⟨q1, q2, q3, q4⟩, ⟨p1, p2, p3, -⟩, -⟩ := id H
  refine pA_show p2 (by omega) (fun a1 a2 => ⟨fun g => absurd g (by decide), fun _ => ?_⟩) (fun g => ⟨fun _ => pB_show p3 (by omega) (fun z1 z2 => absurd ⟨z1, z2⟩ g) (fun _ => ⟨fun _ => ⟨rfl, hR⟩, fun z => absurd rfl z⟩), fun z => absurd rfl z⟩)
  refine pA_dog q2 (by omega) (fun b1 b2 => ⟨fun g => absurd g (by decide), fun _ => ⟨i_in a1 (by omega), ?_⟩⟩) (fun g => ⟨fun _ => pB_show p3 (by omega) (fun _ _ => ⟨fun z => absurd z (by decide), fun _ => pB_dog q3 (by omega) (fun z1 z2 => absurd ⟨z1, z2⟩ g) (fun _ => ⟨fun _ => ⟨rfl, hR⟩, fun z => absurd rfl z⟩)⟩) (fun z => absurd ⟨a1, a2⟩ z), fun z => absurd rfl z⟩)
  obtain ⟨s, hs, rfl, -, es⟩ := i_of (n := ns) a1 a2
  obtain ⟨d, hd, rfl, -, ed⟩ := i_of (n := nd) b1 b2
  obtain ⟨m1, m2, m3⟩ := m_brk H hd
  have eb := m_entB H hs hd
  have vx : vp_in ((20 : Int32) * nI s + nI d) 100 := by rw [ix20]; exact vp_in_nI (by omega) (by decide)
  have cx : ((20 : Int32) * nI s + nI d).toNatClampNeg = 20 * s + d := by rw [ix20]; exact nI_clamp (by omega)
  rw [es]
  refine qA_entry (by omega) (fun g => ⟨fun z => absurd z (by decide), fun _ => ?_⟩) (fun g => ⟨fun _ => ⟨i_in a1 (by omega), ?_⟩, fun z => absurd rfl z⟩)
  · refine pB_show p3 (by omega) (fun _ _ => ⟨fun z => absurd z (by decide), fun _ => pB_dog q3 (by omega) (fun _ _ => ⟨fun z => absurd z (by decide), fun _ => ⟨vx, fun z => ?_, fun _ => ⟨rfl, hR⟩⟩⟩) (fun z => absurd ⟨b1, b2⟩ z)⟩) (fun z => absurd ⟨a1, a2⟩ z)
    rw [cx, eb, show m_ent σ s d = true from g] at z
    exact absurd z (by decide)
  refine qA_vars H fA_0 hs hd (fun σ1 F1 _ => ?_)
  have fin : ∀ X : Int32 → xw_M → Prop, (∀ τ1, fB τ τ1 → m_cls σ F nr s d = -1 → X (-2) τ1) → (∀ τ1, fB τ τ1 → ¬ m_cls σ F nr s d = -1 → ¬ m_jud σ s (m_br σ d) = -1 → X (-3) τ1) → (∀ τ1, fB τ τ1 → ¬ m_cls σ F nr s d = -1 → m_jud σ s (m_br σ d) = -1 → X (m_cls σ F nr s d) (xw_i τ1 37 (20 * s + d) 1)) → xu_X12_enter τ (nI s) (nI d) X := by
    intro X x1 x2 x3
    refine pB_show p3 (by omega) (fun _ _ => ⟨fun z => absurd z (by decide), fun _ => pB_dog q3 (by omega) (fun _ _ => ⟨fun z => absurd z (by decide), fun _ => ⟨vx, fun _ => ?_, fun z => ?_⟩⟩) (fun z => absurd ⟨b1, b2⟩ z)⟩) (fun z => absurd ⟨a1, a2⟩ z)
    · refine qB_class H fB_0 hs hd (fun τ1 G1 => ⟨fun w => ⟨vp_in_nI (by omega) (by decide), ?_⟩, fun w => x1 τ1 G1 w⟩)
      have e31 : τ1.1 31 (nI d).toNatClampNeg = nI (m_br σ d) := by rw [nI_clamp (by omega), G1.1 31 (by decide) (by decide)]; exact m3
      rw [e31, ix6, nI_clamp (by omega), G1.1 45 (by decide) (by decide), (m_judk H (s := s) (b := m_br σ d) (by omega) (by omega)).1]
      refine ⟨vp_in_nI (by omega) (by decide), fun y => ⟨vx, fun τ2 e2 => ?_⟩, fun y => x2 τ1 G1 w y⟩
      rw [cx, nar_1] at e2
      rw [e2]
      exact x3 τ1 G1 w y
    · rw [cx, eb, show m_ent σ s d = false from g] at z
      exact absurd rfl z
  refine ⟨fun w => ⟨i_in a1 (by omega), i_in b1 (by omega), ?_⟩, fun w => fin _ (fun τ1 G1 _ => ⟨rfl, r_R_f hR F1 G1⟩) (fun τ1 G1 y => absurd w y) (fun τ1 G1 y => absurd w y)⟩
  rw [ed, F1 34 (by decide) (by decide), m2]
  have ej : σ1.1 (66 + s) (4 * m_br σ d + 1) = m_jud σ s (m_br σ d) := by rw [F1 _ (by omega) (by omega)]; rfl
  refine pA_has (by omega) (fun y => ⟨fun z => absurd z (by decide), fun _ => ?_⟩) (fun y => ⟨fun _ => ⟨i_in a1 (by omega), ?_⟩, fun z => absurd rfl z⟩)
  · rw [ej] at y
    exact fin _ (fun τ1 G1 z => absurd z w) (fun τ1 G1 _ _ => ⟨rfl, r_R_f hR F1 G1⟩) (fun τ1 G1 _ z => absurd z y)
  · rw [ej] at y
    refine pA_within (fun _ _ => ⟨fun z => absurd z (by decide), fun _ σ3 e3 => ?_⟩) (fun z => absurd ⟨by rw [i_0, i_nI (by omega)]; omega, by rw [show (19 : Int32) = nI 19 from rfl, i_nI (by omega), i_nI (by decide)]; omega⟩ z)
    rw [e3]
    exact fin _ (fun τ1 G1 z => absurd z w) (fun τ1 G1 _ z => absurd y z) (fun τ1 G1 _ _ => ⟨rfl, r_R_entry (r_R_f hR F1 G1) (by rw [F1 0 (by decide) (by decide)]; exact p2) p1 hs (by rw [F1 4 (by decide) (by decide)]; exact q2) q1 hd⟩)
theorem b_small {x : Int32} {n : Nat} (h : ∀ i, n ≤ i → i < 32 → bt x i = false) : ∃ k, k < 2 ^ n ∧ x = nI k := by
  refine ⟨x.toBitVec.toNat, Nat.lt_pow_two_of_testBit _ (fun i hi => ?_), ?_⟩
  · rcases Nat.lt_or_ge i 32 with g | g
    · exact h i hi g
    · exact b_big (x := x) g
  · apply b_ext
    intro i hi
    rw [c_bits _ x.toBitVec.isLt i hi]
    rfl
theorem fb_ct_cut {p : Nat → Bool} {m n : Nat} (hmn : m ≤ n) (h : ∀ k, m ≤ k → k < n → p k = false) : fb_ct p n = fb_ct p m := by
  have e := fb_ct_split p m (n - m)
  rw [show m + (n - m) = n by omega] at e
  rw [e, fb_ct_zero.mpr (fun k hk => h (m + k) (by omega) (by omega))]
  rfl
theorem i_back10 (a : Int32) : (a.toInt < 10 → ¬ (0 ≤ (a - 10).toInt ∧ (a - 10).toInt < 5)) ∧ (10 ≤ a.toInt → (a - 10).toInt = a.toInt - 10) := by
  have hr := i_rg a
  constructor
  · intro h
    rw [Int32.toInt_sub, i_10]
    simp only [Int.bmod]
    split <;> omega
  · intro h
    rw [i_sub (by rw [i_10]; omega) (by rw [i_10]; omega), i_10]
theorem s_count : ∀ σ τ, r_R tX σ τ → ∀ a0 : Int32, xu_X11_count σ a0 (fun r σ1 => xu_X12_count τ a0 (fun r2 τ1 => r = r2 ∧ r_R tX σ1 τ1)) := by
  intro σ τ hR a
  obtain ⟨nt, nb, nd, ns, nf, h1, h2, h3, h4, h5, h6, h7, h8, h9, h10, hX⟩ := id hR
  obtain ⟨k7, live, nr, sz, F, t1, t2, t3⟩ := id hX
  obtain ⟨p1, p2, p3, p4, p5, p6⟩ := id h8
  have ten := i_back10 a
  have t3 := t3 τ tSd_0
  have hl := t3.1
  have no : ¬ (0 ≤ (a - 10).toInt ∧ (a - 10).toInt < ns) → xb_X11_count_33 a (fun _ => False) (fun r σ1 => xu_X12_count τ a (fun r2 τ1 => r = r2 ∧ r_R tX σ1 τ1)) σ := by
    intro g
    have B : ∀ X : Int32 → xw_M → Prop, ((a = 0 → X (σ.1 4 11) τ) ∧ (¬ a = 0 → (a = 1 → X (σ.1 4 12) τ) ∧ (¬ a = 1 → (a = 2 → X (σ.1 0 9) τ) ∧ (¬ a = 2 → (a = 3 → X (σ.1 5 6) τ) ∧ (¬ a = 3 → (a = 4 → X (σ.1 9 9) τ) ∧ (¬ a = 4 → (a = 5 → X (σ.1 0 10) τ) ∧ (¬ a = 5 → (a = 6 → X (σ.1 1 1) τ) ∧ (¬ a = 6 → X (-1) τ)))))))) → xu_X12_count τ a X := by
      intro X hX2 K hK
      refine pB_show p3 (by omega) (fun z1 z2 => absurd ⟨z1, z2⟩ g) (fun _ => ⟨fun _ => ?_, fun z => absurd rfl z⟩)
      rw [t2, nI_clamp (n := live) (by omega), t3.2.1, ← t1.2.2.1, h6.2.2.1, ← h6.2.1, h7.2.2.1, ← h7.2.1, p3, ← p2, h9.2.2.1, ← h9.2.1, ← h4.1, h1.2.2.1, ← h1.2.1]
      refine ⟨hX2.1, fun c0 => ?_⟩
      have hX2 := hX2.2 c0
      refine ⟨hX2.1, fun c0 => ?_⟩
      have hX2 := hX2.2 c0
      refine ⟨hX2.1, fun c0 => ?_⟩
      have hX2 := hX2.2 c0
      refine ⟨hX2.1, fun c0 => ?_⟩
      have hX2 := hX2.2 c0
      refine ⟨fun c => ⟨vp_in_nI (by omega) (by decide), hX2.1 c⟩, fun c0 => ?_⟩
      exact hX2.2 c0
    refine ⟨fun c => B _ ?_, fun c0 => ⟨fun c => B _ ?_, fun c1 => ⟨fun c => B _ ?_, fun c2 => ⟨fun c => B _ ?_, fun c3 => ⟨fun c => B _ ?_, fun c4 => ⟨fun c => B _ ?_, fun c5 => ⟨fun c => B _ ?_, fun c6 => B _ ?_⟩⟩⟩⟩⟩⟩⟩
    · exact ⟨fun _ => ⟨rfl, hR⟩, fun z => absurd c z⟩
    · exact ⟨fun z => absurd z c0, fun _ => ⟨fun _ => ⟨rfl, hR⟩, fun z => absurd c z⟩⟩
    · exact ⟨fun z => absurd z c0, fun _ => ⟨fun z => absurd z c1, fun _ => ⟨fun _ => ⟨rfl, hR⟩, fun z => absurd c z⟩⟩⟩
    · exact ⟨fun z => absurd z c0, fun _ => ⟨fun z => absurd z c1, fun _ => ⟨fun z => absurd z c2, fun _ => ⟨fun _ => ⟨rfl, hR⟩, fun z => absurd c z⟩⟩⟩⟩
    · exact ⟨fun z => absurd z c0, fun _ => ⟨fun z => absurd z c1, fun _ => ⟨fun z => absurd z c2, fun _ => ⟨fun z => absurd z c3, fun _ => ⟨fun _ => ⟨rfl, hR⟩, fun z => absurd c z⟩⟩⟩⟩⟩
    · exact ⟨fun z => absurd z c0, fun _ => ⟨fun z => absurd z c1, fun _ => ⟨fun z => absurd z c2, fun _ => ⟨fun z => absurd z c3, fun _ => ⟨fun z => absurd z c4, fun _ => ⟨fun _ => ⟨rfl, hR⟩, fun z => absurd c z⟩⟩⟩⟩⟩⟩
    · exact ⟨fun z => absurd z c0, fun _ => ⟨fun z => absurd z c1, fun _ => ⟨fun z => absurd z c2, fun _ => ⟨fun z => absurd z c3, fun _ => ⟨fun z => absurd z c4, fun _ => ⟨fun z => absurd z c5, fun _ => ⟨fun _ => ⟨rfl, hR⟩, fun z => absurd c z⟩⟩⟩⟩⟩⟩⟩
    · exact ⟨fun z => absurd z c0, fun _ => ⟨fun z => absurd z c1, fun _ => ⟨fun z => absurd z c2, fun _ => ⟨fun z => absurd z c3, fun _ => ⟨fun z => absurd z c4, fun _ => ⟨fun z => absurd z c5, fun _ => ⟨fun z => absurd z c6, fun _ => ⟨rfl, hR⟩⟩⟩⟩⟩⟩⟩⟩
  intro K hK
  refine ⟨fun c => hK _ (no (fun z => ten.1 (by rw [i_lt, i_10] at c; exact c) ⟨z.1, by omega⟩)), fun c => ?_⟩
  refine pA_show p2 (by omega) (fun g1 g2 => ⟨fun z => absurd z (by decide), fun _ => ⟨i_in g1 (by omega), ?_⟩⟩) (fun g => ⟨fun _ => hK _ (no g), fun z => absurd rfl z⟩)
  obtain ⟨s, hs, e, -, es⟩ := i_of (n := ns) g1 g2
  rw [es]
  have nd20 := h7.1
  have zb : ∀ i, nd ≤ i → i < 32 → bt (σ.1 (11 + s) 3) i = false := by
    intro i i1 i2
    cases hq : bt (σ.1 (11 + s) 3) i
    · rfl
    · have := ((p6 s (by omega) i i2).1 hq).2
      omega
  obtain ⟨k, hk, ek⟩ := b_small (fun i (i1 : 20 ≤ i) i2 => zb i (by omega) i2)
  show xu_J6_bitCount_0f7a4 σ (σ.1 (11 + s) 3) _
  have eb : ∀ d, d < 20 → τ.1 37 (20 * s + d) = if bt (σ.1 (11 + s) 3) d then 1 else 0 := fun d hd => (p6 s (by omega) d (by omega)).2 hd
  rw [ek] at zb eb ⊢
  refine qJ_bits hk ?_
  rw [fb_ct_cut (p := fun i => bt (nI k) i) nd20 (fun i i1 i2 => zb i i1 (by omega))]
  intro K hK
  refine pB_show p3 (by omega) (fun _ _ => ⟨fun z => absurd z (by decide), fun _ => ?_⟩) (fun z => absurd ⟨g1, g2⟩ z)
  have key : ∀ (j i : Nat), i + j = nd → K τ (nI (fb_ct (fun i => bt (nI k) i) i)) (nI i) := by
    intro j
    induction j with
    | zero =>
      intro i hi
      obtain rfl : i = nd := by omega
      apply hK
      unfold xb_X12_count_15
      rw [h7.2.2.1]
      exact ⟨fun _ => ⟨rfl, hR⟩, fun z => absurd (nI_le (Nat.le_refl i) (by omega)) z⟩
    | succ j ih =>
      intro i hi
      apply hK
      unfold xb_X12_count_15
      have next := ih (i + 1) (by omega)
      rw [fb_ct_succ] at next
      rw [h7.2.2.1, e, ix20, nI_clamp (n := 20 * s + i) (by omega), eb i (by omega), nI_1]
      refine ⟨fun z => absurd z (nI_ge (by omega) (by omega)), fun _ => ⟨vp_in_nI (by omega) (by decide), fun z => ?_, fun z => ?_⟩⟩
      · have hb : bt (nI k) i = false := by
          cases hq : bt (nI k) i
          · rfl
          · rw [hq] at z; exact absurd z (by decide)
        rw [hb] at next
        rw [show nI (fb_ct (fun i => bt (nI k) i) i) + (0 : Int32) = nI (fb_ct (fun i => bt (nI k) i) i) from Int32.add_zero _]
        exact next
      · have hb : bt (nI k) i = true := by
          cases hq : bt (nI k) i
          · rw [hq] at z; exact absurd rfl z
          · rfl
        rw [hb] at next
        rw [nI_1]
        exact next
  exact key nd 0 (by omega)
