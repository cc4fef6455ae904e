/-! TITLE -/
def m_ti (σ : xw_M) (F : Nat → tU) (nr nd d n : Nat) : Nat → Int32 × Int32
  | 0 => (0, 0)
  | s + 1 => if m_winner σ F nr nd s (m_br σ d) n = nI d then ((m_ti σ F nr nd d n s).1 + m_pts σ F nr nd s d n, (m_ti σ F nr nd d n s).2 ||| ((1 : Int32) <<< (m_jud σ s (m_br σ d) &&& 31))) else m_ti σ F nr nd d n s
def m_tq (σ : xw_M) (F : Nat → tU) (nr nd d n r s : Nat) : Bool := decide (¬ (m_ti σ F nr nd d n (s + 1)).1 < (F r).2.1) && decide (¬ nI (fb_ct (fun i => bt (m_ti σ F nr nd d n (s + 1)).2 i) 12) < (F r).2.2.1)
def m_tr (F : Nat → tU) (nr : Nat) : Option Nat := l_find (fun r => decide ((F r).1 = 3)) nr 0
def m_title (σ : xw_M) (F : Nat → tU) (nr nd ns d n : Nat) : Int32 := match m_tr F nr with
  | none => -1
  | some r => o_ix (l_find (m_tq σ F nr nd d n r) ns 0)
section TITLE
variable {σ0 τ0 : xw_M} {nb nd ns nf live nr sz : Nat} {F : Nat → tU}
theorem m_win_jud (H : m_C σ0 τ0 nb nd ns nf live nr sz F) {s d n : Nat} (hs : s < ns) (hd : d < nd) (h : m_winner σ0 F nr nd s (m_br σ0 d) n = nI d) : ∃ k : Nat, k < 12 ∧ m_jud σ0 s (m_br σ0 d) = nI k := by
  obtain ⟨m1, m2, m3⟩ := m_brk H hd
  obtain ⟨-, -, -, ⟨k1, -⟩, ⟨q1, -⟩, ⟨p1, -⟩, -⟩ := id H
  have hj := (m_judk H (s := s) (b := m_br σ0 d) (by omega) (by omega)).2
  refine hj.resolve_left (fun z => ?_)
  unfold m_winner at h
  cases hw : m_win σ0 F nr s (m_br σ0 d) n nd with
  | none =>
    rw [hw] at h
    exact absurd h (by show ¬ (-1 : Int32) = nI d; rw [i_eq, i_nI (by omega), i_m1]; omega)
  | some x =>
    obtain ⟨e, g⟩ := x
    rw [hw] at h
    have w := m_win_some hw
    obtain rfl : e = d := (nI_eq (by omega) (by omega)).mp h
    have y := w.2.2.1
    unfold m_why at y
    rw [z] at y
    revert y
    split
    · exact fun y => absurd y (by decide)
    · split
      · exact fun y => absurd y (by decide)
      · split
        · exact fun y => absurd y (by decide)
        · split
          · exact fun y => absurd y (by decide)
          · rw [if_pos rfl]; exact fun y => absurd y (by decide)
theorem m_ti_bit (H : m_C σ0 τ0 nb nd ns nf live nr sz F) {d n : Nat} (hd : d < nd) : ∀ s, s ≤ ns → ∀ i, 12 ≤ i → i < 32 → bt (m_ti σ0 F nr nd d n s).2 i = false
  | 0, _, i, _, _ => b_0 i
  | s + 1, hs, i, h1, h2 => by
    have ih := m_ti_bit H (n := n) hd s (by omega) i h1 h2
    simp only [m_ti]
    split
    · rename_i w
      obtain ⟨k, hk, ek⟩ := m_win_jud H (by omega) hd w
      show bt ((m_ti σ0 F nr nd d n s).2 ||| _) i = false
      rw [ek, bt_set _ (by omega) h2, ih, decide_eq_false (by omega)]; rfl
    · exact ih
theorem qA_kind {σ : xw_M} {kd : Nat} {Z : Int32 → xw_M → Prop} (hkd : kd < 4) (hT : TA 0 σ nr sz F) (h : Z (o_ix (l_find (fun r => decide ((F r).1 = kd)) nr 0)) σ) : xu_X9_firstOfKind σ 0 (nI (t_kA kd)) Z := by
  intro K hK
  obtain ⟨n1, n2, l3, l4, l5⟩ := id hT
  have key : ∀ (k i : Nat), i + k = nr → l_find (fun r => decide ((F r).1 = kd)) nr 0 = l_find (fun r => decide ((F r).1 = kd)) k i → K σ (nI i) := by
    intro k
    induction k with
    | zero =>
      intro i hi e
      apply hK
      unfold xb_X9_firstOfKind_2
      rw [l3]
      obtain rfl : i = nr := by omega
      rw [e] at h
      exact ⟨fun _ => h, fun g => absurd (nI_le (Nat.le_refl i) (by omega)) g⟩
    | succ k ih =>
      intro i hi e
      apply hK
      unfold xb_X9_firstOfKind_2
      obtain ⟨u1, u2, -⟩ := l5 i (by omega)
      simp only [l_find] at e
      have e1 := t_kA_lt (F i).1
      have e2 := t_kA_lt kd
      rw [l3, nI_clamp (n := i) (by omega), u2, nI_1]
      refine ⟨fun g => absurd g (nI_ge (by omega) (by omega)), fun _ => ⟨vp_in_nI (by omega) (by decide), fun z => ?_, fun z => ?_⟩⟩
      · have : ¬ (F i).1 = kd := fun q => z (by rw [q])
        rw [if_neg (by simp [this])] at e
        exact ih (i + 1) (by omega) e
      · have : (F i).1 = kd := t_kA_inj _ u1 _ hkd ((nI_eq (by omega) (by omega)).mp z)
        rw [if_pos (by simp [this])] at e
        rw [e] at h
        exact h
  exact key nr 0 (by omega) rfl
theorem qA_title {σ : xw_M} {d n : Nat} {Z : Int32 → xw_M → Prop} (H : m_C σ0 τ0 nb nd ns nf live nr sz F) (hF : fA σ0 σ) (hd : d < nd) (hn : n ≤ nf) (h : ∀ σ1, fA σ0 σ1 → Z (m_title σ0 F nr nd ns d n) σ1) : xu_X11_title σ (nI d) (nI n) Z := by
  obtain ⟨m1, m2, m3⟩ := m_brk H hd
  obtain ⟨-, -, -, ⟨k1, -⟩, ⟨q1, q2, q3, q4⟩, ⟨p1, p2, p3, -⟩, ⟨w1, w2, w3, w4⟩, -, hT, -, -⟩ := id H
  intro K58 K132 h58 h132
  have hT' : TA 0 σ nr sz F := TA_c hT (fun c hc => hF c (by omega) (by omega))
  refine qA_kind (kd := 3) (by decide) hT' ?_
  refine pA_dog (by rw [hF 4 (by decide) (by decide)]; exact q2) (by omega) (fun _ _ => ⟨fun z => absurd z (by decide), fun _ => ?_⟩) (fun z => absurd ⟨by rw [i_nI (by omega)]; omega, by rw [i_nI (by omega)]; omega⟩ z)
  refine pA_known (by rw [hF 5 (by decide) (by decide)]; exact w2) (by omega) (fun _ _ => ⟨fun z => absurd z (by decide), fun _ => ?_⟩) (fun z => absurd ⟨by rw [i_nI (by omega)]; omega, by rw [i_nI (by omega)]; omega⟩ z)
  unfold m_title m_tr at h
  cases hr : l_find (fun r => decide ((F r).1 = 3)) nr 0 with
  | none =>
    rw [hr] at h
    exact pA_within (fun z _ => absurd z (by decide)) (fun _ => ⟨fun z => absurd rfl z, fun _ => h σ hF⟩)
  | some r =>
    rw [hr] at h
    replace h : ∀ σ1, fA σ0 σ1 → Z (o_ix (l_find (m_tq σ0 F nr nd d n r) ns 0)) σ1 := h
    have hr2 := l_find_some hr
    have nr16 := hT.1
    have vr : vp_in (nI r) 16 := vp_in_nI (by omega) (by decide)
    obtain ⟨u1, u2, u3, u4, -⟩ := hT.2.2.2.2 r (by omega)
    refine pA_within (fun _ _ => ⟨fun _ => ⟨vp_in_nI (by omega) (by decide), ?_⟩, fun z => absurd z (by decide)⟩) (fun z => absurd ⟨by show (0 : Int32).toInt ≤ (nI r).toInt; rw [i_0, i_nI (by omega)]; omega, by show (nI r).toInt ≤ (nI 15).toInt; rw [i_nI (by omega), i_nI (by decide)]; omega⟩ z)
    rw [nI_clamp (n := d) (by omega), hF 34 (by decide) (by decide), m2]
    show K58 σ (nI r) (nI (m_br σ0 d)) 0 0 0
    have key : ∀ (k s : Nat) (σ' : xw_M), s + k = ns → fA σ0 σ' → l_find (m_tq σ0 F nr nd d n r) ns 0 = l_find (m_tq σ0 F nr nd d n r) k s → K58 σ' (nI r) (nI (m_br σ0 d)) (m_ti σ0 F nr nd d n s).1 (m_ti σ0 F nr nd d n s).2 (nI s) := by
      intro k
      induction k with
      | zero =>
        intro s σ' hs hF' e
        obtain rfl : s = ns := by omega
        apply h58
        unfold xb_X11_title_58
        rw [hF' 0 (by decide) (by decide), p2]
        refine ⟨fun _ => ?_, fun z => absurd (nI_le (Nat.le_refl s) (by omega)) z⟩
        rw [e] at h
        exact h σ' hF'
      | succ k ih =>
        intro s σ' hs hF' e
        have hs' : s < ns := by omega
        have vs : vp_in (nI s) 5 := vp_in_nI (by omega) (by decide)
        simp only [l_find] at e
        have mid : ∀ σ2, fA σ0 σ2 → K132 σ2 (nI r) (nI (m_br σ0 d)) (m_ti σ0 F nr nd d n (s + 1)).1 (m_ti σ0 F nr nd d n (s + 1)).2 (nI s) := by
          intro σ2 f2
          have next := fun σ3 f3 => ih (s + 1) σ3 (by omega) f3
          apply h132
          unfold xb_X11_title_132
          rw [nI_clamp (n := r) (by omega), f2 50 (by decide) (by decide), u3, nI_1]
          obtain ⟨kk, hk, ek⟩ := b_small (fun i (i1 : 12 ≤ i) i2 => m_ti_bit H (n := n) hd (s + 1) (by omega) i i1 i2)
          have cnt : fb_ct (fun i => bt (nI kk) i) 20 = fb_ct (fun i => bt (m_ti σ0 F nr nd d n (s + 1)).2 i) 12 := by
            rw [← ek]
            exact fb_ct_cut (by decide) (fun i i1 i2 => m_ti_bit H (n := n) hd (s + 1) (by omega) i i1 (by omega))
          refine ⟨vr, fun z => ?_, fun z => ?_⟩
          · have t : m_tq σ0 F nr nd d n r s = false := by simp [m_tq, z]
            rw [if_neg (by simp [t])] at e
            exact next σ2 f2 e
          · rw [ek]
            refine qJ_bits (by omega) ⟨vr, ?_⟩
            rw [cnt, f2 52 (by decide) (by decide), u4, ← ek]
            refine ⟨fun z2 => ?_, fun z2 => ?_⟩
            · have t : m_tq σ0 F nr nd d n r s = false := by simp [m_tq, z2]
              rw [if_neg (by simp [t])] at e
              exact next σ2 f2 e
            · have t : m_tq σ0 F nr nd d n r s = true := by simp [m_tq, z, z2]
              rw [if_pos t] at e
              rw [e] at h
              exact h σ2 f2
        simp only [m_ti] at mid
        apply h58
        unfold xb_X11_title_58
        rw [hF' 0 (by decide) (by decide), p2, nI_clamp (n := s) (by omega)]
        refine ⟨fun z => absurd z (nI_ge (by omega) (by omega)), fun _ => ⟨vs, qA_winner H hF' hs' (by omega) hn (fun σ1 F1 => ⟨fun w => ?_, fun w => ⟨vs, ?_⟩⟩)⟩⟩
        · rw [if_neg w] at mid
          exact mid σ1 F1
        · rw [if_pos w] at mid
          refine qA_points H F1 hs' hd hn (fun σ2 F2 => ⟨vs, ?_⟩)
          refine pA_at (w := 1) (by omega) (by decide) ?_
          rw [F2 (66 + s) (by omega) (by omega)]
          exact mid σ2 F2
    exact key ns 0 σ (by omega) hF rfl
theorem qB_title {τ : xw_M} {d n : Nat} {Z : Int32 → xw_M → Prop} (H : m_C σ0 τ0 nb nd ns nf live nr sz F) (hF : fB τ0 τ) (hd : d < nd) (hn : n ≤ nf) (h : ∀ τ1, fB τ0 τ1 → Z (m_title σ0 F nr nd ns d n) τ1) : xu_X12_title τ (nI d) (nI n) Z := by
  obtain ⟨m1, m2, m3⟩ := m_brk H hd
  obtain ⟨-, -, -, ⟨k1, -⟩, ⟨q1, q2, q3, q4⟩, ⟨p1, p2, p3, -⟩, ⟨w1, w2, w3, w4⟩, -, hT, hl, hB⟩ := id H
  obtain ⟨l1, l2, l3⟩ := id hB
  have nr16 := hT.1
  intro K41 K89 K158 h41 h89 h158
  have e0 : τ.1 0 = τ0.1 0 := hF.1 0 (by decide) (by decide)
  refine pB_dog (by rw [e0]; exact q3) (by omega) (fun _ _ => ⟨fun z => absurd z (by decide), fun _ => ?_⟩) (fun z => absurd ⟨by rw [i_nI (by omega)]; omega, by rw [i_nI (by omega)]; omega⟩ z)
  refine pB_known (by rw [e0]; exact w3) (by omega) (fun _ _ => ⟨fun _ => ?_, fun z => absurd z (by decide)⟩) (fun z => absurd ⟨by rw [i_nI (by omega)]; omega, by rw [i_nI (by omega)]; omega⟩ z)
  rw [e0, hl, nI_clamp (n := live) (by omega), hF.1 8 (by decide) (by decide), l2, show (16 : Int32) = nI 16 from rfl, pk_mul, nI_add]
  refine ⟨vp_in_nI (by omega) (by decide), fun x5 e5 => ?_⟩
  have loop : ∀ r, m_tr F nr = some r → ∀ (k s : Nat) (τ' : xw_M), s + k = ns → fB τ0 τ' → l_find (m_tq σ0 F nr nd d n r) ns 0 = l_find (m_tq σ0 F nr nd d n r) k s → K89 τ' (nI (16 * live + r)) (m_ti σ0 F nr nd d n s).1 (m_ti σ0 F nr nd d n s).2 (nI s) := by
    intro r hr
    unfold m_title at h
    rw [hr] at h
    replace h : ∀ τ1, fB τ0 τ1 → Z (o_ix (l_find (m_tq σ0 F nr nd d n r) ns 0)) τ1 := h
    have hr2 := l_find_some hr
    have vr : vp_in (nI (16 * live + r)) 32 := vp_in_nI (by omega) (by decide)
    obtain ⟨u1, u2, u3, -⟩ := l3 r (by omega)
    intro k
    induction k with
    | zero =>
      intro s τ' hs hF' e
      obtain rfl : s = ns := by omega
      apply h89
      unfold xb_X12_title_89
      rw [hF'.1 0 (by decide) (by decide), p3]
      refine ⟨fun _ => ?_, fun z => absurd (nI_le (Nat.le_refl s) (by omega)) z⟩
      rw [e] at h
      exact h τ' hF'
    | succ k ih =>
      intro s τ' hs hF' e
      have hs' : s < ns := by omega
      have vd : vp_in (nI d) 20 := vp_in_nI (by omega) (by decide)
      simp only [l_find] at e
      have mid : ∀ τ2, fB τ0 τ2 → K158 τ2 (nI (16 * live + r)) (m_ti σ0 F nr nd d n (s + 1)).1 (m_ti σ0 F nr nd d n (s + 1)).2 (nI s) 0 0 := by
        intro τ2 f2
        have next := ih (s + 1) τ2 (by omega) f2
        have key : ∀ (j i : Nat), i + j = 12 → K158 τ2 (nI (16 * live + r)) (m_ti σ0 F nr nd d n (s + 1)).1 (m_ti σ0 F nr nd d n (s + 1)).2 (nI s) (nI (fb_ct (fun i => bt (m_ti σ0 F nr nd d n (s + 1)).2 i) i)) (nI i) := by
          intro j
          induction j with
          | zero =>
            intro i hi
            obtain rfl : i = 12 := by omega
            apply h158
            unfold xb_X12_title_158
            rw [nI_clamp (n := 16 * live + r) (by omega), f2.1 10 (by decide) (by decide), u2, f2.1 11 (by decide) (by decide), u3, nI_1]
            refine ⟨fun _ => ⟨vr, fun z => ?_, fun z => ⟨vr, fun z2 => ?_, fun z2 => ?_⟩⟩, fun z => absurd (by decide) z⟩
            · have t : m_tq σ0 F nr nd d n r s = false := by simp [m_tq, z]
              rw [if_neg (by simp [t])] at e
              exact next e
            · have t : m_tq σ0 F nr nd d n r s = false := by simp [m_tq, z2]
              rw [if_neg (by simp [t])] at e
              exact next e
            · have t : m_tq σ0 F nr nd d n r s = true := by simp [m_tq, z, z2]
              rw [if_pos t] at e
              rw [e] at h
              exact h τ2 f2
          | succ j ihj =>
            intro i hi
            have nx := ihj (i + 1) (by omega)
            rw [fb_ct_succ] at nx
            apply h158
            refine ⟨fun z => absurd z (nI_ge (b := 12) (by omega) (by decide)), fun _ => ?_⟩
            rw [nI_1]
            cases hq : bt (m_ti σ0 F nr nd d n (s + 1)).2 i with
            | true =>
              rw [(bt_test _ (by omega)).mpr hq, nI_1]
              simp only [hq, if_true] at nx
              exact nx
            | false =>
              rw [(bt_test0 _ (by omega)).mpr hq, Int32.add_zero]
              simp only [hq] at nx
              exact nx
        exact key 12 0 (by omega)
      simp only [m_ti] at mid
      apply h89
      unfold xb_X12_title_89
      rw [hF'.1 0 (by decide) (by decide), p3, nI_clamp (n := d) (by omega), hF'.1 31 (by decide) (by decide), m3]
      refine ⟨fun z => absurd z (nI_ge (by omega) (by omega)), fun _ => ⟨vd, qB_winner H hF' hs' (by omega) hn (fun τ1 G1 => ⟨fun w => ?_, fun w => ?_⟩)⟩⟩
      · rw [if_neg w] at mid
        exact mid τ1 G1
      · rw [if_pos w] at mid
        refine qB_points H G1 hs' hd hn (fun τ2 G2 => ⟨vd, ?_⟩)
        rw [G2.1 31 (by decide) (by decide), m3, ix6, nI_clamp (n := 6 * s + m_br σ0 d) (by omega), G2.1 45 (by decide) (by decide), (m_judk H (s := s) (b := m_br σ0 d) (by omega) (by omega)).1]
        refine ⟨vp_in_nI (by omega) (by decide), fun x10 e10 => ?_⟩
        rw [e10]
        unfold m_pof
        rw [if_pos w]
        exact mid τ2 G2
  have pick : ∀ (i : Nat), i ≤ nr → K41 τ (match l_find (fun r => decide ((F r).1 = 3)) (nr - i) i with | none => -1 | some r => nI (16 * live + r)) (nI (16 * live + i) - 1) := by
    intro i
    induction i with
    | zero =>
      intro _
      apply h41
      unfold xb_X12_title_41
      rw [e0, hl, show (16 : Int32) = nI 16 from rfl, pk_mul]
      have lt : nI (16 * live + 0) - 1 < nI (16 * live) := by
        rw [i_lt, i_sub (by rw [i_nI (by omega), i_1]; omega) (by rw [i_nI (by omega), i_1]; omega), i_nI (by omega), i_nI (by omega), i_1]
        omega
      refine ⟨fun _ => ?_, fun z => absurd lt z⟩
      rw [Nat.sub_zero]
      cases hr : l_find (fun r => decide ((F r).1 = 3)) nr 0 with
      | none =>
        refine ⟨fun z => absurd rfl z, fun _ => ?_⟩
        unfold m_title m_tr at h
        rw [hr] at h
        exact h τ hF
      | some r =>
        have hr2 := l_find_some hr
        refine ⟨fun _ => loop r hr ns 0 τ (by omega) hF rfl, fun z => absurd z (by rw [i_eq, i_nI (by omega), i_m1]; omega)⟩
    | succ i ih =>
      intro hi
      have next := ih (by omega)
      apply h41
      unfold xb_X12_title_41
      rw [e0, hl, show (16 : Int32) = nI 16 from rfl, pk_mul, show 16 * live + (i + 1) = (16 * live + i) + 1 by omega, nI_pred, nI_clamp (n := 16 * live + i) (by omega), hF.1 9 (by decide) (by decide), (l3 i (by omega)).1, i_s1]
      have f4 := (hT.2.2.2.2 i (by omega)).1
      rw [show nr - i = (nr - (i + 1)) + 1 by omega] at next
      simp only [l_find] at next
      refine ⟨fun z => absurd z (nI_nlt (by omega) (by omega)), fun _ => ⟨vp_in_nI (by omega) (by decide), fun z => ?_, fun z => ?_⟩⟩
      · have : ¬ (F i).1 = 3 := fun q => z (by rw [q]; rfl)
        rw [if_neg (by simp [this])] at next
        exact next
      · have : (F i).1 = 3 := (nI_eq (b := 3) (by omega) (by decide)).mp z
        rw [if_pos (by simp [this])] at next
        exact next
  have := pick nr (Nat.le_refl nr)
  rw [Nat.sub_self] at this
  rw [e5]
  exact this
end TITLE
theorem s_title : ∀ σ τ, r_R tX σ τ → ∀ a0 a1 : Int32, xu_X11_title σ a0 a1 (fun r σ1 => xu_X12_title τ a0 a1 (fun r2 τ1 => r = r2 ∧ r_R tX σ1 τ1)) := by
  intro σ τ hR a b
  obtain ⟨nb, nd, ns, nf, live, nr, sz, F, H⟩ := r_R_C hR
  obtain ⟨-, -, -, ⟨k1, -⟩, ⟨q1, q2, q3, q4⟩, ⟨p1, p2, p3, -⟩, ⟨w1, w2, w3, w4⟩, -, hT, hl, hB⟩ := id H
  by_cases ha : 0 ≤ a.toInt ∧ a.toInt < nd
  · by_cases hb : 0 ≤ b.toInt ∧ b.toInt ≤ nf
    · obtain ⟨d, hd, rfl, -⟩ := i_of (n := nd) ha.1 ha.2
      obtain ⟨n, hn, rfl, -⟩ := i_of (n := nf + 1) hb.1 (by omega)
      refine qA_title H fA_0 hd (by omega) (fun σ1 F1 => ?_)
      exact qB_title H fB_0 hd (by omega) (fun τ1 G1 => ⟨rfl, r_R_f hR F1 G1⟩)
    · intro K58 K132 h58 h132
      refine qA_kind (kd := 3) (by decide) hT ?_
      refine pA_dog q2 (by omega) (fun _ _ => ⟨fun z => absurd z (by decide), fun _ => ?_⟩) (fun z => absurd ha z)
      refine pA_known w2 (by omega) (fun z1 z2 => absurd ⟨z1, z2⟩ hb) (fun _ => ⟨fun _ => ?_, fun z => absurd rfl z⟩)
      intro K41 K89 K158 h41 h89 h158
      refine pB_dog q3 (by omega) (fun _ _ => ⟨fun z => absurd z (by decide), fun _ => ?_⟩) (fun z => absurd ha z)
      exact pB_known w3 (by omega) (fun z1 z2 => absurd ⟨z1, z2⟩ hb) (fun _ => ⟨fun z => absurd rfl z, fun _ => ⟨rfl, hR⟩⟩)
  · intro K58 K132 h58 h132
    refine qA_kind (kd := 3) (by decide) hT ?_
    refine pA_dog q2 (by omega) (fun z1 z2 => absurd ⟨z1, z2⟩ ha) (fun _ => ⟨fun _ => ?_, fun z => absurd rfl z⟩)
    intro K41 K89 K158 h41 h89 h158
    exact pB_dog q3 (by omega) (fun z1 z2 => absurd ⟨z1, z2⟩ ha) (fun _ => ⟨fun _ => ⟨rfl, hR⟩, fun z => absurd rfl z⟩)
