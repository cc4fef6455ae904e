/-! THE PLAN -/
def m_V (σ : xw_M) (F : Nat → tU) (nr nb nd s n : Nat) : pV := (fun b => if b < nb then m_tk σ s nd b else 0, fun b => if b < nb ∧ m_tk σ s nd b ≠ 0 then m_jm σ F nr nd s b n 12 else 0, fun b => m_han σ s b nd, (σ.1 0 10).toNatClampNeg)
def m_l (V : pV) : List Nat := (List.range 6).filter (fun b => decide (V.1 b ≠ 0))
section PLAN
variable {σ0 τ0 : xw_M} {nb nd ns nf live nr sz : Nat} {F : Nat → tU}
theorem m_V_ok (H : m_C σ0 τ0 nb nd ns nf live nr sz F) {s n : Nat} : p_V (m_V σ0 F nr nb nd s n) ∧ σ0.1 0 10 = nI (m_V σ0 F nr nb nd s n).2.2.2 ∧ τ0.1 0 41 = nI (m_V σ0 F nr nb nd s n).2.2.2 := by
  obtain ⟨-, -, ⟨r1, r2, r3⟩, -, ⟨q1, -⟩, -⟩ := id H
  obtain ⟨k, k1, k2, k3, k4⟩ := i_of (n := 4) (x := σ0.1 0 10) (by omega) (by omega)
  have e : (m_V σ0 F nr nb nd s n).2.2.2 = k := k4
  refine ⟨⟨by rw [e]; omega, by rw [e]; omega, fun b => ?_, fun b i i1 i2 => ?_⟩, by rw [e]; exact k2, by rw [e, ← r1]; exact k2⟩
  · show (if b < nb then m_tk σ0 s nd b else 0) ≤ 180
    split
    · rename_i hb
      obtain ⟨mn, mn1, mn2, mn3, mn4, mn5⟩ := m_mins H hb
      have c := fb_ct_le (m_hp σ0 s b) nd
      unfold m_tk
      rw [mn5]
      have := Nat.mul_le_mul mn2 (Nat.le_trans c q1)
      omega
    · omega
  · show bt (if b < nb ∧ m_tk σ0 s nd b ≠ 0 then m_jm σ0 F nr nd s b n 12 else 0) i = false
    split
    · rw [m_jm_bit (Nat.le_refl 12) i i2, decide_eq_false (by omega)]; rfl
    · exact b_0 i
theorem m_tk0 (H : m_C σ0 τ0 nb nd ns nf live nr sz F) {s b : Nat} (hb : b < nb) : m_tk σ0 s nd b = 0 ↔ ∀ d, d < nd → m_hp σ0 s b d = false := by
  obtain ⟨mn, mn1, mn2, mn3, mn4, mn5⟩ := m_mins H hb
  unfold m_tk
  rw [mn5, ← fb_ct_zero]
  constructor
  · intro h
    rcases Nat.mul_eq_zero.mp h with h | h
    · omega
    · exact h
  · intro h; rw [h]; rfl
theorem m_pB (H : m_C σ0 τ0 nb nd ns nf live nr sz F) {s n b : Nat} (hb : b < nb) (ht : m_tk σ0 s nd b ≠ 0) : (m_V σ0 F nr nb nd s n).2.1 b = m_jm σ0 F nr nd s b n 12 ∧ (p_B (m_V σ0 F nr nb nd s n) b ↔ ¬ m_jm σ0 F nr nd s b n 12 = 0) := by
  have e : (m_V σ0 F nr nb nd s n).2.1 b = m_jm σ0 F nr nd s b n 12 := if_pos ⟨hb, ht⟩
  refine ⟨e, ?_⟩
  unfold p_B
  rw [e]
  constructor
  · rintro ⟨i, i1, i2⟩ z
    rw [z, b_0] at i2
    exact absurd i2 (by decide)
  · intro z
    obtain ⟨i, i1, i2, _⟩ := b_low z
    refine ⟨i, Nat.not_le.mp fun c => ?_, i2⟩
    rw [m_jm_bit (Nat.le_refl 12) i i1, decide_eq_false (by omega)] at i2
    exact absurd i2 (by simp)
theorem pA_clear {σ : xw_M} {o : Nat} {Z : xw_M → Prop} (h : ∀ σ1, (∀ c, c ≠ 66 + o → σ1.1 c = σ.1 c) → (∀ j, j < 24 → σ1.1 (66 + o) j = -1) → Z σ1) : xu_X10_clear σ o Z := by
  intro K hK
  have key : ∀ (k j : Nat) (σ' : xw_M), j + k = 24 → (∀ c, c ≠ 66 + o → σ'.1 c = σ.1 c) → (∀ i, i < j → σ'.1 (66 + o) i = -1) → K σ' (nI j) := by
    intro k
    induction k with
    | zero =>
      intro j σ' hj hc hx
      obtain rfl : j = 24 := by omega
      apply hK
      exact ⟨fun _ => h σ' hc hx, fun z => absurd (by decide) z⟩
    | succ k ih =>
      intro j σ' hj hc hx
      apply hK
      unfold xb_X10_clear_2
      rw [nI_clamp (n := j) (by omega), nI_1]
      refine ⟨fun z => absurd z (nI_ge (b := 24) (by omega) (by decide)), fun _ => ⟨vp_in_nI (by omega) (by decide), fun σ1 e1 => ?_⟩⟩
      rw [e1]
      refine ih (j + 1) _ (by omega) (fun c hc2 => (xw_ne hc2).trans (hc c hc2)) (fun i hi => ?_)
      by_cases c : i = j
      · subst c; exact xw_eq
      · rw [xw_nj c]; exact hx i (by omega)
  exact key 24 0 σ (by omega) (fun _ _ => rfl) (fun i hi => absurd hi (by omega))
theorem qA_search {s n : Nat} {Z : Int32 → xw_M → Prop} (H : m_C σ0 τ0 nb nd ns nf live nr sz F) (hs : s < ns) (hn : n ≤ nf)
    (h1 : ∀ σ1, gA σ0 σ1 → (∀ b, b < nb → (m_V σ0 F nr nb nd s n).1 b ≠ 0 → p_B (m_V σ0 F nr nb nd s n) b) → a_best (m_V σ0 F nr nb nd s n) σ1 (p_dfs (m_V σ0 F nr nb nd s n) (m_l (m_V σ0 F nr nb nd s n)).length [] (m_l (m_V σ0 F nr nb nd s n)) none) → Z 1 σ1)
    (h0 : ∀ σ1, gA σ0 σ1 → (∃ b, b < nb ∧ (m_V σ0 F nr nb nd s n).1 b ≠ 0 ∧ ¬ p_B (m_V σ0 F nr nb nd s n) b) → Z 0 σ1) : xu_X4_search σ0 s (nI n) (σ0.1 0 10) Z := by
  obtain ⟨hV, eR, -⟩ := m_V_ok H (s := s) (n := n)
  obtain ⟨-, -, -, ⟨b1, b2, b3, b4⟩, ⟨q1, q2, q3, q4⟩, ⟨p1, p2, p3, p4, p5, p6⟩, -⟩ := id H
  have vt : ∀ b, b < nb → (m_V σ0 F nr nb nd s n).1 b = m_tk σ0 s nd b := fun b hb => if_pos hb
  have vt0 : ∀ b, ¬ b < nb → (m_V σ0 F nr nb nd s n).1 b = 0 := fun b hb => if_neg hb
  have vpb := fun b hb ht => m_pB H (s := s) (n := n) (b := b) hb ht
  have vj0 : ∀ b, b < nb → m_tk σ0 s nd b = 0 → (m_V σ0 F nr nb nd s n).2.1 b = 0 := fun b hb h => if_neg (fun q => q.2 h)
  have vh : ∀ b, (m_V σ0 F nr nb nd s n).2.2.1 b = m_han σ0 s b nd := fun b => rfl
  generalize m_V σ0 F nr nb nd s n = V at *
  intro K6 K115 h6 h115
  have key : ∀ (k b : Nat) (σ : xw_M) (T : Int32), b + k = nb → gA σ0 σ → (∀ x, x < b → σ.1 45 x = nI (V.1 x) ∧ σ.1 46 x = V.2.1 x ∧ σ.1 47 x = V.2.2.1 x ∧ (V.1 x ≠ 0 → p_B V x)) → (∀ i, i < 32 → bt T i = (decide (i < b) && decide (V.1 i ≠ 0))) → K6 σ T (nI b) := by
    intro k
    induction k with
    | zero =>
      intro b σ T hb g hx hT
      obtain rfl : b = nb := by omega
      apply h6
      unfold xb_X4_search_6
      rw [gA_d g (c := 4) (by omega), b2]
      refine ⟨fun _ σ1 e1 σ2 e2 σ3 e3 => ?_, fun z => absurd (nI_le (Nat.le_refl b) (by omega)) z⟩
      have c3 : ∀ c, c ≠ 7 → σ3.1 c = σ.1 c := fun c hc => by rw [e3, e2, e1, xw_ne hc, xw_ne hc, xw_ne hc]
      have d7 : σ3.1 7 7 = nI V.2.2.2 := by rw [e3, e2, e1, ← eR]; rfl
      have d8 : σ3.1 7 8 = 1000000 := by rw [e3, e2, e1]; rfl
      have d9 : σ3.1 7 9 = 1000000 := by rw [e3, e2, e1]; rfl
      clear e1 e2 e3
      refine pA_clear (fun σ4 c4 z4 => ?_)
      have e7 : σ4.1 7 = σ3.1 7 := c4 7 (by decide)
      have lT : m_l V = (List.range 6).filter (fun x => bt T x) := by
        unfold m_l
        apply List.filter_congr
        intro x hx6
        have hx6 := List.mem_range.mp hx6
        rw [hT x (by omega)]
        by_cases c : x < b
        · simp [c]
        · simp [c, vt0 x c]
      have l6 : (m_l V).length ≤ 6 := by
        have := List.length_filter_le (fun b => decide (V.1 b ≠ 0)) (List.range 6)
        rw [List.length_range] at this
        exact this
      have cc : ∀ c, c ≠ 7 → c ≠ 66 + 5 → σ4.1 c = σ.1 c := fun c h1 h2 => (c4 c h2).trans (c3 c h1)
      have S4 : a_S V b σ4 0 [] := by
        refine ⟨hV, b1, by decide, ⟨Nat.zero_le _, Nat.zero_le _, fun p hp => by cases hp⟩, ⟨fun x hxb => ?_, by rw [e7]; exact d7⟩, fun p hp => (by cases hp), fun o ho => ?_⟩
        · rw [cc 45 (by decide) (by decide), cc 46 (by decide) (by decide), cc 47 (by decide) (by decide)]
          obtain ⟨y1, y2, y3, _⟩ := hx x hxb
          exact ⟨y1, fun _ => y2, y3⟩
        · rw [b_0]
          constructor
          · intro z; exact absurd z (by decide)
          · rintro ⟨p, hp, _⟩; cases hp
      refine a_try (V := V) (nb := b) (m_l V).length 8 [] (m_l V) 0 T none σ4 _ (by omega) (by simpa using l6) rfl lT (fun i i1 i2 => ?_) (fun x hxl => ?_) S4 (fun o ho _ _ w hw => z4 _ (by omega)) ⟨by rw [e7]; exact d8, by rw [e7]; exact d9⟩ (fun σ5 f5 _ _ hb5 => ⟨by simp, h1 σ5 (fun c n1 n2 n3 n4 n5 n6 n7 n8 => ?_) (fun x hxb hv => (hx x hxb).2.2.2 hv) hb5⟩)
      · rw [hT i i2]
        by_cases c : i < b
        · omega
        · simp [c]
      · unfold m_l at hxl
        have y := (List.mem_filter.mp hxl).2
        simp only [decide_eq_true_iff] at y
        have hxb : x < b := Nat.not_le.mp fun c => y (vt0 x (by omega))
        exact ⟨hxb, (hx x hxb).2.2.2 y, fun p hp => by cases hp⟩
      · rw [f5.1 c n1 n7 n8, cc c n1 n7]
        exact g c n1 n2 n3 n4 n5 n6 n7 n8
    | succ k ih =>
      intro b σ T hb g hx hT
      have hbn : b < nb := by omega
      obtain ⟨mn, mn1, mn2, mn3, mn4, mn5⟩ := m_mins H hbn
      have vb : vp_in (nI b) 6 := vp_in_nI (by omega) (by decide)
      have cb : (nI b).toNatClampNeg = b := nI_clamp (by omega)
      apply h6
      unfold xb_X4_search_6
      rw [gA_d g (c := 4) (by omega), b2, cb, gA_d g (c := 11 + s) (by omega)]
      refine ⟨fun z => absurd z (nI_ge hbn (by omega)), fun _ => ?_⟩
      refine qA_ofBreed (nd := nd) (br := m_br σ0) (by rw [gA_d g (c := 4) (by omega)]; exact q2) q1 (by omega) (fun d hd => ?_) (fun y hy => ⟨vb, ?_⟩)
      · obtain ⟨m1, m2, m3⟩ := m_brk H hd
        rw [gA_d g (c := 34) (by omega)]
        exact ⟨by omega, m2⟩
      have hyp : ∀ d, d < nd → bt y d = m_hp σ0 s b d := by
        intro d hd
        rw [hy d (by omega)]
        unfold m_hp m_ent
        simp [hd, Bool.and_comm]
      have yz : ∀ i, nd ≤ i → i < 32 → bt y i = false := by
        intro i i1 i2
        rw [hy i i2, decide_eq_false (by omega)]; rfl
      have y0 : y = 0 ↔ m_tk σ0 s nd b = 0 := by
        rw [m_tk0 H hbn]
        constructor
        · intro z d hd
          rw [← hyp d hd, z, b_0]
        · intro z
          apply b_ext
          intro i hi
          rw [b_0]
          by_cases c : i < nd
          · rw [hyp i c]; exact z i c
          · exact yz i (by omega) hi
      obtain ⟨ky, hky, eky⟩ := b_small (fun i (i1 : 20 ≤ i) i2 => yz i (by omega) i2)
      have cnt : fb_ct (fun i => bt (nI ky) i) 20 = fb_ct (m_hp σ0 s b) nd := by
        rw [← eky, fb_ct_cut (p := fun i => bt y i) q1 (fun i i1 i2 => yz i i1 (by omega))]
        exact fb_ct_cong (fun d hd => hyp d hd)
      have bc : ∀ W : Int32 → xw_M → Prop, W (nI (fb_ct (m_hp σ0 s b) nd)) σ → xu_J6_bitCount_0f7a4 σ y W := by
        intro W hW
        rw [eky]
        refine qJ_bits hky ?_
        rw [cnt]
        exact hW
      refine bc _ ⟨vb, fun σ10 e10 => ?_⟩
      rw [gA_d g (c := 31) (by omega), mn3, pk_mul] at e10
      have etk : mn * fb_ct (m_hp σ0 s b) nd = V.1 b := by rw [vt b hbn]; unfold m_tk; rw [mn5]
      rw [etk] at e10
      have c10 : ∀ c, c ≠ 45 → σ10.1 c = σ.1 c := fun c hc => by rw [e10]; exact xw_ne hc
      refine qA_handlers (nd := nd) (P := m_hp σ0 s b) (by rw [c10 4 (by decide), gA_d g (c := 4) (by omega)]; exact q2) q1 hyp ⟨vb, fun σ13 e13 => ?_⟩
      rw [c10 38 (by decide), gA_d g (c := 38) (by omega)] at e13
      change σ13 = xw_i σ10 47 b (m_han σ0 s b nd) at e13
      have c13 : ∀ c, c ≠ 45 → c ≠ 47 → σ13.1 c = σ.1 c := fun c h1 h2 => by rw [e13, xw_ne h2]; exact c10 c h1
      have x45 : ∀ x, x < b + 1 → σ13.1 45 x = nI (V.1 x) := by
        intro x hxb
        rw [e13, xw_ne (by decide), e10]
        by_cases c : x = b
        · subst c; exact xw_eq
        · rw [xw_nj c]; exact (hx x (by omega)).1
      have x47 : ∀ x, x < b + 1 → σ13.1 47 x = V.2.2.1 x := by
        intro x hxb
        rw [e13]
        by_cases c : x = b
        · subst c; rw [xw_eq, vh]
        · rw [xw_nj c, c10 47 (by decide)]; exact (hx x (by omega)).2.2.1
      have x46 : σ13.1 46 = σ.1 46 := c13 46 (by decide) (by decide)
      have g13 : gA σ0 σ13 := fun c n1 n2 n3 n4 n5 n6 n7 n8 => (c13 c n3 n5).trans (g c n1 n2 n3 n4 n5 n6 n7 n8)
      clear e10 e13 c10 c13
      have fin : ∀ (σ16 : xw_M) (v : Int32), gA σ0 σ16 → (∀ c, c ≠ 44 → c ≠ 64 → c ≠ 46 → σ16.1 c = σ13.1 c) → (∀ x, x ≠ b → σ16.1 46 x = σ13.1 46 x) → σ16.1 46 b = V.2.1 b → (V.1 b ≠ 0 → p_B V b) → K115 σ16 T (nI b) y := by
        intro σ16 v g16 c16 n16 e16 hpb
        have nx := ih (b + 1) σ16 (T ||| (if y = 0 then 0 else ((1 : Int32) <<< (nI b &&& 31)))) (by omega) g16 (fun x hxb => ?_) (fun i hi => ?_)
        · apply h115
          unfold xb_X4_search_115
          rw [nI_1]
          refine ⟨fun z => ?_, fun z => ?_⟩
          · rw [if_neg z] at nx; exact nx
          · rw [if_pos z] at nx; exact nx
        · rw [c16 45 (by decide) (by decide) (by decide), c16 47 (by decide) (by decide) (by decide), x45 x hxb, x47 x hxb]
          by_cases c : x = b
          · subst c; exact ⟨rfl, e16, rfl, hpb⟩
          · rw [n16 x c, x46]
            exact ⟨rfl, (hx x (by omega)).2.1, rfl, (hx x (by omega)).2.2.2⟩
        · by_cases c : y = 0
          · rw [if_pos c, Int32.or_zero, hT i hi]
            have v0 : V.1 b = 0 := by rw [vt b hbn]; exact y0.mp c
            by_cases c2 : i = b
            · subst c2; simp [v0]
            · by_cases c3 : i < b
              · simp [c3, show i < b + 1 by omega]
              · simp [c3, show ¬ i < b + 1 by omega]
          · rw [if_neg c, bt_set _ (by omega) hi, hT i hi]
            have v0 : ¬ V.1 b = 0 := by rw [vt b hbn]; exact fun q => c (y0.mpr q)
            by_cases c2 : i = b
            · subst c2; simp [v0]
            · by_cases c3 : i < b
              · simp [c2, c3, show i < b + 1 by omega]
              · simp [c2, c3, show ¬ i < b + 1 by omega]
      refine ⟨fun z => ?_, fun z => ⟨vb, fun σ17 e17 => ⟨fun _ => ?_, fun z2 => absurd z z2⟩⟩⟩
      · have tn : m_tk σ0 s nd b ≠ 0 := fun q => z (y0.mpr q)
        have H13 := m_C_g H g13 (gB_0 (τ := τ0))
        refine qA_judges H13 fA_0 hs (by omega) hn (fun d hd => by rw [m_hp_g g13 (by omega)]; exact hyp d hd) (fun σ14 f14 => ⟨vb, fun σ16 e16 => ?_⟩)
        rw [m_jm_g g13 (by omega)] at e16
        have g16 : gA σ0 σ16 := gA_t g13 (fun c n1 n2 n3 n4 n5 n6 n7 n8 => by rw [e16, xw_ne n4]; exact f14 c n2 n6)
        have v16 : σ16.1 46 b = V.2.1 b := by rw [e16, xw_eq, (vpb b hbn tn).1]
        refine ⟨fun q => absurd q z, fun _ => ⟨vb, fun q => fin σ16 0 g16 (fun c n1 n2 n3 => by rw [e16, xw_ne n3]; exact f14 c n1 n2) (fun x hxb => by rw [e16, xw_nj hxb]; rw [f14 46 (by decide) (by decide)]) v16 (fun _ => ?_), fun q => ⟨by simp, h0 σ16 g16 ⟨b, hbn, by rw [vt b hbn]; exact tn, fun pb => ?_⟩⟩⟩⟩
        · rw [v16, (vpb b hbn tn).1] at q
          exact (vpb b hbn tn).2.mpr q
        · rw [v16, (vpb b hbn tn).1] at q
          exact (vpb b hbn tn).2.mp pb q
      · have t0 := y0.mp z
        refine fin σ17 0 (gA_t g13 (fun c n1 n2 n3 n4 n5 n6 n7 n8 => by rw [e17, xw_ne n4])) (fun c n1 n2 n3 => by rw [e17, xw_ne n3]) (fun x hxb => by rw [e17, xw_nj hxb]) (by rw [e17, xw_eq, vj0 b hbn t0]) (fun q => absurd (by rw [vt b hbn]; exact t0) q)
  exact key nb 0 σ0 0 (by omega) gA_0 (fun x hx => absurd hx (by omega)) (fun i hi => by rw [b_0]; simp)
end PLAN
