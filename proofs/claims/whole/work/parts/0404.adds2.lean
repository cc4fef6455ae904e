/-! dog -/
def u_dogA (σ : xw_M) (n : Nat) (a b c d e : Int32) : xw_M := xw_i (xw_i (xw_i (xw_i (xw_i (xw_i σ 34 n a) 35 n b) 36 n c) 37 n d) 38 n e) 4 12 (nI (n + 1))
def u_dogB (τ : xw_M) (n : Nat) (a b c d e : Int32) : xw_M := xw_i (xw_i (xw_i (xw_i (xw_i (xw_i τ 31 n a) 32 n b) 33 n c) 34 n d) 35 n e) 0 47 (nI (n + 1))
def ok_dog (nb n : Nat) (a b c d e : Int32) : Prop := n < 20 ∧ (0 ≤ a.toInt ∧ a.toInt < nb) ∧ (0 ≤ b.toInt ∧ b.toInt < 10000) ∧ (0 ≤ c.toInt ∧ c.toInt ≤ 1) ∧ (0 ≤ d.toInt ∧ d.toInt < 12) ∧ (0 ≤ e.toInt ∧ e.toInt < 12)
theorem pA_addDog {σ : xw_M} {n : Nat} {a b c d e : Int32} {Z : Int32 → xw_M → Prop} (hn : σ.1 4 12 = nI n) (hlt : n < 20) (h : Z (nI n) (u_dogA σ n a b c d e)) : xu_X2_addDog σ a b c d e Z := by
  have hin : vp_in (σ.1 4 12) 20 := by rw [hn]; exact vp_in_nI hlt (by decide)
  have ec : (σ.1 4 12).toNatClampNeg = n := by rw [hn]; exact nI_clamp (by omega)
  refine ⟨fun _ => ⟨hin, fun σ1 e1 => ?_⟩, fun g => absurd (show σ.1 4 12 < 20 by rw [hn]; exact nI_lt hlt (by decide)) g⟩
  subst e1
  refine ⟨hin, fun σ2 e2 => ?_⟩
  subst e2
  refine ⟨hin, fun σ3 e3 => ?_⟩
  subst e3
  refine ⟨hin, fun σ4 e4 => ?_⟩
  subst e4
  refine ⟨hin, fun σ5 e5 => ?_⟩
  subst e5
  intro σ6 e6
  subst e6
  show Z (σ.1 4 12 + 1 - 1) (xw_i (xw_i (xw_i (xw_i (xw_i (xw_i σ 34 (σ.1 4 12).toNatClampNeg a) 35 (σ.1 4 12).toNatClampNeg b) 36 (σ.1 4 12).toNatClampNeg c) 37 (σ.1 4 12).toNatClampNeg d) 38 (σ.1 4 12).toNatClampNeg e) 4 12 (σ.1 4 12 + 1))
  rw [ec, hn, i_pred, nI_1]
  exact h
theorem pA_dogM {σ : xw_M} {nb n : Nat} {a b c d e : Int32} {Z : Int32 → xw_M → Prop} (hb : σ.1 4 11 = nI nb) (hb6 : nb ≤ 6) (hn : σ.1 4 12 = nI n) (hn6 : n ≤ 20) (h1 : ok_dog nb n a b c d e → Z (nI n) (u_dogA σ n a b c d e)) (h0 : ¬ ok_dog nb n a b c d e → Z (-1) σ) : xu_X11_dog σ a b c d e Z := by
  intro K hK
  have k0 : (¬ ((0 ≤ a.toInt ∧ a.toInt < nb) ∧ (0 ≤ b.toInt ∧ b.toInt < 10000) ∧ (0 ≤ c.toInt ∧ c.toInt ≤ 1) ∧ (0 ≤ d.toInt ∧ d.toInt < 12) ∧ (0 ≤ e.toInt ∧ e.toInt < 12))) → K σ 0 := by
    intro g
    refine hK _ _ ⟨fun _ => h0 (fun o => g o.2), fun g2 => absurd rfl g2⟩
  unfold xb_X11_dog_e
  refine pA_breed hb (by omega) (fun g1 g2 => ⟨fun g => absurd g (by decide), fun _ => ?_⟩) (fun g => ⟨fun _ => k0 (fun o => g o.1), fun g2 => absurd rfl g2⟩)
  refine pA_day (fun g3 g4 => ⟨fun g => absurd g (by decide), fun _ => ?_⟩) (fun g => ⟨fun _ => k0 (fun o => g o.2.1), fun g2 => absurd rfl g2⟩)
  refine pA_within (fun g5 g6 => ⟨fun g => absurd g (by decide), fun _ => ?_⟩) (fun g => ⟨fun _ => k0 (fun o => g o.2.2.1), fun g2 => absurd rfl g2⟩)
  refine pA_person (fun g7 g8 => ⟨fun g => absurd g (by decide), fun _ => ?_⟩) (fun g => ⟨fun _ => k0 (fun o => g o.2.2.2.1), fun g2 => absurd rfl g2⟩)
  refine pA_person (fun g9 g10 => ⟨fun g => absurd g (by decide), fun _ => ?_⟩) (fun g => ⟨fun _ => k0 (fun o => g o.2.2.2.2), fun g2 => absurd rfl g2⟩)
  refine hK _ _ ⟨fun g => absurd g (by decide), fun _ => ⟨fun g => ?_, fun g => h0 (fun o => g (by rw [hn]; exact nI_lt o.1 (by decide)))⟩⟩
  have hlt : n < 20 := by rw [hn, i_lt, i_nI (by omega), i_20] at g; omega
  exact pA_addDog hn hlt (h1 ⟨hlt, ⟨g1, g2⟩, ⟨g3, g4⟩, ⟨g5, g6⟩, ⟨g7, g8⟩, ⟨g9, g10⟩⟩)
theorem pB_dogM {τ : xw_M} {nb n : Nat} {a b c d e : Int32} {Z : Int32 → xw_M → Prop} (hb : τ.1 0 42 = nI nb) (hb6 : nb ≤ 6) (hn : τ.1 0 47 = nI n) (hn6 : n ≤ 20) (h1 : ok_dog nb n a b c d e → Z (nI n) (u_dogB τ n a b c d e)) (h0 : ¬ ok_dog nb n a b c d e → Z (-1) τ) : xu_X12_dog τ a b c d e Z := by
  have ec : (τ.1 0 47).toNatClampNeg = n := by rw [hn]; exact nI_clamp (by omega)
  refine ⟨fun g => h0 (fun o => by have := o.1; rw [hn] at g; rw [i_eq, i_nI (by omega), i_20] at g; omega), fun g => ?_⟩
  have hlt : n < 20 := by rw [hn, i_eq, i_nI (by omega), i_20] at g; omega
  have hin : vp_in (τ.1 0 47) 20 := by rw [hn]; exact vp_in_nI hlt (by decide)
  refine pB_breed hb (by omega) (fun g1 g2 => ⟨fun g => absurd g (by decide), fun _ => ?_⟩) (fun g => ⟨fun _ => h0 (fun o => g o.2.1), fun g2 => absurd rfl g2⟩)
  refine pB_day (fun g3 g4 => ⟨fun g => absurd g (by decide), fun _ => ?_⟩) (fun g => ⟨fun _ => h0 (fun o => g o.2.2.1), fun g2 => absurd rfl g2⟩)
  refine ⟨fun g => h0 (fun o => absurd o.2.2.2.1.1 (by simp only [i_lt, i_le, i_eq, i_m1, i_0, i_1, i_2, i_3, i_4, i_5, i_6, i_9, i_10, i_11, i_12, i_20, i_63, i_99, i_200, i_1980, i_2000, i_9999] at g ⊢; omega)), fun g5 => ⟨fun g => h0 (fun o => absurd o.2.2.2.1.2 (by simp only [i_lt, i_le, i_eq, i_m1, i_0, i_1, i_2, i_3, i_4, i_5, i_6, i_9, i_10, i_11, i_12, i_20, i_63, i_99, i_200, i_1980, i_2000, i_9999] at g ⊢; omega)), fun g6 => ?_⟩⟩
  refine pB_person (fun g7 g8 => ⟨fun g => absurd g (by decide), fun _ => ?_⟩) (fun g => ⟨fun _ => h0 (fun o => g o.2.2.2.2.1), fun g2 => absurd rfl g2⟩)
  refine pB_person (fun g9 g10 => ⟨fun _ => ?_, fun g => absurd g (by decide)⟩) (fun g => ⟨fun g2 => absurd rfl g2, fun _ => h0 (fun o => g o.2.2.2.2.2)⟩)
  refine ⟨hin, fun σ1 e1 => ?_⟩
  subst e1
  refine ⟨hin, fun σ2 e2 => ?_⟩
  subst e2
  refine ⟨hin, fun σ3 e3 => ?_⟩
  subst e3
  refine ⟨hin, fun σ4 e4 => ?_⟩
  subst e4
  refine ⟨hin, fun σ5 e5 => ?_⟩
  subst e5
  intro σ6 e6
  subst e6
  show Z (τ.1 0 47 + 1 - 1) (xw_i (xw_i (xw_i (xw_i (xw_i (xw_i τ 31 (τ.1 0 47).toNatClampNeg a) 32 (τ.1 0 47).toNatClampNeg b) 33 (τ.1 0 47).toNatClampNeg c) 34 (τ.1 0 47).toNatClampNeg d) 35 (τ.1 0 47).toNatClampNeg e) 0 47 (τ.1 0 47 + 1))
  rw [ec, hn, i_pred, nI_1]
  exact h1 ⟨hlt, ⟨g1, g2⟩, ⟨g3, g4⟩, ⟨(by simp only [i_lt, i_le, i_eq, i_m1, i_0, i_1, i_2, i_3, i_4, i_5, i_6, i_9, i_10, i_11, i_12, i_20, i_63, i_99, i_200, i_1980, i_2000, i_9999] at g5 ⊢; omega), (by simp only [i_lt, i_le, i_eq, i_m1, i_0, i_1, i_2, i_3, i_4, i_5, i_6, i_9, i_10, i_11, i_12, i_20, i_63, i_99, i_200, i_1980, i_2000, i_9999] at g6 ⊢; omega)⟩, ⟨g7, g8⟩, ⟨g9, g10⟩⟩
theorem r_shows_nd {n nd nd' : Nat} {ca cb : Int32} {sh : Nat → Nat → Int32} {db eb : Nat → Int32} (hle : nd ≤ nd') (h : r_shows n nd ca cb sh db eb) : r_shows n nd' ca cb sh db eb := by
  obtain ⟨h1, h2, h3, h4, h5, h6⟩ := h
  exact ⟨h1, h2, h3, h4, h5, fun i hi d hd => ⟨fun hb => ⟨((h6 i hi d hd).1 hb).1, Nat.lt_of_lt_of_le ((h6 i hi d hd).1 hb).2 hle⟩, (h6 i hi d hd).2⟩⟩
theorem r_facts_nd {n ns ns' nd nd' : Nat} {ca cb : Int32} {ka sa da va ya kb ib db vb : Nat → Int32} (hs : ns ≤ ns') (hle : nd ≤ nd') (h : r_facts n ns nd ca cb ka sa da va ya kb ib db vb) : r_facts n ns' nd' ca cb ka sa da va ya kb ib db vb := by
  obtain ⟨h1, h2, h3, h4⟩ := h
  refine ⟨h1, h2, h3, fun i hi => ?_⟩
  obtain ⟨g1, g2, g3, ⟨k, hk, ek⟩, g5⟩ := h4 i hi
  refine ⟨g1, g2, g3, ⟨k, by omega, ek⟩, g5.imp id (fun g => ?_)⟩
  obtain ⟨a1, a2, a3, ⟨k2, hk2, ek2⟩, a5⟩ := g
  exact ⟨a1, a2, a3, ⟨k2, by omega, ek2⟩, a5⟩
/-! show -/
def u_showA (σ : xw_M) (n : Nat) (a : Int32) : xw_M := xw_i (xw_i σ (11 + n) 2 a) 0 9 (nI (n + 1))
def u_showB (τ : xw_M) (n : Nat) (a : Int32) : xw_M := xw_i (xw_i τ 36 n a) 0 53 (nI (n + 1))
def ok_show (n : Nat) (db : Nat → Int32) (a : Int32) : Prop := n < 5 ∧ (0 ≤ a.toInt ∧ a.toInt < 10000) ∧ (0 < n → (db (n - 1)).toInt < a.toInt)
theorem pA_showM {σ : xw_M} {n : Nat} {a : Int32} {db : Nat → Int32} {Z : Int32 → xw_M → Prop} (hn : σ.1 0 9 = nI n) (hn5 : n ≤ 5) (hdb : ∀ i, i < n → σ.1 (11 + i) 2 = db i) (h1 : ok_show n db a → Z (nI n) (u_showA σ n a)) (h0 : ¬ ok_show n db a → Z (-1) σ) : xu_X11_show σ a Z := by
  intro K hK
  have ec : (σ.1 0 9).toNatClampNeg = n := by rw [hn]; exact nI_clamp (by omega)
  have k1 : ok_show n db a → K σ := by
    intro ok
    have hlt := ok.1
    refine hK _ ⟨by rw [hn]; exact vp_in_nI hlt (by decide), fun σ1 e1 σ2 e2 => ?_⟩
    subst e1
    rw [ec] at e2
    have e3 : (xw_i σ (11 + n) 2 a).1 0 9 = nI n := by rw [xw_ne (by omega)]; exact hn
    rw [e3, nI_1] at e2
    subst e2
    rw [xw_eq, show nI (n + 1) - 1 = nI n from nI_pred n]
    exact h1 ok
  refine ⟨fun g => h0 (fun o => by have := o.1; rw [hn, i_le, i_nI (by omega), i_5] at g; omega), fun g => ?_⟩
  have hlt : n < 5 := by rw [hn, i_le, i_nI (by omega), i_5] at g; omega
  refine pA_day (fun g1 g2 => ⟨fun _ => ⟨fun g3 => k1 ⟨hlt, ⟨g1, g2⟩, fun hp => ?_⟩, fun g3 => ?_⟩, fun g => absurd g (by decide)⟩) (fun g => ⟨fun g2 => absurd rfl g2, fun _ => h0 (fun o => g o.2.1)⟩)
  · rw [hn, i_le, i_nI (by omega), i_0] at g3; omega
  · have hpos : 0 < n := by rw [hn, i_le, i_nI (by omega), i_0] at g3; omega
    obtain ⟨m, rfl⟩ : ∃ m, n = m + 1 := ⟨n - 1, by omega⟩
    have e1 : σ.1 0 9 - 1 = nI m := by rw [hn]; exact nI_pred m
    have e2 : (σ.1 0 9 - 1).toNatClampNeg = m := by rw [e1]; exact nI_clamp (by omega)
    refine ⟨by rw [e1]; exact vp_in_nI (by omega) (by decide), ?_⟩
    rw [e2, hdb m (by omega)]
    refine ⟨fun g4 => k1 ⟨hlt, ⟨g1, g2⟩, fun _ => ?_⟩, fun g4 => h0 (fun o => g4 (i_lt.mpr (o.2.2 hpos)))⟩
    exact i_lt.mp g4
theorem pB_showM {τ : xw_M} {n : Nat} {a : Int32} {Z : Int32 → xw_M → Prop} (hn : τ.1 0 53 = nI n) (hn5 : n ≤ 5) (h1 : ok_show n (τ.1 36) a → Z (nI n) (u_showB τ n a)) (h0 : ¬ ok_show n (τ.1 36) a → Z (-1) τ) : xu_X12_show τ a Z := by
  intro K hK
  have ec : (τ.1 0 53).toNatClampNeg = n := by rw [hn]; exact nI_clamp (by omega)
  have k1 : ok_show n (τ.1 36) a → K τ := by
    intro ok
    have hlt := ok.1
    refine hK _ ⟨by rw [hn]; exact vp_in_nI hlt (by decide), fun σ1 e1 σ2 e2 => ?_⟩
    subst e1
    have e3 : (xw_i τ 36 n a).1 0 53 = nI n := hn
    rw [ec, e3, nI_1] at e2
    subst e2
    rw [xw_eq, show nI (n + 1) - 1 = nI n from nI_pred n]
    exact h1 ok
  refine ⟨fun g => h0 (fun o => by have := o.1; rw [hn, i_eq, i_nI (by omega), i_5] at g; omega), fun g => ?_⟩
  have hlt : n < 5 := by rw [hn, i_eq, i_nI (by omega), i_5] at g; omega
  refine pB_day (fun g1 g2 => ⟨fun g => absurd g (by decide), fun _ => ⟨fun g3 => k1 ⟨hlt, ⟨g1, g2⟩, fun hp => ?_⟩, fun g3 => ?_⟩⟩) (fun g => ⟨fun _ => h0 (fun o => g o.2.1), fun g2 => absurd rfl g2⟩)
  · rw [hn, i_le, i_nI (by omega), i_0] at g3; omega
  · have hpos : 0 < n := by rw [hn, i_le, i_nI (by omega), i_0] at g3; omega
    obtain ⟨m, rfl⟩ : ∃ m, n = m + 1 := ⟨n - 1, by omega⟩
    have e1 : τ.1 0 53 - 1 = nI m := by rw [hn]; exact nI_pred m
    have e2 : (τ.1 0 53 - 1).toNatClampNeg = m := by rw [e1]; exact nI_clamp (by omega)
    refine ⟨by rw [e1]; exact vp_in_nI (by omega) (by decide), ?_⟩
    rw [e2]
    refine ⟨fun g4 => k1 ⟨hlt, ⟨g1, g2⟩, fun _ => ?_⟩, fun g4 => h0 (fun o => g4 (i_lt.mpr (o.2.2 hpos)))⟩
    exact i_lt.mp g4
section ADDS2
variable {tx : xw_M → xw_M → Prop}
theorem s_dog (htx : r_txOk tx) : ∀ σ τ, r_R tx σ τ → ∀ a0 a1 a2 a3 a4 : Int32, xu_X11_dog σ a0 a1 a2 a3 a4 (fun r σ1 => xu_X12_dog τ a0 a1 a2 a3 a4 (fun r2 τ1 => r = r2 ∧ r_R tx σ1 τ1)) := by
  intro σ τ hR a b c d e
  obtain ⟨nt, nb, nd, ns, nf, h1, h2, h3, h4, h5, h6, h7, h8, h9, h10, h11⟩ := id hR
  obtain ⟨q1, q2, q3, q4⟩ := id h6
  obtain ⟨w1, w2, w3, w4⟩ := id h7
  refine pA_dogM q2 q1 w2 w1 (fun ok => pB_dogM q3 q1 w3 w1 (fun _ => ⟨rfl, ?_⟩) (fun h => absurd ok h)) (fun no => pB_dogM q3 q1 w3 w1 (fun ok => absurd ok no) (fun _ => ⟨rfl, hR⟩))
  obtain ⟨o1, ⟨o2, o3⟩, ⟨o4, o5⟩, ⟨o6, o7⟩, ⟨o8, o9⟩, ⟨o10, o11⟩⟩ := ok
  obtain ⟨ka, hka, eka, -⟩ := i_of o2 o3
  obtain ⟨kd, hkd, ekd, -⟩ := i_of o8 o9
  obtain ⟨ke, hke, eke, -⟩ := i_of o10 o11
  refine ⟨nt, nb, nd + 1, ns, nf, h1, h2, h3, h4, h5, h6, ⟨by omega, rfl, rfl, fun i hi => ?_⟩, r_shows_nd (Nat.le_succ _) (r_shows_c h8 (fun i hi => ?_)), r_facts_nd (Nat.le_refl _) (Nat.le_succ _) h9, r_plan_c h10 (fun i hi => ?_), htx _ _ _ _ h11 rfl (by intro c hc; rcases hc with rfl | rfl | rfl | rfl | rfl | rfl | rfl | rfl | rfl <;> rfl) rfl (fun c hc h => ?_)⟩
  · by_cases hin : i = nd
    · subst hin
      simp [u_dogA, u_dogB, xw_i]
      exact ⟨⟨ka, hka, eka⟩, o4, o5, o6, o7, ⟨kd, hkd, ekd⟩, ⟨ke, hke, eke⟩⟩
    · simp [u_dogA, u_dogB, xw_i, hin]
      exact w4 i (by omega)
  · unfold u_dogA
    rw [xw_ne (by omega), xw_ne (by omega), xw_ne (by omega), xw_ne (by omega), xw_ne (by omega), xw_ne (by omega)]
  · unfold u_dogA
    rw [xw_ne (by omega), xw_ne (by omega), xw_ne (by omega), xw_ne (by omega), xw_ne (by omega), xw_ne (by omega)]
  · unfold u_dogB
    by_cases hc31 : c ≤ 23
    · rw [xw_ne (by omega), xw_ne (by omega), xw_ne (by omega), xw_ne (by omega), xw_ne (by omega), xw_ne (by omega)]
    · omega
theorem s_show (htx : r_txOk tx) : ∀ σ τ, r_R tx σ τ → ∀ a0 : Int32, xu_X11_show σ a0 (fun r σ1 => xu_X12_show τ a0 (fun r2 τ1 => r = r2 ∧ r_R tx σ1 τ1)) := by
  intro σ τ hR a
  obtain ⟨nt, nb, nd, ns, nf, h1, h2, h3, h4, h5, h6, h7, h8, h9, h10, h11⟩ := id hR
  obtain ⟨q1, q2, q3, q4, q5, q6⟩ := id h8
  refine pA_showM (db := τ.1 36) q2 q1 (fun i hi => (q5 i hi).1) (fun ok => pB_showM q3 q1 (fun _ => ⟨rfl, ?_⟩) (fun h => absurd ok h)) (fun no => pB_showM q3 q1 (fun ok => absurd ok no) (fun _ => ⟨rfl, hR⟩))
  obtain ⟨o1, ⟨o2, o3⟩, o4⟩ := ok
  have eS : ∀ c, c ≠ 0 → c ≠ 11 + ns → (u_showA σ ns a).1 c = σ.1 c := by
    intro c hc0 hc1
    unfold u_showA
    rw [xw_ne hc0, xw_ne hc1]
  have e0 : ∀ j, j ≠ 9 → (u_showA σ ns a).1 0 j = σ.1 0 j := by
    intro j hj
    unfold u_showA
    rw [xw_nj hj, xw_ne (by omega)]
  refine ⟨nt, nb, nd, ns + 1, nf, ?_, ?_, ?_, ?_, ?_, ?_, ?_, ⟨by omega, by unfold u_showA; exact xw_eq, rfl, fun i hi => ?_, fun i hi => ?_, fun i hi d hd => ?_⟩, ?_, r_plan_c h10 (fun i hi => eS _ (by omega) (by omega)), htx _ _ _ _ h11 rfl (fun c hc => eS c (by omega) (by omega)) rfl (fun c hc h => ?_)⟩
  · rw [eS 1 (by omega) (by omega), eS 24 (by omega) (by omega)]; exact h1
  · rw [eS 28 (by omega) (by omega)]; exact h2
  · rw [eS 29 (by omega) (by omega)]; exact h3
  · rw [e0 10 (by omega)]; exact h4
  · rw [e0 11 (by omega)]; exact h5
  · rw [eS 4 (by omega) (by omega), eS 30 (by omega) (by omega), eS 31 (by omega) (by omega), eS 32 (by omega) (by omega), eS 33 (by omega) (by omega)]; exact h6
  · rw [eS 4 (by omega) (by omega), eS 34 (by omega) (by omega), eS 35 (by omega) (by omega), eS 36 (by omega) (by omega), eS 37 (by omega) (by omega), eS 38 (by omega) (by omega)]; exact h7
  · show (u_showA σ ns a).1 (11 + i) 0 = nI i
    unfold u_showA
    rw [xw_ne (by omega)]
    by_cases hin : i = ns
    · subst hin; rw [xw_nj (by omega)]; exact q4 i hi
    · rw [xw_ne (by omega)]; exact q4 i hi
  · show (u_showA σ ns a).1 (11 + i) 2 = (u_showB τ ns a).1 36 i ∧ _
    unfold u_showA u_showB
    rw [xw_ne (by omega), xw_ne (c' := 36) (by omega)]
    by_cases hin : i = ns
    · subst hin; rw [xw_eq, xw_eq]; exact ⟨rfl, o2, o3⟩
    · rw [xw_ne (by omega), xw_nj (j' := i) hin]; exact q5 i (by omega)
  · have e2 : (u_showA σ ns a).1 (11 + i) 3 = σ.1 (11 + i) 3 := by
      unfold u_showA
      rw [xw_ne (by omega)]
      by_cases hin : i = ns
      · subst hin; rw [xw_nj (by omega)]
      · rw [xw_ne (by omega)]
    show (bt ((u_showA σ ns a).1 (11 + i) 3) d = true → _) ∧ (_ → _ = if bt ((u_showA σ ns a).1 (11 + i) 3) d = true then _ else _)
    rw [e2]
    have := q6 i hi d hd
    exact ⟨fun hb => ⟨by have := (this.1 hb).1; omega, (this.1 hb).2⟩, this.2⟩
  · rw [eS 5 (by omega) (by omega), eS 39 (by omega) (by omega), eS 40 (by omega) (by omega), eS 41 (by omega) (by omega), eS 42 (by omega) (by omega), eS 43 (by omega) (by omega)]
    exact r_facts_nd (Nat.le_succ _) (Nat.le_refl _) h9
  · unfold u_showB
    rw [xw_ne (by omega), xw_ne (by omega)]
end ADDS2
