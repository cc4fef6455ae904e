/-! the rules of the two texts -/
/-- what a RULE is: its kind, its two INTs, its E, its COND -/
abbrev tU := Nat × Int32 × Int32 × tF × List (List tG)
def t_kA (k : Nat) : Nat := if k = 0 then 9 else if k = 1 then 4 else if k = 2 then 11 else 12
def uA (ks f1 f2 tf cf ct st nu : Nat → Int32) (sz : Nat) (U : tU) (r : Nat) : Prop := U.1 < 4 ∧ ks r = nI (t_kA U.1) ∧ f1 r = U.2.1 ∧ f2 r = U.2.2.1 ∧ ∃ p q u : Nat, tf r = nI p ∧ cf r = nI q ∧ ct r = nI u ∧ p ≤ q ∧ q ≤ u ∧ u ≤ sz ∧ (U.1 = 2 → tA st nu p q U.2.2.2.1) ∧ tAcond st nu U.2.2.2.2 q u
def uB (rs ri ru rf rt rl rk so le rr en og co ci : Nat → Int32) (live : Nat) (U : tU) (x : Nat) : Prop := rs x = nI U.1 ∧ ri x = U.2.1 ∧ ru x = U.2.2.1 ∧ (U.1 = 2 → ∃ p q : Nat, rf x = nI p ∧ rt x = nI q ∧ q ≤ 1000 ∧ q ≤ p + 500 ∧ tB co ci p q U.2.2.2.1) ∧ ∃ k k' : Nat, rl x = nI k ∧ rk x = nI k' ∧ k' ≤ 200 ∧ tBcond so le rr en og co ci (200 * live) U.2.2.2.2 k k'
def t_holds (va : Nat → Int32) (U : tU) : Bool := U.2.2.2.2.isEmpty || t_cond va U.2.2.2.2
def l_find (P : Nat → Bool) : Nat → Nat → Option Nat
  | 0, _ => none
  | k + 1, i => if P i then some i else l_find P k (i + 1)
theorem l_find_some {P : Nat → Bool} : ∀ {k i r : Nat}, l_find P k i = some r → i ≤ r ∧ r < i + k ∧ P r = true
  | 0, _, _, h => by cases h
  | k + 1, i, r, h => by
    simp only [l_find] at h
    cases hp : P i with
    | true =>
      rw [hp] at h
      cases h
      exact ⟨Nat.le_refl _, by omega, hp⟩
    | false =>
      rw [hp] at h
      have := l_find_some (k := k) (i := i + 1) h
      exact ⟨by omega, by omega, this.2.2⟩
def o_ix : Option Nat → Int32
  | none => -1
  | some m => nI m
def t_first (F : Nat → tU) (nr k : Nat) (va : Nat → Int32) : Option Nat := l_find (fun r => decide ((F r).1 = k) && t_holds va (F r)) nr 0
/-- the text that the class holds as number o -/
def TA (o : Nat) (σ : xw_M) (nr sz : Nat) (F : Nat → tU) : Prop := nr ≤ 16 ∧ sz ≤ 400 ∧ σ.1 (9 + o) 9 = nI nr ∧ σ.1 (9 + o) 10 = nI sz ∧ ∀ r, r < nr → uA (σ.1 (48 + o)) (σ.1 (50 + o)) (σ.1 (52 + o)) (σ.1 (54 + o)) (σ.1 (56 + o)) (σ.1 (58 + o)) (σ.1 (60 + o)) (σ.1 (62 + o)) sz (F r) r
/-- the text that the reference holds on a side -/
def TB (τ : xw_M) (live nr : Nat) (F : Nat → tU) : Prop := live ≤ 1 ∧ τ.1 8 live = nI nr ∧ ∀ r, r < nr → uB (τ.1 9) (τ.1 10) (τ.1 11) (τ.1 12) (τ.1 13) (τ.1 14) (τ.1 15) (τ.1 17) (τ.1 18) (τ.1 19) (τ.1 20) (τ.1 21) (τ.1 22) (τ.1 23) live (F r) (16 * live + r)
def t_keys : Nat → Int64 := xq_B0.2 7
/-- τ1 holds a side as τ does -/
def tSd (live : Nat) (τ τ1 : xw_M) : Prop := τ1.1 8 live = τ.1 8 live ∧ (∀ c, 9 ≤ c → c ≤ 15 → ∀ j, 16 * live ≤ j → j < 16 * live + 16 → τ1.1 c j = τ.1 c j) ∧ (∀ c, 17 ≤ c → c ≤ 21 → ∀ j, 200 * live ≤ j → j < 200 * live + 200 → τ1.1 c j = τ.1 c j) ∧ ∀ c, 22 ≤ c → c ≤ 23 → ∀ j, 500 * live ≤ j → j < 500 * live + 500 → τ1.1 c j = τ.1 c j
theorem tSd_0 {live : Nat} {τ : xw_M} : tSd live τ τ := ⟨rfl, fun _ _ _ _ _ _ => rfl, fun _ _ _ _ _ _ => rfl, fun _ _ _ _ _ _ => rfl⟩
theorem tSd_c {live : Nat} {τ τ1 τ2 : xw_M} (h : tSd live τ1 τ2) (e : ∀ c, 8 ≤ c → c ≤ 23 → τ1.1 c = τ.1 c) : tSd live τ τ2 := ⟨by rw [← e 8 (by decide) (by decide)]; exact h.1, fun c c1 c2 j a b => by rw [← e c (by omega) (by omega)]; exact h.2.1 c c1 c2 j a b, fun c c1 c2 j a b => by rw [← e c (by omega) (by omega)]; exact h.2.2.1 c c1 c2 j a b, fun c c1 c2 j a b => by rw [← e c (by omega) (by omega)]; exact h.2.2.2 c c1 c2 j a b⟩
def tX (σ τ : xw_M) : Prop := τ.2 7 = t_keys ∧ ∃ live nr sz F, TA 0 σ nr sz F ∧ τ.1 0 18 = nI live ∧ ∀ τ1, tSd live τ τ1 → TB τ1 live nr F
theorem TA_c {o : Nat} {σ σ1 : xw_M} {nr sz : Nat} {F : Nat → tU} (h : TA o σ nr sz F) (e : ∀ c, c = 9 + o ∨ c = 48 + o ∨ c = 50 + o ∨ c = 52 + o ∨ c = 54 + o ∨ c = 56 + o ∨ c = 58 + o ∨ c = 60 + o ∨ c = 62 + o → σ1.1 c = σ.1 c) : TA o σ1 nr sz F := by
  unfold TA
  rw [e (9 + o) (by omega), e (48 + o) (by omega), e (50 + o) (by omega), e (52 + o) (by omega), e (54 + o) (by omega), e (56 + o) (by omega), e (58 + o) (by omega), e (60 + o) (by omega), e (62 + o) (by omega)]
  exact h
theorem TB_c {τ τ1 : xw_M} {live nr : Nat} {F : Nat → tU} (h : TB τ live nr F) (e : ∀ c, 8 ≤ c → c ≤ 23 → τ1.1 c = τ.1 c) : TB τ1 live nr F := by
  unfold TB
  rw [e 8 (by decide) (by decide), e 9 (by decide) (by decide), e 10 (by decide) (by decide), e 11 (by decide) (by decide), e 12 (by decide) (by decide), e 13 (by decide) (by decide), e 14 (by decide) (by decide), e 15 (by decide) (by decide), e 17 (by decide) (by decide), e 18 (by decide) (by decide), e 19 (by decide) (by decide), e 20 (by decide) (by decide), e 21 (by decide) (by decide), e 22 (by decide) (by decide), e 23 (by decide) (by decide)]
  exact h
theorem tX_ok : r_txOk tX := by
  intro σ τ σ1 τ1 h h7 hA h18 hB
  obtain ⟨k, live, nr, sz, F, a, b, c⟩ := h
  exact ⟨h7.trans k, live, nr, sz, F, TA_c a (fun c hc => hA c (by omega)), h18.trans b, fun τ2 h2 => c τ2 (tSd_c h2 hB)⟩
theorem qB_holds {τ : xw_M} {live nr r : Nat} {F : Nat → tU} {Z : Int32 → xw_M → Prop} (hl : τ.1 0 18 = nI live) (hT : TB τ live nr F) (hr : r < nr) (hnr : nr ≤ 16) (h : ∀ τ1, vB_F τ τ1 → Z (t_b (t_holds (τ.1 42) (F r))) τ1) : xu_X12_holds τ (nI (16 * live + r)) Z := by
  obtain ⟨l1, l2, l3⟩ := hT
  obtain ⟨_, _, _, _, k, k', e1, e2, e3, e4⟩ := l3 r hr
  intro K26 K76 h26 h76
  have cx : (nI (16 * live + r)).toNatClampNeg = 16 * live + r := nI_clamp (by omega)
  have vx : vp_in (nI (16 * live + r)) 32 := vp_in_nI (by omega) (by decide)
  unfold xb_X12_holds_e
  rw [cx, e1, e2]
  unfold t_holds at h
  generalize (F r).2.2.2.2 = c at *
  refine ⟨vx, vx, fun g => ⟨vx, ?_⟩, fun g => ⟨Or.inr rfl, ?_⟩⟩
  · refine vB_cond (b := false) h26 h76 (by omega) rfl e2 hl e3 l1 ⟨fun _ _ => rfl, rfl⟩ e4 (fun τ1 F1 => ?_)
    have := h τ1 F1
    cases c with
    | nil =>
      obtain rfl : k = k' := e4
      exact absurd rfl g
    | cons L l => simpa using this
  · cases c with
    | nil => exact h τ ⟨fun _ _ => rfl, rfl⟩
    | cons L l =>
      exfalso
      obtain ⟨m, a, b⟩ := e4
      have := tBall_lt a
      have := tBcond_le b
      have := (nI_eq (by omega) (by omega)).mp g
      omega
theorem qB_rule {τ : xw_M} {live nr kd : Nat} {F : Nat → tU} {Z : Int32 → xw_M → Prop} (hkd : kd < 4) (hl : τ.1 0 18 = nI live) (hT : TB τ live nr F) (hk : ∀ r, r < nr → (F r).1 < 4) (hnr : nr ≤ 16) (h : ∀ τ1, vB_F τ τ1 → Z (o_ix (t_first F nr kd (τ.1 42))) τ1) : xu_X12_ruleOf τ (nI kd) Z := by
  intro K hK
  have key : ∀ (k i : Nat) (τ' : xw_M), i + k = nr → vB_F τ τ' → (∀ τ1, vB_F τ τ1 → Z (o_ix (l_find (fun r => decide ((F r).1 = kd) && t_holds (τ.1 42) (F r)) k i)) τ1) → K τ' (nI i) := by
    intro k
    induction k with
    | zero =>
      intro i τ' hi hF hz
      apply hK
      have el := hF.1 0 (by decide)
      obtain ⟨l1, l2, l3⟩ := hT
      unfold xb_X12_ruleOf_2
      rw [el, hl, nI_clamp (by omega), hF.1 8 (by decide), l2]
      obtain rfl : i = nr := by omega
      exact ⟨vp_in_nI (by omega) (by decide), fun _ => hz τ' hF, fun g => absurd (nI_le (Nat.le_refl i) (by omega)) g⟩
    | succ k ih =>
      intro i τ' hi hF hz
      apply hK
      have el := hF.1 0 (by decide)
      have hT' : TB τ' live nr F := TB_c hT (fun c _ _ => hF.1 c (by omega))
      obtain ⟨l1, l2, l3⟩ := id hT'
      have ex : (16 : Int32) * nI live + nI i = nI (16 * live + i) := by rw [show (16 : Int32) = nI 16 from rfl, pk_mul, nI_add]
      obtain ⟨g1, _⟩ := l3 i (by omega)
      unfold xb_X12_ruleOf_2
      rw [el, hl, nI_clamp (by omega), l2, ex, nI_clamp (n := 16 * live + i) (by omega), g1, nI_1]
      have hk4 := hk i (by omega)
      simp only [l_find] at hz
      refine ⟨vp_in_nI (by omega) (by decide), fun g => absurd g (nI_ge (by omega) (by omega)), fun _ => ⟨vp_in_nI (by omega) (by decide), fun g => ?_, fun g => ?_⟩⟩
      · have : ¬ (F i).1 = kd := fun z => g (by rw [z])
        simp only [this, decide_false, Bool.false_and] at hz
        exact ih (i + 1) τ' (by omega) hF hz
      · have : (F i).1 = kd := (nI_eq (by omega) (by omega)).mp g
        simp only [this, decide_true, Bool.true_and] at hz
        refine qB_holds (by rw [el, hl]) hT' (by omega) hnr (fun τ1 F1 => ⟨fun z => ?_, fun z => ?_⟩)
        · rw [hF.1 42 (by decide)] at z
          have hh : t_holds (τ.1 42) (F i) = false := by
            cases hq : t_holds (τ.1 42) (F i)
            · rfl
            · rw [hq] at z; exact absurd z (by decide)
          rw [hh] at hz
          exact ih (i + 1) τ1 (by omega) (vB_F_t hF F1) hz
        · rw [hF.1 42 (by decide)] at z
          have hh : t_holds (τ.1 42) (F i) = true := by
            cases hq : t_holds (τ.1 42) (F i)
            · rw [hq] at z; exact absurd rfl z
            · rfl
          rw [hh] at hz
          exact hz τ1 (vB_F_t hF F1)
  exact key nr 0 τ (by omega) ⟨fun _ _ => rfl, rfl⟩ h
/-- the class's scratch: its stack -/
def vA_F (σ σ1 : xw_M) : Prop := ∀ c, c ≠ 64 → σ1.1 c = σ.1 c
theorem vA_F_t {a b c : xw_M} (h1 : vA_F a b) (h2 : vA_F b c) : vA_F a c := fun x hx => (h2 x hx).trans (h1 x hx)
theorem t_kA_inj : ∀ a, a < 4 → ∀ b, b < 4 → t_kA a = t_kA b → a = b := by decide
theorem t_kA_lt (a : Nat) : t_kA a < 100 := by unfold t_kA; split; decide; split; decide; split <;> decide
theorem qA_first {σ : xw_M} {nr sz kd : Nat} {F : Nat → tU} {Z : Int32 → xw_M → Prop} (hkd : kd < 4) (hT : TA 0 σ nr sz F) (h : ∀ σ1, vA_F σ σ1 → Z (o_ix (t_first F nr kd (σ.1 44))) σ1) : xu_X9_firstHolding σ 0 (nI (t_kA kd)) Z := by
  intro K2 K30 h2 h30
  obtain ⟨n1, n2, -⟩ := id hT
  have key : ∀ (k i : Nat) (σ' : xw_M), i + k = nr → vA_F σ σ' → (∀ σ1, vA_F σ σ1 → Z (o_ix (l_find (fun r => decide ((F r).1 = kd) && t_holds (σ.1 44) (F r)) k i)) σ1) → K2 σ' (nI i) := by
    intro k
    induction k with
    | zero =>
      intro i σ' hi hF hz
      apply h2
      have hT' : TA 0 σ' nr sz F := TA_c hT (fun c _ => hF c (by omega))
      obtain ⟨l1, l2, l3, l4, l5⟩ := id hT'
      unfold xb_X9_firstHolding_2
      rw [l3]
      obtain rfl : i = nr := by omega
      exact ⟨fun _ => hz σ' hF, fun g => absurd (nI_le (Nat.le_refl i) (by omega)) g⟩
    | succ k ih =>
      intro i σ' hi hF hz
      apply h2
      have hT' : TA 0 σ' nr sz F := TA_c hT (fun c _ => hF c (by omega))
      obtain ⟨l1, l2, l3, l4, l5⟩ := id hT'
      obtain ⟨u1, u2, u3, u4, p, q, u, u5, u6, u7, u8, u9, u10, u11, u12⟩ := l5 i (by omega)
      have ci : (nI i).toNatClampNeg = i := nI_clamp (by omega)
      have vi : vp_in (nI i) 16 := vp_in_nI (by omega) (by decide)
      unfold xb_X9_firstHolding_2
      rw [l3, ci, u6, u7]
      simp only [l_find] at hz
      have step : ∀ s0 : Int32, ((s0 = 0 ∧ ¬ q = u) ∨ (s0 = 1 ∧ q = u)) → K30 σ' s0 (nI i) := by
        intro s0 hs0
        apply h30
        unfold xb_X9_firstHolding_30
        rw [ci, u2, u6, u7, nI_1]
        have e1 := t_kA_lt (F i).1
        have e2 := t_kA_lt kd
        refine ⟨vi, fun g => ?_, fun g => ?_⟩
        · have : ¬ (F i).1 = kd := fun z => g (by rw [z])
          simp only [this, decide_false, Bool.false_and] at hz
          exact ih (i + 1) σ' (by omega) hF hz
        · have : (F i).1 = kd := t_kA_inj _ u1 _ hkd ((nI_eq (by omega) (by omega)).mp g)
          simp only [this, decide_true, Bool.true_and] at hz
          unfold t_holds at hz
          generalize hc : (F i).2.2.2.2 = c at *
          refine ⟨fun z => ?_, fun z => ⟨vi, vi, ?_⟩⟩
          · rcases hs0 with ⟨e, _⟩ | ⟨_, e⟩
            · exact absurd e z
            · cases c with
              | nil => exact hz σ' hF
              | cons L l =>
                exfalso
                obtain ⟨m, a, b⟩ := u12
                have := tAall_lt a
                have := tAors_le b
                omega
          · rcases hs0 with ⟨_, e⟩ | ⟨e, _⟩
            · cases c with
              | nil => exact absurd u12 e
              | cons L l =>
                refine qA_cond (by decide) l4 (by omega) l2 u12 (fun σ1 F1 => ?_)
                have F1' : vA_F σ σ1 := vA_F_t hF F1
                rw [hF 44 (by decide)]
                simp only [List.isEmpty_cons, Bool.false_or] at hz
                refine ⟨fun z => ?_, fun z => ?_⟩
                · have hh : t_cond (σ.1 44) (L :: l) = false := by
                    cases hq : t_cond (σ.1 44) (L :: l)
                    · rfl
                    · rw [hq] at z; exact absurd z (by decide)
                  rw [hh] at hz
                  exact ih (i + 1) σ1 (by omega) F1' hz
                · have hh : t_cond (σ.1 44) (L :: l) = true := by
                    cases hq : t_cond (σ.1 44) (L :: l)
                    · rw [hq] at z; exact absurd rfl z
                    · rfl
                  rw [hh] at hz
                  exact hz σ1 F1'
            · rw [e] at z; exact absurd z (by decide)
      refine ⟨fun g => absurd g (nI_ge (by omega) (by omega)), fun _ => ⟨vi, vi, fun g => ?_, fun g => ?_⟩⟩
      · exact step 0 (Or.inl ⟨rfl, fun z => g (by rw [z])⟩)
      · exact step 1 (Or.inr ⟨rfl, (nI_eq (by omega) (by omega)).mp g⟩)
  exact key nr 0 σ (by omega) (fun _ _ => rfl) h
