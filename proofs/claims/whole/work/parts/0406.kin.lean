theorem pA_areKin {σ : xw_M} {p q : Nat} {Z : Int32 → xw_M → Prop} (hp : p < 12) (hq : q < 12) (h1 : bt (σ.1 28 p) q = true → Z 1 σ) (h0 : ¬ bt (σ.1 28 p) q = true → Z 0 σ) : xu_X2_areKin σ (nI p) (nI q) Z := by
  have ep : (nI p).toInt = p := i_nI (by omega)
  have eq : (nI q).toInt = q := i_nI (by omega)
  refine pA_person (fun _ _ => ⟨fun g => absurd g (by decide), fun _ => ?_⟩) (fun a => absurd (by rw [ep]; omega) a)
  refine pA_person (fun _ _ => ⟨fun g => absurd g (by decide), fun _ => ?_⟩) (fun a => absurd (by rw [eq]; omega) a)
  refine ⟨vp_in_nI hp (by decide), ?_⟩
  rw [nI_clamp (by omega)]
  exact ⟨fun g => ⟨by simp, h0 (fun z => g ((bt_test _ (by omega)).mpr z))⟩, fun g => ⟨by simp, h1 ((bt_test _ (by omega)).mp g)⟩⟩
def u_kinA (σ : xw_M) (p q : Nat) : xw_M := xw_i (xw_i σ 28 p (σ.1 28 p ||| ((1 : Int32) <<< (nI q &&& 31)))) 28 q (σ.1 28 q ||| ((1 : Int32) <<< (nI p &&& 31)))
theorem pA_makeKin {σ : xw_M} {p q : Nat} {Z : xw_M → Prop} (hp : p < 12) (hq : q < 12) (hne : p ≠ q) (h : Z (u_kinA σ p q)) : xu_X2_makeKin σ (nI p) (nI q) Z := by
  have ep : (nI p).toInt = p := i_nI (by omega)
  have eq : (nI q).toInt = q := i_nI (by omega)
  refine pA_person (fun _ _ => ⟨fun g => absurd g (by decide), fun _ => ?_⟩) (fun a => absurd (by rw [ep]; omega) a)
  refine pA_person (fun _ _ => ⟨fun g => absurd g (by decide), fun _ => ?_⟩) (fun a => absurd (by rw [eq]; omega) a)
  refine ⟨vp_in_nI hp (by decide), vp_in_nI hp (by decide), fun σ1 e1 => ⟨vp_in_nI hq (by decide), vp_in_nI hq (by decide), fun σ2 e2 => ?_⟩⟩
  rw [nI_clamp (by omega)] at e1 e2
  subst e1
  rw [xw_nj (Ne.symm hne)] at e2
  subst e2
  exact h
def u_kinB (τ : xw_M) (p q : Nat) : xw_M := xw_i (xw_i τ 25 (12 * p + q) 1) 25 (12 * q + p) 1
def ok_kin (kb : Nat → Int32) (a b : Int32) : Prop := (0 ≤ a.toInt ∧ a.toInt < 12) ∧ (0 ≤ b.toInt ∧ b.toInt < 12) ∧ a ≠ b ∧ kb (12 * a.toNatClampNeg + b.toNatClampNeg) = 0
theorem pA_kinM {σ : xw_M} {kb : Nat → Int32} {a b : Int32} {Z : Int32 → xw_M → Prop} (hk : r_kin (σ.1 28) kb) (h1 : ok_kin kb a b → Z 1 (u_kinA σ a.toNatClampNeg b.toNatClampNeg)) (h0 : ¬ ok_kin kb a b → Z 0 σ) : xu_X11_kin σ a b Z := by
  refine pA_person (fun a1 a2 => ⟨fun g => absurd g (by decide), fun _ => ?_⟩) (fun g => ⟨fun _ => ⟨by simp, h0 (fun o => g o.1)⟩, fun g2 => absurd rfl g2⟩)
  refine pA_person (fun b1 b2 => ⟨fun g => absurd g (by decide), fun _ => ?_⟩) (fun g => ⟨fun _ => ⟨by simp, h0 (fun o => g o.2.1)⟩, fun g2 => absurd rfl g2⟩)
  refine ⟨fun g => ⟨by simp, h0 (fun o => o.2.2.1 g)⟩, fun hne => ?_⟩
  obtain ⟨p, hp, rfl, -, ep⟩ := i_of (n := 12) a1 a2
  obtain ⟨q, hq, rfl, -, eq⟩ := i_of (n := 12) b1 b2
  have hpq : p ≠ q := fun z => hne (by rw [z])
  have hkb := hk p q hp hq
  rw [ep, eq] at h1
  refine pA_areKin hp hq (fun g => ⟨fun g2 => absurd g2 (by decide), fun _ => ⟨by simp, h0 (fun o => ?_)⟩⟩) (fun g => ⟨fun _ => pA_makeKin hp hq hpq ⟨by simp, h1 ⟨⟨a1, a2⟩, ⟨b1, b2⟩, hne, ?_⟩⟩, fun g2 => absurd rfl g2⟩)
  · have z := o.2.2.2
    rw [ep, eq, hkb, if_pos g] at z
    exact absurd z (by decide)
  · rw [ep, eq, hkb, if_neg g]
theorem pB_kinM {τ : xw_M} {a b : Int32} {Z : Int32 → xw_M → Prop} (h1 : ok_kin (τ.1 25) a b → Z 1 (u_kinB τ a.toNatClampNeg b.toNatClampNeg)) (h0 : ¬ ok_kin (τ.1 25) a b → Z 0 τ) : xu_X12_kin τ a b Z := by
  refine pB_person (fun a1 a2 => ⟨fun g => absurd g (by decide), fun _ => ?_⟩) (fun g => ⟨fun _ => ⟨by simp, h0 (fun o => g o.1)⟩, fun g2 => absurd rfl g2⟩)
  refine pB_person (fun b1 b2 => ⟨fun g => absurd g (by decide), fun _ => ?_⟩) (fun g => ⟨fun _ => ⟨by simp, h0 (fun o => g o.2.1)⟩, fun g2 => absurd rfl g2⟩)
  refine ⟨fun g => ⟨by simp, h0 (fun o => o.2.2.1 g)⟩, fun hne => ?_⟩
  obtain ⟨p, hp, rfl, -, ep⟩ := i_of (n := 12) a1 a2
  obtain ⟨q, hq, rfl, -, eq⟩ := i_of (n := 12) b1 b2
  have i1 : vp_in ((12 : Int32) * nI p + nI q) 144 := by rw [ix12]; exact vp_in_nI (by omega) (by decide)
  have i2 : vp_in ((12 : Int32) * nI q + nI p) 144 := by rw [ix12]; exact vp_in_nI (by omega) (by decide)
  have e1 : ((12 : Int32) * nI p + nI q).toNatClampNeg = 12 * p + q := by rw [ix12]; exact nI_clamp (by omega)
  have e2 : ((12 : Int32) * nI q + nI p).toNatClampNeg = 12 * q + p := by rw [ix12]; exact nI_clamp (by omega)
  rw [ep, eq] at h1
  refine ⟨i1, fun g => ⟨i1, fun σ1 e3 => ⟨i2, fun σ2 e4 => ⟨by simp, ?_⟩⟩⟩, fun g => ⟨by simp, h0 (fun o => g (by rw [e1]; have z := o.2.2.2; rw [ep, eq] at z; exact z))⟩⟩
  rw [e1, nar_1] at e3
  rw [e2, nar_1] at e4
  subst e3 e4
  rw [e1] at g
  exact h1 ⟨⟨a1, a2⟩, ⟨b1, b2⟩, hne, by rw [ep, eq]; exact g⟩
section KIN
variable {tx : xw_M → xw_M → Prop}
theorem s_kin (htx : r_txOk tx) : ∀ σ τ, r_R tx σ τ → ∀ a0 a1 : Int32, xu_X11_kin σ a0 a1 (fun r σ1 => xu_X12_kin τ a0 a1 (fun r2 τ1 => r = r2 ∧ r_R tx σ1 τ1)) := by
  intro σ τ hR a b
  obtain ⟨nt, nb, nd, ns, nf, h1, h2, h3, h4, h5, h6, h7, h8, h9, h10, h11⟩ := id hR
  refine pA_kinM h2 (fun ok => pB_kinM (fun _ => ⟨rfl, ?_⟩) (fun h => absurd ok h)) (fun no => pB_kinM (fun ok => absurd ok no) (fun _ => ⟨rfl, hR⟩))
  obtain ⟨⟨o1, o2⟩, ⟨o3, o4⟩, o5, -⟩ := ok
  obtain ⟨p, hp, rfl, -, ep⟩ := i_of (n := 12) o1 o2
  obtain ⟨q, hq, rfl, -, eq⟩ := i_of (n := 12) o3 o4
  rw [ep, eq]
  have hpq : p ≠ q := fun z => o5 (by rw [z])
  refine ⟨nt, nb, nd, ns, nf, h1, fun p' q' hp' hq' => ?_, h3, h4, h5, h6, h7, r_shows_c h8 (fun i hi => ?_), h9, r_plan_c h10 (fun i hi => ?_), htx _ _ _ _ h11 rfl (by intro c hc; rcases hc with rfl | rfl | rfl | rfl | rfl | rfl | rfl | rfl | rfl <;> rfl) rfl (fun c hc h => ?_)⟩
  · have hold := h2 p' q' hp' hq'
    have eA : bt ((u_kinA σ p q).1 28 p') q' = (bt (σ.1 28 p') q' || decide (p' = p ∧ q' = q) || decide (p' = q ∧ q' = p)) := by
      unfold u_kinA
      by_cases c1 : p' = q
      · subst c1
        rw [xw_eq]
        show bt _ q' = _
        rw [bt_set _ (by omega) (by omega)]
        simp [Ne.symm hpq]
      · rw [xw_nj c1]
        by_cases c2 : p' = p
        · subst c2
          rw [xw_eq]
          show bt _ q' = _
          rw [bt_set _ (by omega) (by omega)]
          simp [c1]
        · rw [xw_nj c2]
          simp [c1, c2]
    have eB : (u_kinB τ p q).1 25 (12 * p' + q') = if (p' = p ∧ q' = q) ∨ (p' = q ∧ q' = p) then 1 else τ.1 25 (12 * p' + q') := by
      unfold u_kinB
      by_cases c1 : p' = q ∧ q' = p
      · obtain ⟨rfl, rfl⟩ := c1
        rw [xw_eq, if_pos (Or.inr ⟨rfl, rfl⟩)]
      · rw [xw_nj (by omega)]
        by_cases c2 : p' = p ∧ q' = q
        · obtain ⟨rfl, rfl⟩ := c2
          rw [xw_eq, if_pos (Or.inl ⟨rfl, rfl⟩)]
        · rw [xw_nj (by omega), if_neg (by omega)]
    rw [eA, eB, hold]
    by_cases c1 : (p' = p ∧ q' = q) ∨ (p' = q ∧ q' = p)
    · rw [if_pos c1, if_pos]
      rcases c1 with c | c <;> simp [c]
    · rw [if_neg c1]
      have n1 : ¬ (p' = p ∧ q' = q) := fun z => c1 (Or.inl z)
      have n2 : ¬ (p' = q ∧ q' = p) := fun z => c1 (Or.inr z)
      simp [n1, n2]
  · unfold u_kinA
    rw [xw_ne (by omega), xw_ne (by omega)]
  · unfold u_kinA
    rw [xw_ne (by omega), xw_ne (by omega)]
  · unfold u_kinB
    rw [xw_ne (by omega), xw_ne (by omega)]
end KIN
