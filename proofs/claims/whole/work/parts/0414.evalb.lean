/-! the reference works a term out -/
def vB_fr (t : Nat) (σ σ1 : xw_M) : Prop := (∀ c, c ≠ 43 → σ1.1 c = σ.1 c) ∧ (∀ j, j < t → σ1.1 43 j = σ.1 43 j) ∧ σ1.2 = σ.2
theorem vB_fr_i {t j : Nat} {σ : xw_M} {v : Int32} (h : t ≤ j) : vB_fr t σ (xw_i σ 43 j v) := ⟨fun c hc => xw_ne hc, fun k hk => xw_nj (by omega), rfl⟩
theorem vB_fr_t {t u : Nat} {σ σ1 σ2 : xw_M} (h1 : vB_fr t σ σ1) (h2 : vB_fr u σ1 σ2) (h : t ≤ u) : vB_fr t σ σ2 := ⟨fun c hc => (h2.1 c hc).trans (h1.1 c hc), fun k hk => (h2.2.1 k (by omega)).trans (h1.2.1 k hk), h2.2.2.trans h1.2.2⟩
def vB_D (K5 : xw_M → Int32 → Int32 → Prop) (σ0 : xw_M) (to i j : Nat) (x : Int32) : Prop := j ≤ to → ∀ (σ : xw_M) (t : Nat), (∀ c, c ≠ 43 → σ.1 c = σ0.1 c) → t + (j - i) ≤ 500 → (∀ σ1, vB_fr t σ σ1 → σ1.1 43 t = x → K5 σ1 (nI (t + 1)) (nI j)) → K5 σ (nI t) (nI i)
theorem vB_term {a1 a2 : Int32} {K5 : xw_M → Int32 → Int32 → Prop} {Z : Int32 → xw_M → Prop} (hK : ∀ (σ : xw_M) (v3 : Int32) (v4 : Int32), xb_X12_value_5 a1 a2 K5 Z σ v3 v4 → K5 σ v3 v4) {σ0 : xw_M} {to : Nat} (h2 : a2 = nI to) (hto : to ≤ 1000) {i j : Nat} {f : tF} (h : tB (σ0.1 22) (σ0.1 23) i j f) : vB_D K5 σ0 to i j (f (σ0.1 42)) := by
  refine h (fun i j f => vB_D K5 σ0 to i j (f (σ0.1 42))) ?_ ?_ ?_
  · intro i e hj σ t hf ht hk
    apply hK
    have ci : (nI i).toNatClampNeg = i := nI_clamp (by omega)
    have ct : (nI t).toNatClampNeg = t := nI_clamp (by omega)
    have vi : vp_in (nI i) 1000 := vp_in_nI (by omega) (by decide)
    rw [← hf 22 (by decide)] at e
    refine ⟨fun g => absurd g (by rw [h2]; exact nI_ge (by omega) (by omega)), fun _ => ⟨vi, fun g => absurd g (by rw [ci, e]; decide), fun _ => ⟨vi, fun g => absurd (by rw [ci, e]) g, fun _ => ⟨vi, vp_in_nI (by omega) (by decide), fun σ1 e1 => ?_⟩⟩⟩⟩
    rw [ci, ct] at e1
    rw [e1, nI_1, nI_1]
    exact hk _ (vB_fr_i (Nat.le_refl t)) (by rw [xw_eq, hf _ (by decide)])
  · intro i k hk e e' hj σ t hf ht hk2
    apply hK
    have ci : (nI i).toNatClampNeg = i := nI_clamp (by omega)
    have ct : (nI t).toNatClampNeg = t := nI_clamp (by omega)
    have ck : (nI k).toNatClampNeg = k := nI_clamp (by omega)
    have vi : vp_in (nI i) 1000 := vp_in_nI (by omega) (by decide)
    rw [← hf 22 (by decide)] at e
    rw [← hf 23 (by decide)] at e'
    refine ⟨fun g => absurd g (by rw [h2]; exact nI_ge (by omega) (by omega)), fun _ => ⟨vi, fun g => absurd g (by rw [ci, e]; decide), fun _ => ⟨vi, fun _ => ⟨vi, by rw [ci, e']; exact vp_in_nI hk (by decide), vp_in_nI (by omega) (by decide), fun σ1 e1 => ?_⟩, fun g => absurd g (by rw [ci, e]; decide)⟩⟩⟩
    rw [ci, ct, e', ck] at e1
    rw [e1, nI_1, nI_1]
    exact hk2 _ (vB_fr_i (Nat.le_refl t)) (by rw [xw_eq, hf _ (by decide)])
  · intro i m n k f g hk him hmn ha hb e hj σ t hf ht hk2
    refine ha (by omega) σ t hf (by omega) (fun σ1 f1 e1 => ?_)
    refine hb (by omega) σ1 (t + 1) (fun c hc => (f1.1 c hc).trans (hf c hc)) (by omega) (fun σ2 f2 e2 => ?_)
    have gg : ∀ c, c ≠ 43 → σ2.1 c = σ0.1 c := fun c hc => (f2.1 c hc).trans ((f1.1 c hc).trans (hf c hc))
    have ci : (nI n).toNatClampNeg = n := nI_clamp (by omega)
    have ct : (nI t).toNatClampNeg = t := nI_clamp (by omega)
    have ct1 : (nI (t + 1)).toNatClampNeg = t + 1 := nI_clamp (by omega)
    have vi : vp_in (nI n) 1000 := vp_in_nI (by omega) (by decide)
    have m1 : nI (t + 1 + 1) + (-1 : Int32) = nI (t + 1) := pk_m1 (t + 1)
    have m2 : nI (t + 1) - (1 : Int32) = nI t := nI_pred t
    have iv : vp_in (nI t) 500 := vp_in_nI (by omega) (by decide)
    have iv1 : vp_in (nI (t + 1)) 500 := vp_in_nI (by omega) (by decide)
    rw [← gg 22 (by decide)] at e
    have fin : ∀ v, v = t_op k (f (σ0.1 42)) (g (σ0.1 42)) → K5 (xw_i σ2 43 t v) (nI (t + 1)) (nI (n + 1)) := by
      intro v hv
      exact hk2 _ (vB_fr_t (vB_fr_t f1 f2 (by omega)) (vB_fr_i (Nat.le_refl t)) (Nat.le_refl t)) (by rw [xw_eq, hv])
    apply hK
    refine ⟨fun g => absurd g (by rw [h2]; exact nI_ge (by omega) (by omega)), fun _ => ⟨vi, fun _ => ?_, fun z => absurd (by rw [ci, e]; exact nI_le (a := 2) (by omega) (by omega)) z⟩⟩
    rw [m1, m2, ci, e, ct, ct1, nI_1]
    have cc : ∀ (d : Nat), d < 100 → nI (2 + k) = nI d → 2 + k = d := fun d hd g => (nI_eq (by omega) (by omega)).mp g
    refine ⟨iv, fun x1 ex1 => ⟨iv1, fun x2 ex2 => ⟨vi, fun c2 => ⟨vi, fun c3 => ⟨iv, fun σ3 e3 => ?_⟩, fun c3 => ⟨iv, fun σ3 e3 => ?_⟩⟩, fun c2 => ⟨iv, fun σ3 e3 => ?_⟩⟩⟩⟩
    · have k2 : k = 2 := by
        rcases (show k = 0 ∨ k = 1 ∨ k = 2 by omega) with rfl | rfl | rfl
        · exact absurd rfl c2
        · exact absurd rfl c3
        · rfl
      subst k2
      rw [e3]
      exact fin _ (by rw [ex1, ex2, f2.2.1 t (by omega), e1, e2]; rfl)
    · have k2 : k = 1 := by have := cc 3 (by decide) c3; omega
      subst k2
      rw [e3]
      exact fin _ (by rw [ex1, ex2, f2.2.1 t (by omega), e1, e2]; rfl)
    · have k2 : k = 0 := by have := cc 2 (by decide) c2; omega
      subst k2
      rw [e3]
      exact fin _ (by rw [ex1, ex2, f2.2.1 t (by omega), e1, e2]; rfl)
theorem qB_term {τ : xw_M} {i j : Nat} {f : tF} {Z : Int32 → xw_M → Prop} (hj : j ≤ 1000) (hj2 : j ≤ i + 500) (ht : tB (τ.1 22) (τ.1 23) i j f) (h : ∀ τ1, (∀ c, c ≠ 43 → τ1.1 c = τ.1 c) → τ1.2 = τ.2 → Z (f (τ.1 42)) τ1) : xu_X12_value τ (nI i) (nI j) Z := by
  intro K hK
  refine vB_term hK rfl hj ht (Nat.le_refl j) τ 0 (fun _ _ => rfl) (by omega) (fun σ1 f1 e1 => ?_)
  apply hK
  refine ⟨fun _ => ⟨vp_in_nI (n := 0) (by decide) (by decide), ?_⟩, fun g => absurd (nI_le (Nat.le_refl j) (by omega)) g⟩
  show Z (σ1.1 43 0) σ1
  rw [e1]
  exact h σ1 f1.1 f1.2.2
def vB_F (τ τ1 : xw_M) : Prop := (∀ c, c ≠ 43 → τ1.1 c = τ.1 c) ∧ τ1.2 = τ.2
theorem vB_F_t {a b c : xw_M} (h1 : vB_F a b) (h2 : vB_F b c) : vB_F a c := ⟨fun x hx => (h2.1 x hx).trans (h1.1 x hx), h2.2.trans h1.2⟩
section HOLDS
variable {a1 : Int32} {Z : Int32 → xw_M → Prop} {K26 : xw_M → Int32 → Int32 → Prop} {K76 : xw_M → Int32 → Int32 → Int32 → Prop}
theorem vB_rel (h76 : ∀ (σ : xw_M) (v2 : Int32) (v3 : Int32) (v4 : Int32), xb_X12_holds_76 a1 K26 K76 Z σ v2 v3 v4 → K76 σ v2 v3 v4) {τ0 τ : xw_M} {x k : Nat} {R : tG} {b : Bool} (hx : x < 400) (hF : vB_F τ0 τ) (hr : tBr (τ0.1 17) (τ0.1 18) (τ0.1 19) (τ0.1 20) (τ0.1 22) (τ0.1 23) x R) (h : ∀ τ1, vB_F τ τ1 → K26 τ1 (t_b (b && R (τ0.1 42))) (nI (k + 1))) : K76 τ (t_b b) (nI k) (nI x) := by
  apply h76
  have cx : (nI x).toNatClampNeg = x := nI_clamp (by omega)
  have vx : vp_in (nI x) 400 := vp_in_nI hx (by decide)
  cases b with
  | false =>
    refine ⟨fun g => absurd rfl g, fun _ => ?_⟩
    rw [nI_1]
    exact h τ ⟨fun _ _ => rfl, rfl⟩
  | true =>
    obtain ⟨s, p, q, u, f, g, hs, e1, e2, e3, e4, hu, hu2, hf, hg, rfl⟩ := hr
    refine ⟨fun _ => ⟨vx, vx, ?_⟩, fun g => absurd g (by decide)⟩
    rw [cx, hF.1 18 (by decide), hF.1 19 (by decide), e2, e3]
    have l1 := tB_lt hf
    have l2 := tB_lt hg
    refine qB_term (by omega) (by omega) (by rw [hF.1 22 (by decide), hF.1 23 (by decide)]; exact hf) (fun τ1 f1 f1' => ⟨vx, vx, ?_⟩)
    have F1 : vB_F τ0 τ1 := vB_F_t hF ⟨f1, f1'⟩
    rw [F1.1 19 (by decide), F1.1 20 (by decide), e3, e4]
    refine qB_term hu (by omega) (by rw [F1.1 22 (by decide), F1.1 23 (by decide)]; exact hg) (fun τ2 f2 f2' => ?_)
    have F2 : vB_F τ0 τ2 := vB_F_t F1 ⟨f2, f2'⟩
    have F3 : vB_F τ τ2 := vB_F_t ⟨f1, f1'⟩ ⟨f2, f2'⟩
    rw [hF.1 42 (by decide), F1.1 42 (by decide), F2.1 17 (by decide), e1, nI_1]
    have fin : K26 τ2 (t_b (true && t_rel s (f (τ0.1 42)) (g (τ0.1 42)))) (nI (k + 1)) := h τ2 F3
    rw [Bool.true_and] at fin
    generalize f (τ0.1 42) = X at *
    generalize g (τ0.1 42) = Y at *
    have cc : ∀ (d : Nat), d < 100 → nI s = nI d → s = d := fun d hd g => (nI_eq (by omega) (by omega)).mp g
    refine ⟨vx, fun c0 => ⟨vx, fun c1 => ⟨vx, fun c2 => ⟨fun z => ?_, fun z => ?_⟩, fun c2 => ⟨fun z => ?_, fun z => ?_⟩⟩, fun c1 => ⟨fun z => ?_, fun z => ?_⟩⟩, fun c0 => ⟨fun z => ?_, fun z => ?_⟩⟩
    · obtain rfl : s = 3 := by
        rcases (show s = 0 ∨ s = 1 ∨ s = 2 ∨ s = 3 by omega) with rfl | rfl | rfl | rfl
        · exact absurd rfl c0
        · exact absurd rfl c1
        · exact absurd rfl c2
        · rfl
      have z2 : ¬ X ≤ Y := by rw [i_le]; rw [i_lt] at z; omega
      simpa [t_rel, t_b, z2] using fin
    · obtain rfl : s = 3 := by
        rcases (show s = 0 ∨ s = 1 ∨ s = 2 ∨ s = 3 by omega) with rfl | rfl | rfl | rfl
        · exact absurd rfl c0
        · exact absurd rfl c1
        · exact absurd rfl c2
        · rfl
      have z2 : X ≤ Y := by rw [i_le]; rw [i_lt] at z; omega
      simpa [t_rel, t_b, z2] using fin
    · obtain rfl := cc 2 (by decide) c2
      have z2 : ¬ X < Y := by rw [i_lt]; rw [i_le] at z; omega
      simpa [t_rel, t_b, z2] using fin
    · obtain rfl := cc 2 (by decide) c2
      have z2 : X < Y := by rw [i_lt]; rw [i_le] at z; omega
      simpa [t_rel, t_b, z2] using fin
    · obtain rfl := cc 1 (by decide) c1
      simpa [t_rel, t_b, z] using fin
    · obtain rfl := cc 1 (by decide) c1
      simpa [t_rel, t_b, z] using fin
    · obtain rfl := cc 0 (by decide) c0
      simpa [t_rel, t_b, z] using fin
    · obtain rfl := cc 0 (by decide) c0
      simpa [t_rel, t_b, z] using fin
/-- one relation of the row, of the group or the first of one -/
theorem vB_one (h26 : ∀ (σ : xw_M) (v2 : Int32) (v3 : Int32), xb_X12_holds_26 a1 K26 K76 Z σ v2 v3 → K26 σ v2 v3) (h76 : ∀ (σ : xw_M) (v2 : Int32) (v3 : Int32) (v4 : Int32), xb_X12_holds_76 a1 K26 K76 Z σ v2 v3 v4 → K76 σ v2 v3 v4) {τ0 τ : xw_M} {x k last live : Nat} {R : tG} {b fst : Bool} (hx : x < 32) (ha : a1 = nI x) (hl : τ0.1 15 x = nI last) (hlive : τ0.1 0 18 = nI live) (hk : k < last) (hlast : last ≤ 200) (hlv : live ≤ 1) (hF : vB_F τ0 τ) (ho : τ0.1 21 (200 * live + k) = t_b fst) (hr : tBr (τ0.1 17) (τ0.1 18) (τ0.1 19) (τ0.1 20) (τ0.1 22) (τ0.1 23) (200 * live + k) R) (hz : fst = true → b = true → Z 1 τ) (h : (fst = true → b = false) → ∀ τ1, vB_F τ τ1 → K26 τ1 (t_b ((fst || b) && R (τ0.1 42))) (nI (k + 1))) : K26 τ (t_b b) (nI k) := by
  have e : (200 : Int32) * τ.1 0 18 + nI k = nI (200 * live + k) := by
    rw [hF.1 0 (by decide), hlive, show (200 : Int32) = nI 200 from rfl, pk_mul, nI_add]
  have ce : (nI (200 * live + k)).toNatClampNeg = 200 * live + k := nI_clamp (by omega)
  have cx : (nI x).toNatClampNeg = x := nI_clamp (by omega)
  have ve : vp_in (nI (200 * live + k)) 400 := vp_in_nI (by omega) (by decide)
  apply h26
  unfold xb_X12_holds_26
  rw [ha, e, cx, hF.1 15 (by decide), hl, ce, hF.1 21 (by decide), ho]
  refine ⟨vp_in_nI hx (by decide), fun g => absurd g (nI_ge hk (by omega)), fun _ => ⟨ve, fun g => ?_, fun g => ?_⟩⟩
  · have f0 : fst = false := by cases fst; rfl; exact absurd g (by decide)
    subst f0
    exact ⟨ve, fun _ => vB_rel h76 (by omega) hF hr (by simpa using h (fun z => absurd z (by decide))), fun z => absurd rfl z⟩
  · have f1 : fst = true := by cases fst; exact absurd rfl g; rfl
    subst f1
    refine ⟨fun z => ⟨ve, fun z => absurd z (by decide), fun _ => vB_rel (b := true) h76 (by omega) hF hr (by simpa using h (fun _ => by cases b; rfl; exact absurd z (by decide)))⟩, fun z => ⟨Or.inr rfl, hz rfl ?_⟩⟩
    cases b
    · exact absurd rfl z
    · rfl
theorem tBand_le {so le ri en og co ci : Nat → Int32} {o : Nat} : ∀ {l : List tG} {i j : Nat}, tBand so le ri en og co ci o l i j → i ≤ j
  | [], _, _, h => Nat.le_of_eq h
  | R :: l, i, j, ⟨_, _, h⟩ => by have := tBand_le h; omega
theorem tBall_lt {so le ri en og co ci : Nat → Int32} {o : Nat} : ∀ {l : List tG} {i j : Nat}, tBall so le ri en og co ci o l i j → i < j
  | [], _, _, h => h.elim
  | R :: l, i, j, ⟨_, _, h⟩ => by have := tBand_le h; omega
theorem tBcond_le {so le ri en og co ci : Nat → Int32} {o : Nat} : ∀ {l : List (List tG)} {i j : Nat}, tBcond so le ri en og co ci o l i j → i ≤ j
  | [], _, _, h => Nat.le_of_eq h
  | R :: l, i, j, ⟨_, h1, h⟩ => by have := tBall_lt h1; have := tBcond_le h; omega
theorem vB_and (h26 : ∀ (σ : xw_M) (v2 : Int32) (v3 : Int32), xb_X12_holds_26 a1 K26 K76 Z σ v2 v3 → K26 σ v2 v3) (h76 : ∀ (σ : xw_M) (v2 : Int32) (v3 : Int32) (v4 : Int32), xb_X12_holds_76 a1 K26 K76 Z σ v2 v3 v4 → K76 σ v2 v3 v4) {τ0 : xw_M} {x last live : Nat} (hx : x < 32) (ha : a1 = nI x) (hl : τ0.1 15 x = nI last) (hlive : τ0.1 0 18 = nI live) (hlast : last ≤ 200) (hlv : live ≤ 1) : ∀ {l : List tG} {τ : xw_M} {k k' : Nat} {b : Bool}, k' ≤ last → vB_F τ0 τ → tBand (τ0.1 17) (τ0.1 18) (τ0.1 19) (τ0.1 20) (τ0.1 21) (τ0.1 22) (τ0.1 23) (200 * live) l k k' → (∀ τ1, vB_F τ0 τ1 → K26 τ1 (t_b (b && t_all (τ0.1 42) l)) (nI k')) → K26 τ (t_b b) (nI k)
  | [], τ, k, k', b, hk, hF, h, hh => by
    obtain rfl : k = k' := h
    simpa [t_all] using hh τ hF
  | R :: l, τ, k, k', b, hk, hF, ⟨h1, h2, h3⟩, hh => by
    have := tBand_le h3
    refine vB_one (fst := false) h26 h76 hx ha hl hlive (by omega) hlast hlv hF h1 h2 (fun z => absurd z (by decide)) (fun _ τ1 F1 => ?_)
    refine vB_and h26 h76 hx ha hl hlive hlast hlv hk (vB_F_t hF F1) h3 (fun τ2 F2 => ?_)
    simpa [t_all, Bool.and_assoc] using hh τ2 F2
theorem vB_cond (h26 : ∀ (σ : xw_M) (v2 : Int32) (v3 : Int32), xb_X12_holds_26 a1 K26 K76 Z σ v2 v3 → K26 σ v2 v3) (h76 : ∀ (σ : xw_M) (v2 : Int32) (v3 : Int32) (v4 : Int32), xb_X12_holds_76 a1 K26 K76 Z σ v2 v3 v4 → K76 σ v2 v3 v4) {τ0 : xw_M} {x last live : Nat} (hx : x < 32) (ha : a1 = nI x) (hl : τ0.1 15 x = nI last) (hlive : τ0.1 0 18 = nI live) (hlast : last ≤ 200) (hlv : live ≤ 1) : ∀ {l : List (List tG)} {τ : xw_M} {k : Nat} {b : Bool}, vB_F τ0 τ → tBcond (τ0.1 17) (τ0.1 18) (τ0.1 19) (τ0.1 20) (τ0.1 21) (τ0.1 22) (τ0.1 23) (200 * live) l k last → (∀ τ1, vB_F τ0 τ1 → Z (t_b (b || t_cond (τ0.1 42) l)) τ1) → K26 τ (t_b b) (nI k)
  | [], τ, k, b, hF, h, hh => by
    obtain rfl : k = last := h
    apply h26
    have cx : (nI x).toNatClampNeg = x := nI_clamp (by omega)
    unfold xb_X12_holds_26
    rw [ha, cx, hF.1 15 (by decide), hl]
    refine ⟨vp_in_nI hx (by decide), fun _ => ⟨by cases b; exact Or.inl rfl; exact Or.inr rfl, ?_⟩, fun g => absurd (nI_le (Nat.le_refl k) (by omega)) g⟩
    simpa [t_cond] using hh τ hF
  | [] :: l, τ, k, b, hF, ⟨m, h, h3⟩, hh => h.elim
  | (R :: r) :: l, τ, k, b, hF, ⟨m, ⟨h1, h2, h4⟩, h3⟩, hh => by
    have l1 := tBand_le h4
    have l2 := tBcond_le h3
    refine vB_one (fst := true) h26 h76 hx ha hl hlive (by omega) hlast hlv hF h1 h2 (fun _ z => ?_) (fun hb τ1 F1 => ?_)
    · subst z
      simpa [t_b] using hh τ hF
    · refine vB_and h26 h76 hx ha hl hlive hlast hlv (b := R (τ0.1 42)) l2 (vB_F_t hF F1) h4 (fun τ2 F2 => ?_)
      refine vB_cond h26 h76 hx ha hl hlive hlast hlv F2 h3 (fun τ3 F3 => ?_)
      have hb2 := hb rfl
      subst hb2
      simpa [t_all, t_cond] using hh τ3 F3
end HOLDS
