/-! the class's parser: rules, the text, read -/
theorem uA_c {ks f1 f2 tf cf ct st nu ks' f1' f2' tf' cf' ct' st' nu' : Nat → Int32} {sz sz' r : Nat} {U : tU} (h : uA ks f1 f2 tf cf ct st nu sz U r) (e1 : ks' r = ks r) (e2 : f1' r = f1 r) (e3 : f2' r = f2 r) (e4 : tf' r = tf r) (e5 : cf' r = cf r) (e6 : ct' r = ct r) (es : ∀ x, x < sz → st' x = st x ∧ nu' x = nu x) (l : sz ≤ sz') : uA ks' f1' f2' tf' cf' ct' st' nu' sz' U r := by
  obtain ⟨u1, u2, u3, u4, p, q, u, u5, u6, u7, u8, u9, u10, u11, u12⟩ := h
  exact ⟨u1, e1.trans u2, e2.trans u3, e3.trans u4, p, q, u, e4.trans u5, e5.trans u6, e6.trans u7, u8, u9, by omega, fun z => tA_c (u11 z) (fun x hx => es x (by omega)), tAcond_c u12 (fun x hx => es x (by omega))⟩
def a_fQ (σ σ1 : xw_M) : Prop := ∀ x, x ≠ 3 → x ≠ 10 → x ≠ 49 → x ≠ 51 → x ≠ 53 → x ≠ 55 → x ≠ 57 → x ≠ 59 → x ≠ 61 → x ≠ 63 → σ1.1 x = σ.1 x
theorem a_fQ_t {a b c : xw_M} (h1 : a_fQ a b) (h2 : a_fQ b c) : a_fQ a c := fun x x1 x2 x3 x4 x5 x6 x7 x8 x9 x10 => (h2 x x1 x2 x3 x4 x5 x6 x7 x8 x9 x10).trans (h1 x x1 x2 x3 x4 x5 x6 x7 x8 x9 x10)
theorem a_fQ_fr {s : Nat} {a b : xw_M} (h : a_fr s a b) : a_fQ a b := fun x x1 x2 _ _ _ _ _ _ x9 x10 => h.1 x x1 x2 x9 x10
def a_FQ (pl : Nat → Nat) (σ : xw_M) (Z : xw_M → Prop) (k p : Nat) : Prop := ∀ σ1, a_fQ σ σ1 → σ1.1 3 3 = nI k → σ1.1 3 4 = nI (pl p) → (k = 1 ∨ k = 2) → Z σ1
/-- a RULE, laid -/
def a_rul (σ σ1 : xw_M) (nr : Nat) (a1 a2 a3 a4 a5 a6 : Int32) : Prop := (∀ x, x ≠ 10 → x ≠ 49 → x ≠ 51 → x ≠ 53 → x ≠ 55 → x ≠ 57 → x ≠ 59 → σ1.1 x = σ.1 x) ∧ σ1.1 10 9 = nI (nr + 1) ∧ σ1.1 10 10 = σ.1 10 10 ∧ (σ1.1 49 nr = a1 ∧ σ1.1 51 nr = a2 ∧ σ1.1 53 nr = a3 ∧ σ1.1 55 nr = a4 ∧ σ1.1 57 nr = a5 ∧ σ1.1 59 nr = a6) ∧ ∀ j, j ≠ nr → σ1.1 49 j = σ.1 49 j ∧ σ1.1 51 j = σ.1 51 j ∧ σ1.1 53 j = σ.1 53 j ∧ σ1.1 55 j = σ.1 55 j ∧ σ1.1 57 j = σ.1 57 j ∧ σ1.1 59 j = σ.1 59 j
theorem sA_addR {σ : xw_M} {nr : Nat} {a1 a2 a3 a4 a5 : Int32} {Z : xw_M → Prop} (e : σ.1 10 9 = nI nr) (hn : nr ≤ 16) (h1 : nr < 16 → ∀ σ1, a_rul σ σ1 nr a1 a2 a3 a4 a5 (σ.1 10 10) → Z σ1) (h0 : ¬ nr < 16 → Z σ) : xu_X9_addRule σ 1 a1 a2 a3 a4 a5 Z := by
  have cs : (nI nr).toNatClampNeg = nr := nI_clamp (by omega)
  unfold xu_X9_addRule
  show ((16 : Int32) ≤ (σ.1 10 9) → (Z σ)) ∧ (¬ (16 : Int32) ≤ (σ.1 10 9) → (vp_in (σ.1 10 9) 16 ∧ ∀ σ1, σ1 = xw_i σ 49 (Int32.toNatClampNeg (σ.1 10 9)) a1 → (vp_in (σ1.1 10 9) 16 ∧ ∀ σ2, σ2 = xw_i σ1 51 (Int32.toNatClampNeg (σ1.1 10 9)) a2 → (vp_in (σ2.1 10 9) 16 ∧ ∀ σ3, σ3 = xw_i σ2 53 (Int32.toNatClampNeg (σ2.1 10 9)) a3 → (vp_in (σ3.1 10 9) 16 ∧ ∀ σ4, σ4 = xw_i σ3 55 (Int32.toNatClampNeg (σ3.1 10 9)) a4 → (vp_in (σ4.1 10 9) 16 ∧ ∀ σ5, σ5 = xw_i σ4 57 (Int32.toNatClampNeg (σ4.1 10 9)) a5 → (vp_in (σ5.1 10 9) 16 ∧ ∀ σ6, σ6 = xw_i σ5 59 (Int32.toNatClampNeg (σ5.1 10 9)) (σ5.1 10 10) → (∀ σ7, σ7 = xw_i σ6 10 9 ((σ6.1 10 9) + (1 : Int32)) → (Z σ7)))))))))
  rw [e, cs]
  refine ⟨fun z => h0 (fun q => absurd z (nI_ge (b := 16) q (by decide))), fun z => ?_⟩
  have q : nr < 16 := Nat.not_le.mp fun q => z (nI_le (a := 16) q (by omega))
  have vs : vp_in (nI nr) 16 := vp_in_nI q (by decide)
  refine ⟨vs, fun σ1 e1 => ?_⟩
  have k1 : σ1.1 10 = σ.1 10 := by rw [e1, xw_ne (by decide)]
  rw [k1, e, cs]
  refine ⟨vs, fun σ2 e2 => ?_⟩
  have k2 : σ2.1 10 = σ.1 10 := by rw [e2, xw_ne (by decide)]; exact k1
  rw [k2, e, cs]
  refine ⟨vs, fun σ3 e3 => ?_⟩
  have k3 : σ3.1 10 = σ.1 10 := by rw [e3, xw_ne (by decide)]; exact k2
  rw [k3, e, cs]
  refine ⟨vs, fun σ4 e4 => ?_⟩
  have k4 : σ4.1 10 = σ.1 10 := by rw [e4, xw_ne (by decide)]; exact k3
  rw [k4, e, cs]
  refine ⟨vs, fun σ5 e5 => ?_⟩
  have k5 : σ5.1 10 = σ.1 10 := by rw [e5, xw_ne (by decide)]; exact k4
  rw [k5, e, cs]
  refine ⟨vs, fun σ6 e6 σ7 e7 => ?_⟩
  have k6 : σ6.1 10 = σ.1 10 := by rw [e6, xw_ne (by decide)]; exact k5
  rw [k6, e, nI_1] at e7
  refine h1 q σ7 ⟨fun x x0 x1 x2 x3 x4 x5 x6 => ?_, ?_, ?_, ⟨?_, ?_, ?_, ?_, ?_, ?_⟩, fun j hj => ⟨?_, ?_, ?_, ?_, ?_, ?_⟩⟩
  · rw [e7, xw_ne x0, e6, xw_ne x6, e5, xw_ne x5, e4, xw_ne x4, e3, xw_ne x3, e2, xw_ne x2, e1, xw_ne x1]
  · rw [e7, xw_eq]
  · rw [e7, xw_nj (by decide), k6]
  · rw [e7, xw_ne (by decide), e6, xw_ne (by decide), e5, xw_ne (by decide), e4, xw_ne (by decide), e3, xw_ne (by decide), e2, xw_ne (by decide), e1, xw_eq]
  · rw [e7, xw_ne (by decide), e6, xw_ne (by decide), e5, xw_ne (by decide), e4, xw_ne (by decide), e3, xw_ne (by decide), e2, xw_eq]
  · rw [e7, xw_ne (by decide), e6, xw_ne (by decide), e5, xw_ne (by decide), e4, xw_ne (by decide), e3, xw_eq]
  · rw [e7, xw_ne (by decide), e6, xw_ne (by decide), e5, xw_ne (by decide), e4, xw_eq]
  · rw [e7, xw_ne (by decide), e6, xw_ne (by decide), e5, xw_eq]
  · rw [e7, xw_ne (by decide), e6, xw_eq]
  · rw [e7, xw_ne (by decide), e6, xw_ne (by decide), e5, xw_ne (by decide), e4, xw_ne (by decide), e3, xw_ne (by decide), e2, xw_ne (by decide), e1, xw_nj hj]
  · rw [e7, xw_ne (by decide), e6, xw_ne (by decide), e5, xw_ne (by decide), e4, xw_ne (by decide), e3, xw_ne (by decide), e2, xw_nj hj, e1, xw_ne (by decide)]
  · rw [e7, xw_ne (by decide), e6, xw_ne (by decide), e5, xw_ne (by decide), e4, xw_ne (by decide), e3, xw_nj hj, e2, xw_ne (by decide), e1, xw_ne (by decide)]
  · rw [e7, xw_ne (by decide), e6, xw_ne (by decide), e5, xw_ne (by decide), e4, xw_nj hj, e3, xw_ne (by decide), e2, xw_ne (by decide), e1, xw_ne (by decide)]
  · rw [e7, xw_ne (by decide), e6, xw_ne (by decide), e5, xw_nj hj, e4, xw_ne (by decide), e3, xw_ne (by decide), e2, xw_ne (by decide), e1, xw_ne (by decide)]
  · rw [e7, xw_ne (by decide), e6, xw_nj hj, e5, xw_ne (by decide), e4, xw_ne (by decide), e3, xw_ne (by decide), e2, xw_ne (by decide), e1, xw_ne (by decide)]
def a_ZQ (kd : Nat → Nat) (pos nr : Nat) (F : Nat → tU) (σ : xw_M) (Z : xw_M → Prop) (q : Nat) (U : tU) : Prop := ∀ σ1 s1, a_fQ σ σ1 → a_st σ1 q s1 → σ1.1 3 4 = σ.1 3 4 → gr_go kd q → pos < q → s1 ≤ q → TA 1 σ1 (nr + 1) s1 (fun r => if r = nr then U else F r) → Z σ1
theorem t_kA_p {k : Nat} (h : k = 9 ∨ k = 4 ∨ k = 11 ∨ k = 12) : t_kA (gr_kd k) = k ∧ gr_kd k < 4 ∧ (gr_kd k = 2 → k = 11) := by
  rcases h with e | e | e | e <;> rw [e] <;> decide
section RULEA
variable {kd pl : Nat → Nat} {va : Nat → Int32}
theorem sA_rule {σ : xw_M} {pos s nr : Nat} {F : Nat → tU} {Z : xw_M → Prop} (hkd : ∀ j, kd j < 29) (T : a_T σ kd pl va) (S : a_st σ pos s) (g : gr_go kd pos) (hs : s ≤ pos) (hT : TA 1 σ nr s F) (h : pc (gr_rule kd va nr pos) (a_FQ pl σ Z) (a_ZQ kd pos nr F σ Z)) : xu_X3_parseRule σ Z := by
  intro K34 K76 K96 K117 K152 h34 h76 h96 h117 h152
  have gl := g.1
  have hp := hkd pos
  obtain ⟨n16, s400, t1, t2, t3⟩ := id hT
  have t1' : σ.1 10 9 = nI nr := t1
  have qq : ∀ d : Nat, d < 300 → (nI (kd pos) = nI d ↔ kd pos = d) := fun d hd => nI_eq (by omega) (by omega)
  have F9 : ∀ (σ1 : xw_M) (k p : Nat), a_fr s σ σ1 → a_ft s σ1 pl k p → a_FQ pl σ Z k p → ∀ a1 a2 a3 a4 a5, xu_X3_take σ1 17 (fun σ22 => xu_X9_addRule σ22 1 a1 a2 a3 a4 a5 (fun σ23 => Z σ23)) := by
    intro σ1 k p f1 ft1 hF a1 a2 a3 a4 a5
    refine sA_takeF (k := 17) (a_ft_n ft1) (by decide) ?_
    refine sA_addR (nr := nr) (by rw [f1.2.1]; exact t1') n16 (fun _ σ2 r2 => ?_) (fun _ => hF σ1 (a_fQ_fr f1) ft1.1 ft1.2.1 ft1.2.2.1)
    refine hF σ2 (a_fQ_t (a_fQ_fr f1) (fun x _ x2 x3 x4 x5 x6 x7 x8 _ _ => r2.1 x x2 x3 x4 x5 x6 x7 x8)) ?_ ?_ ft1.2.2.1
    · rw [r2.1 3 (by decide) (by decide) (by decide) (by decide) (by decide) (by decide) (by decide)]; exact ft1.1
    · rw [r2.1 3 (by decide) (by decide) (by decide) (by decide) (by decide) (by decide) (by decide)]; exact ft1.2.1
  have F152 : ∀ (σ1 : xw_M) (k p : Nat), a_fr s σ σ1 → a_ft s σ1 pl k p → a_FQ pl σ Z k p → ∀ a1 a2 a3 a4 a5, K152 σ1 a1 a2 a3 a4 a5 := by
    intro σ1 k p f1 ft1 hF a1 a2 a3 a4 a5
    apply h152
    exact sA_takeF (k := 10) (a_ft_n ft1) (by decide) (sA_lvF 30 0 0 σ1 _ (by decide) (by decide) (a_ft_n ft1) (F9 σ1 k p f1 ft1 hF a1 a2 a3 a4 a5))
  have F117 : ∀ (σ1 : xw_M) (k p : Nat), a_fr s σ σ1 → a_ft s σ1 pl k p → a_FQ pl σ Z k p → ∀ a1 a2 a3 a4, K117 σ1 a1 a2 a3 a4 := by
    intro σ1 k p f1 ft1 hF a1 a2 a3 a4
    apply h117
    exact ⟨fun _ => F152 σ1 k p f1 ft1 hF _ _ _ _ _, fun _ => ⟨fun _ => F152 σ1 k p f1 ft1 hF _ _ _ _ _, fun _ => ⟨fun _ => F9 σ1 k p f1 ft1 hF _ _ _ _ _, fun _ => sA_seenF (a_ft_n ft1) ⟨fun _ => F9 σ1 k p f1 ft1 hF _ _ _ _ _, fun z => absurd z (by decide)⟩⟩⟩⟩
  have F96 : ∀ (σ1 : xw_M) (k p : Nat), a_fr s σ σ1 → a_ft s σ1 pl k p → a_FQ pl σ Z k p → ∀ a1 a2 a3, K96 σ1 a1 a2 a3 := by
    intro σ1 k p f1 ft1 hF a1 a2 a3
    apply h96
    exact ⟨fun _ => F117 σ1 k p f1 ft1 hF _ _ _ _, fun _ => sA_lvF 30 3 0 σ1 _ (by decide) (by decide) (a_ft_n ft1) (F117 σ1 k p f1 ft1 hF _ _ _ _)⟩
  have F76 : ∀ (σ1 : xw_M) (k p : Nat), a_fr s σ σ1 → a_ft s σ1 pl k p → a_FQ pl σ Z k p → ∀ a1 a2, K76 σ1 a1 a2 := by
    intro σ1 k p f1 ft1 hF a1 a2
    apply h76
    exact ⟨fun _ => F96 σ1 k p f1 ft1 hF _ _ _, fun _ => sA_takeF (k := 13) (a_ft_n ft1) (by decide) (sA_tintF (a_ft_n ft1) (fun v => F96 σ1 k p f1 ft1 hF _ _ _))⟩
  have main : (kd pos = 9 ∨ kd pos = 4 ∨ kd pos = 11 ∨ kd pos = 12) → K34 σ (nI (kd pos)) := by
    intro hk
    obtain ⟨kA1, kA2, kA3⟩ := t_kA_p hk
    unfold gr_rule at h
    rw [if_pos hk] at h
    have E9 : ∀ (σ' : xw_M) (q s4 sc : Nat) (i1 i2 : Int32) (f : tF) (C : List (List tG)), a_fr s σ σ' → a_st σ' q s4 → σ'.1 3 4 = σ.1 3 4 → gr_go kd q → pos < q → s ≤ sc → sc ≤ s4 → s4 ≤ q → (kd pos = 11 → tA (σ'.1 61) (σ'.1 63) s sc f) → tAcond (σ'.1 61) (σ'.1 63) C sc s4 → pc (gr_bd (gr_tk kd 17 q) (fun q5 _ => .inr (q5, (gr_kd (kd pos), i1, i2, f, C)))) (a_FQ pl σ Z) (a_ZQ kd pos nr F σ Z) → nr < 16 → xu_X3_take σ' 17 (fun σ22 => xu_X9_addRule σ22 1 (nI (kd pos)) i1 i2 (nI s) (nI sc) (fun σ23 => Z σ23)) := by
      intro σ' q s4 sc i1 i2 f C fr st pe gq lq l1 l2 l3 ht hc hpc hnr
      have gq1 := gq.1
      rw [pc_bd] at hpc
      refine sA_take (k := 17) hkd (a_T_fr T fr) st gq (by omega) (by decide) (pc_mono hpc (fun k p hF σ1 f1 ft1 => ?_) (fun q1 _ hZ eq σ1 f1 st1 pe1 g1 => ?_))
      · have fr1 : a_fr s σ σ1 := a_fr_t fr f1 (by omega)
        refine sA_addR (nr := nr) (by rw [fr1.2.1]; exact t1') n16 (fun _ σ2 r2 => ?_) (fun _ => hF σ1 (a_fQ_fr fr1) ft1.1 ft1.2.1 ft1.2.2.1)
        refine hF σ2 (a_fQ_t (a_fQ_fr fr1) (fun x _ x2 x3 x4 x5 x6 x7 x8 _ _ => r2.1 x x2 x3 x4 x5 x6 x7 x8)) ?_ ?_ ft1.2.2.1
        · rw [r2.1 3 (by decide) (by decide) (by decide) (by decide) (by decide) (by decide) (by decide)]; exact ft1.1
        · rw [r2.1 3 (by decide) (by decide) (by decide) (by decide) (by decide) (by decide) (by decide)]; exact ft1.2.1
      · have fr1 : a_fr s σ σ1 := a_fr_t fr f1 (by omega)
        refine sA_addR (nr := nr) (by rw [fr1.2.1]; exact t1') n16 (fun _ σ2 r2 => ?_) (fun z => absurd hnr z)
        obtain ⟨r3, r4, r5, ⟨w1, w2, w3, w4, w5, w6⟩, r7⟩ := id r2
        have c3 := r3 3 (by decide) (by decide) (by decide) (by decide) (by decide) (by decide) (by decide)
        have c61 := r3 61 (by decide) (by decide) (by decide) (by decide) (by decide) (by decide) (by decide)
        have c63 := r3 63 (by decide) (by decide) (by decide) (by decide) (by decide) (by decide) (by decide)
        have g11 := g1.1
        have lc : tAcond (σ2.1 61) (σ2.1 63) C sc s4 := by rw [c61, c63]; exact tAcond_c hc (fun x hx => f1.2.2 x hx)
        refine hZ σ2 s4 (a_fQ_t (a_fQ_fr fr1) (fun x _ x2 x3 x4 x5 x6 x7 x8 _ _ => r3 x x2 x3 x4 x5 x6 x7 x8)) ⟨by rw [c3]; exact st1.1, by rw [c3]; exact st1.2.1, by rw [r5]; exact st1.2.2⟩ (by rw [c3, pe1, pe]) g1 (by omega) (by omega) ⟨by omega, by omega, r4, by show σ2.1 10 10 = nI s4; rw [r5]; exact st1.2.2, fun r hr => ?_⟩
        by_cases e : r = nr
        · subst e
          show uA _ _ _ _ _ _ _ _ s4 (if r = r then _ else _) r
          rw [if_pos rfl]
          refine ⟨kA2, ?_, w2, w3, s, sc, s4, w4, w5, w6.trans st1.2.2, l1, l2, Nat.le_refl _, fun z => ?_, lc⟩
          · show σ2.1 49 r = nI (t_kA (gr_kd (kd pos)))
            rw [w1, kA1]
          · show tA (σ2.1 61) (σ2.1 63) s sc f
            rw [c61, c63]
            exact tA_c (ht (kA3 z)) (fun x hx => f1.2.2 x (by omega))
        · show uA _ _ _ _ _ _ _ _ s4 (if r = nr then _ else F r) r
          rw [if_neg e]
          obtain ⟨y1, y2, y3, y4, y5, y6⟩ := r7 r e
          refine uA_c (t3 r (by omega)) ?_ ?_ ?_ ?_ ?_ ?_ (fun x hx => ?_) (by omega)
          · show σ2.1 49 r = σ.1 49 r
            rw [y1, fr1.1 49 (by decide) (by decide) (by decide) (by decide)]
          · show σ2.1 51 r = σ.1 51 r
            rw [y2, fr1.1 51 (by decide) (by decide) (by decide) (by decide)]
          · show σ2.1 53 r = σ.1 53 r
            rw [y3, fr1.1 53 (by decide) (by decide) (by decide) (by decide)]
          · show σ2.1 55 r = σ.1 55 r
            rw [y4, fr1.1 55 (by decide) (by decide) (by decide) (by decide)]
          · show σ2.1 57 r = σ.1 57 r
            rw [y5, fr1.1 57 (by decide) (by decide) (by decide) (by decide)]
          · show σ2.1 59 r = σ.1 59 r
            rw [y6, fr1.1 59 (by decide) (by decide) (by decide) (by decide)]
          · show σ2.1 61 x = σ.1 61 x ∧ σ2.1 63 x = σ.1 63 x
            rw [c61, c63]
            exact fr1.2.2 x hx
    have E152 : ∀ (σ' : xw_M) (q sc : Nat) (i1 i2 : Int32) (f : tF), a_fr s σ σ' → a_st σ' q sc → σ'.1 3 4 = σ.1 3 4 → gr_go kd q → pos < q → s ≤ sc → sc ≤ q → (kd pos = 11 → tA (σ'.1 61) (σ'.1 63) s sc f) → pc (gr_bd (gr_bd (gr_tk kd 10 q) (fun q2 _ => gr_cond kd va q2)) (fun q4 C => gr_bd (gr_tk kd 17 q4) (fun q5 _ => .inr (q5, (gr_kd (kd pos), i1, i2, f, C))))) (a_FQ pl σ Z) (a_ZQ kd pos nr F σ Z) → nr < 16 → K152 σ' (nI (kd pos)) i1 i2 (nI s) (nI sc) := by
      intro σ' q sc i1 i2 f fr st pe gq lq l1 l3 ht hpc hnr
      have gq1 := gq.1
      rw [pc_bd, pc_bd] at hpc
      apply h152
      refine sA_take (k := 10) hkd (a_T_fr T fr) st gq (by omega) (by decide) (pc_mono hpc (fun k p hF σ1 f1 ft1 => ?_) (fun q1 _ hZ eq σ1 f1 st1 pe1 g1 => ?_))
      · exact sA_lvF 30 0 0 σ1 _ (by decide) (by decide) (a_ft_n ft1) (F9 σ1 k p (a_fr_t fr f1 l1) (a_ft_w ft1 l1) hF _ _ _ _ _)
      · have fr1 : a_fr s σ σ1 := a_fr_t fr f1 l1
        refine sA_cond (d := 27) hkd (by decide) σ1 q1 sc _ (a_T_fr T fr1) st1 g1 (by omega) (pc_mono hZ (fun k p hF σ2 f2 ft2 => ?_) (fun q2 C hZ2 σ2 s2 f2 st2 pe2 g2 l2 ls2 b2 t2 => ?_))
        · exact F9 σ2 k p (a_fr_t fr1 f2 l1) (a_ft_w ft2 l1) hF _ _ _ _ _
        · exact E9 σ2 q2 s2 sc i1 i2 f C (a_fr_t fr1 f2 l1) st2 (by rw [pe2, pe1, pe]) g2 (by omega) l1 ls2 (by omega) (fun z => tA_c (ht z) (fun x hx => ⟨(f2.2.2 x hx).1.trans (f1.2.2 x hx).1, (f2.2.2 x hx).2.trans (f1.2.2 x hx).2⟩)) t2 hZ2 hnr
    have E117 : ∀ (σ' : xw_M) (q sc : Nat) (i1 i2 : Int32) (f : tF), a_fr s σ σ' → a_st σ' q sc → σ'.1 3 4 = σ.1 3 4 → gr_go kd q → pos < q → s ≤ sc → sc ≤ q → (kd pos = 11 → tA (σ'.1 61) (σ'.1 63) s sc f) → pc (gr_bd (gr_cnd kd va (kd pos) q) (fun q4 C => gr_bd (gr_tk kd 17 q4) (fun q5 _ => .inr (q5, (gr_kd (kd pos), i1, i2, f, C))))) (a_FQ pl σ Z) (a_ZQ kd pos nr F σ Z) → nr < 16 → K117 σ' (nI (kd pos)) i1 i2 (nI s) := by
      intro σ' q sc i1 i2 f fr st pe gq lq l1 l3 ht hpc hnr
      have gq1 := gq.1
      have hq := hkd q
      unfold gr_cnd at hpc
      apply h117
      unfold xb_X3_parseRule_117
      rw [st.2.2]
      have yes : (kd pos = 9 ∨ kd pos = 4 ∨ (kd pos = 11 ∧ kd q = 10)) → K152 σ' (nI (kd pos)) i1 i2 (nI s) (nI sc) := by
        intro y
        rw [if_pos y] at hpc
        exact E152 σ' q sc i1 i2 f fr st pe gq lq l1 l3 ht hpc hnr
      have no : ¬ (kd pos = 9 ∨ kd pos = 4 ∨ (kd pos = 11 ∧ kd q = 10)) → xu_X3_take σ' 17 (fun σ22 => xu_X9_addRule σ22 1 (nI (kd pos)) i1 i2 (nI s) (nI sc) (fun σ23 => Z σ23)) := by
        intro y
        rw [if_neg y, pc_bd] at hpc
        exact E9 σ' q sc sc i1 i2 f [] fr st pe gq lq l1 (Nat.le_refl _) l3 ht rfl hpc hnr
      refine ⟨fun z => yes (Or.inl ((qq 9 (by decide)).mp z)), fun z9 => ⟨fun z => yes (Or.inr (Or.inl ((qq 4 (by decide)).mp z))), fun z4 => ⟨fun z11 => no ?_, fun z11 => sA_seen (a_T_fr T fr) st gq ⟨fun z10 => no ?_, fun z10 => yes (Or.inr (Or.inr ⟨(qq 11 (by decide)).mp z11, (nI_eq (b := 10) (by omega) (by decide)).mp z10⟩))⟩⟩⟩⟩
      · rintro (y | y | y)
        · exact z9 (by rw [y]; rfl)
        · exact z4 (by rw [y]; rfl)
        · exact z11 (by rw [y.1]; rfl)
      · rintro (y | y | y)
        · exact z9 (by rw [y]; rfl)
        · exact z4 (by rw [y]; rfl)
        · exact z10 (by rw [y.2]; rfl)
    have E96 : ∀ (σ' : xw_M) (q : Nat) (i1 i2 : Int32), a_fr s σ σ' → a_st σ' q s → σ'.1 3 4 = σ.1 3 4 → gr_go kd q → pos < q → pc (gr_bd (gr_trm kd va (kd pos) q) (fun q3 f => gr_bd (gr_cnd kd va (kd pos) q3) (fun q4 C => gr_bd (gr_tk kd 17 q4) (fun q5 _ => .inr (q5, (gr_kd (kd pos), i1, i2, f, C)))))) (a_FQ pl σ Z) (a_ZQ kd pos nr F σ Z) → nr < 16 → K96 σ' (nI (kd pos)) i1 i2 := by
      intro σ' q i1 i2 fr st pe gq lq hpc hnr
      have gq1 := gq.1
      unfold gr_trm at hpc
      apply h96
      unfold xb_X3_parseRule_96
      rw [st.2.2]
      refine ⟨fun z => ?_, fun z => ?_⟩
      · have n11 : ¬ kd pos = 11 := fun y => z (by rw [y]; rfl)
        rw [if_neg n11, pc_bd] at hpc
        exact E117 σ' q s i1 i2 _ fr st pe gq lq (Nat.le_refl _) (by omega) (fun y => absurd y n11) hpc hnr
      · rw [if_pos ((qq 11 (by decide)).mp z), pc_bd] at hpc
        refine sA_E hkd 6 0 30 (by decide) (by decide) σ' q s _ (a_T_fr T fr) st gq (by omega) (pc_mono hpc (fun k p hF σ2 f2 ft2 => ?_) (fun q2 f hZ2 σ2 s2 f2 st2 pe2 g2 l2 ls2 b2 t2 => ?_))
        · exact F117 σ2 k p (a_fr_t fr f2 (Nat.le_refl _)) ft2 hF _ _ _ _
        · exact E117 σ2 q2 s2 i1 i2 f (a_fr_t fr f2 (Nat.le_refl _)) st2 (by rw [pe2, pe]) g2 (by omega) ls2 (by omega) (fun _ => t2) hZ2 hnr
    have E76 : ∀ (σ' : xw_M) (q : Nat) (i1 : Int32), a_fr s σ σ' → a_st σ' q s → σ'.1 3 4 = σ.1 3 4 → gr_go kd q → pos < q → pc (gr_bd (gr_snd kd va (kd pos) q) (fun q2 i2 => gr_bd (gr_trm kd va (kd pos) q2) (fun q3 f => gr_bd (gr_cnd kd va (kd pos) q3) (fun q4 C => gr_bd (gr_tk kd 17 q4) (fun q5 _ => .inr (q5, (gr_kd (kd pos), i1, i2, f, C))))))) (a_FQ pl σ Z) (a_ZQ kd pos nr F σ Z) → nr < 16 → K76 σ' i1 (nI (kd pos)) := by
      intro σ' q i1 fr st pe gq lq hpc hnr
      have gq1 := gq.1
      unfold gr_snd at hpc
      apply h76
      refine ⟨fun z => ?_, fun z => ?_⟩
      · rw [if_neg (fun y => z (by rw [y]; rfl)), pc_bd] at hpc
        exact E96 σ' q i1 0 fr st pe gq lq hpc hnr
      · rw [if_pos ((qq 12 (by decide)).mp z), pc_bd, pc_bd] at hpc
        refine sA_take (k := 13) hkd (a_T_fr T fr) st gq (by omega) (by decide) (pc_mono hpc (fun k p hF σ1 f1 ft1 => ?_) (fun q1 _ hZ eq σ1 f1 st1 pe1 g1 => ?_))
        · exact sA_tintF (a_ft_n ft1) (fun v => F96 σ1 k p (a_fr_t fr f1 (Nat.le_refl _)) ft1 hF _ _ _)
        · have fr1 : a_fr s σ σ1 := a_fr_t fr f1 (Nat.le_refl _)
          have g11 := g1.1
          refine sA_tint hkd (a_T_fr T fr1) st1 g1 (by omega) (pc_mono hZ (fun k p hF v σ2 f2 ft2 => ?_) (fun q2 i2 hZ2 eq2 σ2 f2 st2 pe2 g2 => ?_))
          · exact F96 σ2 k p (a_fr_t fr1 f2 (Nat.le_refl _)) ft2 hF _ _ _
          · exact E96 σ2 q2 i1 i2 (a_fr_t fr1 f2 (Nat.le_refl _)) st2 (by rw [pe2, pe1, pe]) g2 (by omega) hZ2 hnr
    apply h34
    unfold xb_X3_parseRule_34
    rw [t1']
    refine ⟨fun z => ?_, fun z => ?_⟩
    · have hnr := (nI_ltI (b := 16) (by omega) (by decide)).mp z
      rw [if_pos hnr, pc_bd] at h
      refine sA_take hkd T S g (by omega) (by omega) (pc_mono h (fun k p hF σ1 f1 ft1 => ?_) (fun q1 _ hZ eq σ1 f1 st1 pe1 g1 => ?_))
      · have k76 := fun a1 a2 => F76 σ1 k p f1 ft1 hF a1 a2
        exact ⟨fun _ => sA_tintF (a_ft_n ft1) (fun v => k76 _ _), fun _ => ⟨fun _ => k76 _ _, fun _ => sA_tintF (a_ft_n ft1) (fun v => k76 _ _)⟩⟩
      · unfold gr_rst gr_fst at hZ
        have g11 := g1.1
        have ints : (kd pos = 4 ∨ kd pos = 12) → xu_X3_takeInt σ1 (fun r6 σ5 => K76 σ5 r6 (nI (kd pos))) := by
          intro y
          rw [if_pos y, pc_bd] at hZ
          refine sA_tint hkd (a_T_fr T f1) st1 g1 (by omega) (pc_mono hZ (fun k p hF v σ2 f2 ft2 => ?_) (fun q2 i1 hZ2 eq2 σ2 f2 st2 pe2 g2 => ?_))
          · exact F76 σ2 k p (a_fr_t f1 f2 (Nat.le_refl _)) ft2 hF _ _
          · exact E76 σ2 q2 i1 (a_fr_t f1 f2 (Nat.le_refl _)) st2 (by rw [pe2, pe1]) g2 (by omega) hZ2 hnr
        refine ⟨fun z => ints (Or.inl ((qq 4 (by decide)).mp z)), fun z4 => ⟨fun z12 => ?_, fun z => ints (Or.inr ((qq 12 (by decide)).mp z))⟩⟩
        rw [if_neg, pc_bd] at hZ
        · exact E76 σ1 q1 0 f1 st1 pe1 g1 (by omega) hZ hnr
        · rintro (y | y)
          · exact z4 (by rw [y]; rfl)
          · exact z12 (by rw [y]; rfl)
    · have hnr : ¬ nr < 16 := fun q => z (nI_lt (b := 16) q (by decide))
      rw [if_neg hnr] at h
      exact sA_fail (k := 2) T S g (by omega) (Or.inr rfl) (fun σ1 f1 ft1 => h σ1 (a_fQ_fr f1) ft1.1 ft1.2.1 (Or.inr rfl))
  refine sA_seen T S g ⟨fun z => main (Or.inl ((qq 9 (by decide)).mp z)), fun z9 => ⟨fun z => main (Or.inr (Or.inl ((qq 4 (by decide)).mp z))), fun z4 => ⟨fun z => main (Or.inr (Or.inr (Or.inl ((qq 11 (by decide)).mp z)))), fun z11 => ⟨fun z => main (Or.inr (Or.inr (Or.inr ((qq 12 (by decide)).mp z)))), fun z12 => ?_⟩⟩⟩⟩
  unfold gr_rule at h
  rw [if_neg] at h
  · exact sA_fail (k := 1) T S g (by omega) (Or.inl rfl) (fun σ1 f1 ft1 => h σ1 (a_fQ_fr f1) ft1.1 ft1.2.1 (Or.inl rfl))
  · rintro (y | y | y | y)
    · exact z9 (by rw [y]; rfl)
    · exact z4 (by rw [y]; rfl)
    · exact z11 (by rw [y]; rfl)
    · exact z12 (by rw [y]; rfl)
end RULEA
