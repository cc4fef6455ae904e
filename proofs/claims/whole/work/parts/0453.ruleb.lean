/-! the reference's rules -/
/-- of a side the rules from nr on, the relations from rl on and the codes from cs on may change -/
def b_fy (sd nr rl cs : Nat) (τ τ1 : xw_M) : Prop := (∀ x, x ≠ 0 → x < 8 ∨ 24 < x → τ1.1 x = τ.1 x) ∧ (∀ j, j ≠ 11 → j ≠ 12 → j ≠ 13 → j ≠ 14 → j ≠ 34 → j ≠ 38 → τ1.1 0 j = τ.1 0 j) ∧ (∀ j, j ≠ sd → τ1.1 8 j = τ.1 8 j ∧ τ1.1 16 j = τ.1 16 j) ∧ (∀ x, 9 ≤ x → x ≤ 15 → ∀ j, j < 16 * sd + nr ∨ 16 * sd + 16 ≤ j → τ1.1 x j = τ.1 x j) ∧ (∀ x, 17 ≤ x → x ≤ 21 → ∀ j, j < 200 * sd + rl ∨ 200 * sd + 200 ≤ j → τ1.1 x j = τ.1 x j) ∧ (∀ x, 22 ≤ x → x ≤ 23 → ∀ j, j < cs ∨ 500 * sd + 500 ≤ j → τ1.1 x j = τ.1 x j) ∧ τ1.2 = τ.2
theorem b_fy_0 {sd nr rl cs : Nat} {τ : xw_M} : b_fy sd nr rl cs τ τ := ⟨fun _ _ _ => rfl, fun _ _ _ _ _ _ _ => rfl, fun _ _ => ⟨rfl, rfl⟩, fun _ _ _ _ _ => rfl, fun _ _ _ _ _ => rfl, fun _ _ _ _ _ => rfl, rfl⟩
theorem b_fy_t {sd nr rl cs nr' rl' cs' : Nat} {a b c : xw_M} (h1 : b_fy sd nr rl cs a b) (h2 : b_fy sd nr' rl' cs' b c) (l0 : nr ≤ nr') (l1 : rl ≤ rl') (l2 : cs ≤ cs') : b_fy sd nr rl cs a c := ⟨fun x x0 x1 => (h2.1 x x0 x1).trans (h1.1 x x0 x1), fun j j1 j2 j3 j4 j5 j6 => (h2.2.1 j j1 j2 j3 j4 j5 j6).trans (h1.2.1 j j1 j2 j3 j4 j5 j6), fun j hj => ⟨(h2.2.2.1 j hj).1.trans (h1.2.2.1 j hj).1, (h2.2.2.1 j hj).2.trans (h1.2.2.1 j hj).2⟩, fun x x1 x2 j hj => (h2.2.2.2.1 x x1 x2 j (by omega)).trans (h1.2.2.2.1 x x1 x2 j hj), fun x x1 x2 j hj => (h2.2.2.2.2.1 x x1 x2 j (by omega)).trans (h1.2.2.2.2.1 x x1 x2 j hj), fun x x1 x2 j hj => (h2.2.2.2.2.2.1 x x1 x2 j (by omega)).trans (h1.2.2.2.2.2.1 x x1 x2 j hj), h2.2.2.2.2.2.2.trans h1.2.2.2.2.2.2⟩
theorem b_fy_3 {sd nr rl cs : Nat} {τ τ1 : xw_M} (h : b_f3 sd rl cs τ τ1) : b_fy sd nr rl cs τ τ1 := ⟨fun x x0 x1 => h.1 x x0 (by omega), h.2.1, fun j hj => ⟨by rw [h.1 8 (by decide) (by decide)], h.2.2.1 j hj⟩, fun x x1 x2 j _ => by rw [h.1 x (by omega) (by omega)], h.2.2.2.1, h.2.2.2.2.1, h.2.2.2.2.2⟩
theorem b_fy_w {sd nr rl cs y : Nat} {τ : xw_M} {v : Int32} (hy : 9 ≤ y) (hy2 : y ≤ 15) (hn : nr < 16) : b_fy sd nr rl cs τ (xw_i τ y (16 * sd + nr) v) := ⟨fun x _ x1 => xw_ne (by omega), fun j _ _ _ _ _ _ => by rw [xw_ne (by omega)], fun j _ => ⟨by rw [xw_ne (by omega)], by rw [xw_ne (by omega)]⟩, fun x x1 x2 j hj => xw_oj (by omega), fun x x1 x2 j _ => by rw [xw_ne (by omega)], fun x x1 x2 j _ => by rw [xw_ne (by omega)], rfl⟩
def b_FQ (pl : Nat → Nat) (sd nr rl cs : Nat) (τ : xw_M) (Z : xw_M → Prop) (k p : Nat) : Prop := ∀ τ1, b_fy sd nr rl cs τ τ1 → τ1.1 0 13 = nI k → τ1.1 0 14 = nI (pl p) → (k = 1 ∨ k = 2) → Z τ1
def b_pr (sd nr r c : Nat) (τ τ' : xw_M) : Prop := (∀ y, 9 ≤ y → y ≤ 15 → ∀ j, 16 * sd ≤ j → j < 16 * sd + nr → τ'.1 y j = τ.1 y j) ∧ (∀ y, 17 ≤ y → y ≤ 21 → ∀ j, 200 * sd ≤ j → j < 200 * sd + r → τ'.1 y j = τ.1 y j) ∧ ∀ y, 22 ≤ y → y ≤ 23 → ∀ j, 500 * sd ≤ j → j < c → τ'.1 y j = τ.1 y j
def uBt (τ : xw_M) (sd : Nat) (U : tU) (x : Nat) : Prop := uB (τ.1 9) (τ.1 10) (τ.1 11) (τ.1 12) (τ.1 13) (τ.1 14) (τ.1 15) (τ.1 17) (τ.1 18) (τ.1 19) (τ.1 20) (τ.1 21) (τ.1 22) (τ.1 23) sd U x
def b_ZQ (kd pl : Nat → Nat) (va : Nat → Int32) (sd pos nr rl cs : Nat) (τ : xw_M) (Z : xw_M → Prop) (q : Nat) (U : tU) : Prop := ∀ τ1 r1 c1, b_fy sd nr rl cs τ τ1 → b_G kd pl va sd τ1 q r1 c1 → τ1.1 8 sd = nI (nr + 1) → pos < q → rl ≤ r1 → cs ≤ c1 → (∀ τ', b_pr sd (nr + 1) r1 c1 τ1 τ' → uBt τ' sd U (16 * sd + nr)) → Z τ1
theorem gr_kd_s {k : Nat} (h : k = 9 ∨ k = 4 ∨ k = 11 ∨ k = 12) : (nI (gr_kd k) = 3 ↔ k = 12) ∧ (nI (gr_kd k) = 2 ↔ k = 11) ∧ (nI (gr_kd k) = 1 ↔ k = 4) ∧ (nI (gr_kd k) < 2 ↔ k = 9 ∨ k = 4) := by
  rcases h with e | e | e | e <;> rw [e] <;> decide
theorem b_G_f3 {kd pl : Nat → Nat} {va : Nat → Int32} {sd : Nat} {τ τ1 : xw_M} {pos rl cs : Nat} (G : b_G kd pl va sd τ pos rl cs) (h0 : τ1.1 0 = τ.1 0) (h3 : τ1.1 3 = τ.1 3) (h4 : τ1.1 4 = τ.1 4) (h5 : τ1.1 5 = τ.1 5) (h16 : τ1.1 16 = τ.1 16) : b_G kd pl va sd τ1 pos rl cs := by
  unfold b_G b_T
  rw [h0, h3, h4, h5, h16]
  exact G
section RULEB
variable {kd pl : Nat → Nat} {va : Nat → Int32} {sd : Nat}
theorem sB_rule {τ : xw_M} {pos nr rl cs : Nat} {Z : xw_M → Prop} (hkd : ∀ j, kd j < 29) (hsd : sd ≤ 1) (G : b_G kd pl va sd τ pos rl cs) (e8 : τ.1 8 sd = nI nr) (hn : nr ≤ 16) (h : pc (gr_rule kd va nr pos) (b_FQ pl sd nr rl cs τ Z) (b_ZQ kd pl va sd pos nr rl cs τ Z)) : xu_X12_tellRule τ Z := by
  intro K41 K73 K144 K203 K243 K297 K301 K316 K372 h41 h73 h144 h203 h243 h297 h301 h316 h372
  obtain ⟨T, ⟨e13, e11, e12, e34⟩, e16, e19, g, lc, lB, lr⟩ := id G
  have gl := g.1
  have hp := hkd pos
  have csd : (nI sd).toNatClampNeg = sd := nI_clamp (by omega)
  have vsd : vp_in (nI sd) 2 := vp_in_nI (by omega) (by decide)
  unfold gr_rule at h
  -- the wrong beginnings
  have bad : ∀ (k : Nat), (k = 1 ∨ k = 2) → b_FQ pl sd nr rl cs τ Z k pos → xu_X12_fail τ (nI k) (fun σ9 => K73 σ9) := by
    intro k hk hF
    refine sB_fail (L := 500 * sd + 500) (cs := cs) T e13 e11 g (fun τ1 f1 a1 a2 _ _ => ?_)
    apply h73
    exact ⟨fun z => absurd z (b_ftn a1 hk).2, fun _ => hF τ1 (b_fy_3 (b_f3_x f1)) a1 a2 hk⟩
  have main : (kd pos = 9 ∨ kd pos = 4 ∨ kd pos = 11 ∨ kd pos = 12) → K41 τ 1 := by
    intro hk
    obtain ⟨s3, s2, s1, s0⟩ := gr_kd_s hk
    rw [if_pos hk] at h
    apply h41
    unfold xb_X12_tellRule_41
    rw [e19, csd, e8]
    refine ⟨fun _ => ⟨vsd, fun z => ?_, fun z => ?_⟩, fun z => absurd z (by decide)⟩
    case refine_2 =>
      have : nr = 16 := (nI_eq (b := 16) (by omega) (by decide)).mp z
      rw [if_neg (by omega)] at h
      exact bad 2 (Or.inr rfl) h
    have hnr : nr < 16 := Nat.lt_of_le_of_ne hn (fun q => z (by rw [q]; rfl))
    rw [if_pos hnr, pc_bd] at h
    obtain ⟨x, hx⟩ : ∃ x, x = 16 * sd + nr := ⟨_, rfl⟩
    have cx : (nI x).toNatClampNeg = x := nI_clamp (by omega)
    have vx : vp_in (nI x) 32 := vp_in_nI (by omega) (by decide)
    -- behind a FAULT
    have P19 : ∀ τ1, b_fy sd nr rl cs τ τ1 → τ1.1 0 19 = nI sd := fun τ1 f => by rw [f.2.1 19 (by decide) (by decide) (by decide) (by decide) (by decide) (by decide)]; exact e19
    have W : ∀ (τ1 : xw_M) (y : Nat) (v : Int32), 9 ≤ y → y ≤ 15 → b_fy sd nr rl cs τ τ1 → b_fy sd nr rl cs τ (xw_i τ1 y x v) := by
      intro τ1 y v y1 y2 f
      rw [hx]
      exact b_fy_t f (b_fy_w y1 y2 hnr) (Nat.le_refl _) (Nat.le_refl _) (Nat.le_refl _)
    have F372 : ∀ (τ1 : xw_M) (k p : Nat), b_fy sd nr rl cs τ τ1 → τ1.1 0 13 = nI k → τ1.1 0 14 = nI (pl p) → (k = 1 ∨ k = 2) → b_FQ pl sd nr rl cs τ Z k p → K372 τ1 (nI x) := by
      intro τ1 k p f a1 a2 hk hF
      apply h372
      exact sB_mustF (b_ftn a1 hk) ⟨fun z => absurd z (b_ftn a1 hk).2, fun _ => hF τ1 f a1 a2 hk⟩
    have F316 : ∀ (τ1 : xw_M) (k p : Nat), b_fy sd nr rl cs τ τ1 → τ1.1 0 13 = nI k → τ1.1 0 14 = nI (pl p) → (k = 1 ∨ k = 2) → b_FQ pl sd nr rl cs τ Z k p → ∀ a b, K316 τ1 (nI x) a b := fun τ1 k p f a1 a2 hk hF a b => c_316F h316 (b_ftn a1 hk).1 (F372 τ1 k p f a1 a2 hk hF)
    have F297 : ∀ (τ1 : xw_M) (k p : Nat), b_fy sd nr rl cs τ τ1 → τ1.1 0 13 = nI k → τ1.1 0 14 = nI (pl p) → (k = 1 ∨ k = 2) → b_FQ pl sd nr rl cs τ Z k p → K297 τ1 (nI x) := by
      intro τ1 k p f a1 a2 hk hF
      apply h297
      exact ⟨fun z => absurd z (by decide), fun _ => sB_mustF (b_ftn a1 hk) (F316 τ1 k p f a1 a2 hk hF _ _)⟩
    have F301 : ∀ (τ1 : xw_M) (k p : Nat), b_fy sd nr rl cs τ τ1 → τ1.1 0 13 = nI k → τ1.1 0 14 = nI (pl p) → (k = 1 ∨ k = 2) → b_FQ pl sd nr rl cs τ Z k p → K301 τ1 (nI x) := by
      intro τ1 k p f a1 a2 hk hF
      apply h301
      exact ⟨fun _ => F316 τ1 k p f a1 a2 hk hF _ _, fun z => absurd rfl z⟩
    have F243 : ∀ (τ1 : xw_M) (k p : Nat), b_fy sd nr rl cs τ τ1 → τ1.1 0 13 = nI k → τ1.1 0 14 = nI (pl p) → (k = 1 ∨ k = 2) → b_FQ pl sd nr rl cs τ Z k p → K243 τ1 (nI x) := by
      intro τ1 k p f a1 a2 hk hF
      apply h243
      unfold xb_X12_tellRule_243
      rw [cx]
      refine ⟨vx, fun τ2 h2 => ?_⟩
      have f2 : b_fy sd nr rl cs τ τ2 := by rw [h2]; exact W τ1 13 _ (by decide) (by decide) f
      rw [P19 τ2 f2]
      refine ⟨vsd, vx, fun τ3 h3 => ?_⟩
      have f3 : b_fy sd nr rl cs τ τ3 := by rw [h3]; exact W τ2 14 _ (by decide) (by decide) f2
      have b1 : τ3.1 0 13 = nI k := by rw [h3, xw_ne (by decide), h2, xw_ne (by decide)]; exact a1
      have b2 : τ3.1 0 14 = nI (pl p) := by rw [h3, xw_ne (by decide), h2, xw_ne (by decide)]; exact a2
      exact ⟨vx, fun _ => F297 τ3 k p f3 b1 b2 hk hF, fun _ => ⟨vx, fun _ => F301 τ3 k p f3 b1 b2 hk hF, fun _ => sB_isF (b_ftn b1 hk).1 ⟨fun _ => F301 τ3 k p f3 b1 b2 hk hF, fun _ => F297 τ3 k p f3 b1 b2 hk hF⟩⟩⟩
    have FX : ∀ (τ1 : xw_M) (k p : Nat), b_fy sd nr rl cs τ τ1 → τ1.1 0 13 = nI k → τ1.1 0 14 = nI (pl p) → (k = 1 ∨ k = 2) → b_FQ pl sd nr rl cs τ Z k p → xu_X12_expression τ1 (fun σ29 => K243 σ29 (nI x)) := by
      intro τ1 k p f a1 a2 hk hF
      exact sB_exprF (L := 500 * sd + 500) (cs := cs) (b_ftn a1 hk).1 (fun τ2 f2 d1 d2 => F243 τ2 k p (b_fy_t f (b_fy_3 (b_f3_x f2)) (Nat.le_refl _) (Nat.le_refl _) (Nat.le_refl _)) (d1.trans a1) (d2.trans a2) hk hF)
    have F203 : ∀ (τ1 : xw_M) (k p : Nat), b_fy sd nr rl cs τ τ1 → τ1.1 0 13 = nI k → τ1.1 0 14 = nI (pl p) → (k = 1 ∨ k = 2) → b_FQ pl sd nr rl cs τ Z k p → K203 τ1 (nI x) := by
      intro τ1 k p f a1 a2 hk hF
      apply h203
      refine ⟨vx, fun _ => ⟨vx, fun _ => F243 τ1 k p f a1 a2 hk hF, fun _ => FX τ1 k p f a1 a2 hk hF⟩, fun _ => sB_mustF (b_ftn a1 hk) (sB_numbF (b_ftn a1 hk) (fun v => ⟨vx, fun τ2 h2 => ?_⟩))⟩
      rw [cx] at h2
      have f2 : b_fy sd nr rl cs τ τ2 := by rw [h2]; exact W τ1 11 _ (by decide) (by decide) f
      have b1 : τ2.1 0 13 = nI k := by rw [h2, xw_ne (by decide)]; exact a1
      have b2 : τ2.1 0 14 = nI (pl p) := by rw [h2, xw_ne (by decide)]; exact a2
      exact ⟨vx, fun _ => F243 τ2 k p f2 b1 b2 hk hF, fun _ => FX τ2 k p f2 b1 b2 hk hF⟩
    -- the good road
    have G372 : ∀ (τ1 : xw_M) (q r1 c1 ct : Nat) (i1 i2 : Int32) (f : tF) (C : List (List tG)), b_fy sd nr rl cs τ τ1 → b_G kd pl va sd τ1 q r1 c1 → τ1.1 8 sd = nI nr → pos < q → rl ≤ r1 → cs ≤ ct → ct ≤ c1 → τ1.1 9 x = nI (gr_kd (kd pos)) → τ1.1 10 x = i1 → τ1.1 11 x = i2 → τ1.1 12 x = nI cs → τ1.1 13 x = nI ct → τ1.1 14 x = nI rl → (kd pos = 11 → tB (τ1.1 22) (τ1.1 23) cs ct f) → (∀ τ', b_ag sd rl ct r1 c1 τ1 τ' → tBcond (τ'.1 17) (τ'.1 18) (τ'.1 19) (τ'.1 20) (τ'.1 21) (τ'.1 22) (τ'.1 23) (200 * sd) C rl r1) → pc (gr_bd (gr_tk kd 17 q) (fun q5 _ => .inr (q5, (gr_kd (kd pos), i1, i2, f, C)))) (b_FQ pl sd nr rl cs τ Z) (b_ZQ kd pl va sd pos nr rl cs τ Z) → K372 τ1 (nI x) := by
      intro τ1 q r1 c1 ct i1 i2 f C fy G1 g8 lq lr1 lt1 lt2 w9 w10 w11 w12 w13 w14 tf tc hpc
      obtain ⟨T1, ⟨d13, d11, d12, d34⟩, d16, d19, gq, lcq, lBq, lrq⟩ := id G1
      have gq1 := gq.1
      rw [pc_bd] at hpc
      apply h372
      refine sB_must (K := 17) hkd T1 d13 d11 gq (by decide) rfl (pc_mono hpc (fun k p hF τ2 f2 a1 a2 hk => ?_) (fun q2 _ hZ eq g2 τ2 f2 b13 b11 => ?_))
      · exact ⟨fun z => absurd z (b_ftn a1 hk).2, fun _ => hF τ2 (b_fy_t fy (b_fy_3 (b_f3_f0 f2)) (Nat.le_refl _) (Nat.le_refl _) (Nat.le_refl _)) a1 a2 hk⟩
      · have b19 : τ2.1 0 19 = nI sd := by rw [f2.2.1 19 (by decide) (by decide) (by decide)]; exact d19
        have b16 : τ2.1 16 sd = nI r1 := by rw [f2.1 16 (by decide)]; exact d16
        rw [b13, b19, csd, b16, cx]
        refine ⟨fun _ => ⟨vsd, vx, fun τ3 h3 => ?_⟩, fun z => absurd (by decide) z⟩
        have c19 : τ3.1 0 19 = nI sd := by rw [h3, xw_ne (by decide)]; exact b19
        have c8 : τ3.1 8 sd = nI nr := by rw [h3, xw_ne (by decide), f2.1 8 (by decide)]; exact g8
        rw [c19, csd, c8, nI_1]
        refine ⟨vsd, vsd, fun τ4 h4 => ?_⟩
        have o : ∀ y, y ≠ 8 → y ≠ 15 → τ4.1 y = τ2.1 y := fun y y1 y2 => by rw [h4, xw_ne y1, h3, xw_ne y2]
        have o1 : ∀ y, y ≠ 8 → y ≠ 15 → y ≠ 0 → τ4.1 y = τ1.1 y := fun y y1 y2 y3 => by rw [o y y1 y2, f2.1 y y3]
        have w15 : τ4.1 15 x = nI r1 := by rw [h4, xw_ne (by decide), h3, xw_eq]
        have f12 : b_fy sd nr rl cs τ τ2 := b_fy_t fy (b_fy_3 (b_f3_f0 f2)) (Nat.le_refl _) (Nat.le_refl _) (Nat.le_refl _)
        have f13 : b_fy sd nr rl cs τ τ3 := by rw [h3]; exact W τ2 15 _ (by decide) (by decide) f12
        have f34 : b_fy sd nr rl cs τ3 τ4 := by
          rw [h4]
          refine ⟨fun y _ y1 => xw_ne (by omega), fun j _ _ _ _ _ _ => by rw [xw_ne (by decide)], fun j hj => ⟨xw_nj hj, by rw [xw_ne (by decide)]⟩, fun y y1 y2 j _ => by rw [xw_ne (by omega)], fun y y1 y2 j _ => by rw [xw_ne (by omega)], fun y y1 y2 j _ => by rw [xw_ne (by omega)], rfl⟩
        have f14 : b_fy sd nr rl cs τ τ4 := b_fy_t f13 f34 (Nat.le_refl _) (Nat.le_refl _) (Nat.le_refl _)
        have u0 : τ4.1 0 = τ2.1 0 := o 0 (by decide) (by decide)
        refine hZ τ4 r1 c1 f14 ⟨?_, ⟨by rw [u0]; exact b13, by rw [u0]; exact b11, by rw [u0, f2.2.1 12 (by decide) (by decide) (by decide)]; exact d12, by rw [u0, f2.2.1 34 (by decide) (by decide) (by decide)]; exact d34⟩, by rw [o 16 (by decide) (by decide)]; exact b16, by rw [u0]; exact b19, g2, by omega, by omega, by omega⟩ (by rw [h4, xw_eq]) (by omega) lr1 (by omega) (fun τ' pr => ?_)
        · unfold b_T
          rw [o1 3 (by decide) (by decide) (by decide), o1 4 (by decide) (by decide) (by decide), o1 5 (by decide) (by decide) (by decide)]
          exact T1
        · have r9 : ∀ y, 9 ≤ y → y ≤ 15 → τ'.1 y x = τ4.1 y x := fun y y1 y2 => pr.1 y y1 y2 x (by omega) (by omega)
          rw [← hx]
          refine ⟨?_, ?_, ?_, fun z => ⟨cs, ct, ?_, ?_, by omega, by omega, tB_c (tf ?_) (fun j j1 j2 => ⟨?_, ?_⟩)⟩, rl, r1, ?_, ?_, by omega, tc τ' ⟨fun y y1 y2 j j1 j2 => ?_, fun y y1 y2 j j1 j2 => ?_⟩⟩
          · show τ'.1 9 x = nI (gr_kd (kd pos))
            rw [r9 9 (by decide) (by decide), o1 9 (by decide) (by decide) (by decide)]; exact w9
          · show τ'.1 10 x = i1
            rw [r9 10 (by decide) (by decide), o1 10 (by decide) (by decide) (by decide)]; exact w10
          · show τ'.1 11 x = i2
            rw [r9 11 (by decide) (by decide), o1 11 (by decide) (by decide) (by decide)]; exact w11
          · rw [r9 12 (by decide) (by decide), o1 12 (by decide) (by decide) (by decide)]; exact w12
          · rw [r9 13 (by decide) (by decide), o1 13 (by decide) (by decide) (by decide)]; exact w13
          · exact (t_kA_p hk).2.2 z
          · rw [pr.2.2 22 (by decide) (by decide) j (by omega) (by omega), o1 22 (by decide) (by decide) (by decide)]
          · rw [pr.2.2 23 (by decide) (by decide) j (by omega) (by omega), o1 23 (by decide) (by decide) (by decide)]
          · rw [r9 14 (by decide) (by decide), o1 14 (by decide) (by decide) (by decide)]; exact w14
          · rw [r9 15 (by decide) (by decide)]; exact w15
          · rw [pr.2.1 y y1 y2 j (by omega) (by omega), o1 y (by omega) (by omega) (by omega)]
          · rw [pr.2.2 y y1 y2 j (by omega) (by omega), o1 y (by omega) (by omega) (by omega)]
    have G243 : ∀ (τ1 : xw_M) (q c1 : Nat) (i1 i2 : Int32) (f : tF), b_fy sd nr rl cs τ τ1 → b_G kd pl va sd τ1 q rl c1 → τ1.1 8 sd = nI nr → pos < q → cs ≤ c1 → τ1.1 9 x = nI (gr_kd (kd pos)) → τ1.1 10 x = i1 → τ1.1 11 x = i2 → τ1.1 12 x = nI cs → (kd pos = 11 → tB (τ1.1 22) (τ1.1 23) cs c1 f) → pc (gr_bd (gr_cnd kd va (kd pos) q) (fun q4 C => gr_bd (gr_tk kd 17 q4) (fun q5 _ => .inr (q5, (gr_kd (kd pos), i1, i2, f, C))))) (b_FQ pl sd nr rl cs τ Z) (b_ZQ kd pl va sd pos nr rl cs τ Z) → K243 τ1 (nI x) := by
      intro τ1 q c1 i1 i2 f fy G1 g8 lq lt1 w9 w10 w11 w12 tf hpc
      obtain ⟨T1, ⟨d13, d11, d12, d34⟩, d16, d19, gq, lcq, lBq, lrq⟩ := id G1
      have gq1 := gq.1
      unfold gr_cnd at hpc
      apply h243
      unfold xb_X12_tellRule_243
      rw [cx, d34]
      refine ⟨vx, fun τ2 h2 => ?_⟩
      have c19 : τ2.1 0 19 = nI sd := by rw [h2, xw_ne (by decide)]; exact d19
      have c16 : τ2.1 16 sd = nI rl := by rw [h2, xw_ne (by decide)]; exact d16
      rw [c19, csd, c16]
      refine ⟨vsd, vx, fun τ3 h3 => ?_⟩
      have o : ∀ y, y ≠ 13 → y ≠ 14 → τ3.1 y = τ1.1 y := fun y y1 y2 => by rw [h3, xw_ne y2, h2, xw_ne y1]
      have w13 : τ3.1 13 x = nI c1 := by rw [h3, xw_ne (by decide), h2, xw_eq]
      have w14 : τ3.1 14 x = nI rl := by rw [h3, xw_eq]
      have f3 : b_fy sd nr rl cs τ τ3 := by
        rw [h3]
        refine W τ2 14 _ (by decide) (by decide) ?_
        rw [h2]
        exact W τ1 13 _ (by decide) (by decide) fy
      have G3 : b_G kd pl va sd τ3 q rl c1 := b_G_f3 G1 (o 0 (by decide) (by decide)) (o 3 (by decide) (by decide)) (o 4 (by decide) (by decide)) (o 5 (by decide) (by decide)) (o 16 (by decide) (by decide))
      obtain ⟨T3, ⟨y13, y11, y12, y34⟩, y16, y19, _, _, _, _⟩ := id G3
      have w9' : τ3.1 9 x = nI (gr_kd (kd pos)) := by rw [o 9 (by decide) (by decide)]; exact w9
      have w8' : τ3.1 8 sd = nI nr := by rw [o 8 (by decide) (by decide)]; exact g8
      have w10' : τ3.1 10 x = i1 := by rw [o 10 (by decide) (by decide)]; exact w10
      have w11' : τ3.1 11 x = i2 := by rw [o 11 (by decide) (by decide)]; exact w11
      have w12' : τ3.1 12 x = nI cs := by rw [o 12 (by decide) (by decide)]; exact w12
      have tf' : kd pos = 11 → tB (τ3.1 22) (τ3.1 23) cs c1 f := fun z => by rw [o 22 (by decide) (by decide), o 23 (by decide) (by decide)]; exact tf z
      have no : ¬ (kd pos = 9 ∨ kd pos = 4 ∨ (kd pos = 11 ∧ kd q = 10)) → K301 τ3 (nI x) := by
        intro y
        rw [if_neg y, pc_bd] at hpc
        apply h301
        refine ⟨fun _ => ?_, fun z => absurd rfl z⟩
        exact c_316E h316 (G372 τ3 q rl c1 c1 i1 i2 f [] f3 G3 w8' lq (Nat.le_refl _) lt1 (Nat.le_refl _) w9' w10' w11' w12' w13 w14 tf' (fun _ _ => rfl) hpc)
      have yes : (kd pos = 9 ∨ kd pos = 4 ∨ (kd pos = 11 ∧ kd q = 10)) → K297 τ3 (nI x) := by
        intro y
        rw [if_pos y, pc_bd, pc_bd] at hpc
        apply h297
        refine ⟨fun z => absurd z (by decide), fun _ => ?_⟩
        refine sB_must (K := 10) hkd T3 y13 y11 gq (by decide) rfl (pc_mono hpc (fun k p hF τ4 f4 a1 a2 hk => ?_) (fun q4 _ hZ eq g4 τ4 f4 b13 b11 => ?_))
        · exact F316 τ4 k p (b_fy_t f3 (b_fy_3 (b_f3_f0 f4)) (Nat.le_refl _) (Nat.le_refl _) (Nat.le_refl _)) a1 a2 hk hF _ _
        · have g41 := g4.1
          have f04 : b_fy sd nr rl cs τ τ4 := b_fy_t f3 (b_fy_3 (b_f3_f0 f4)) (Nat.le_refl _) (Nat.le_refl _) (Nat.le_refl _)
          have G4 : b_G kd pl va sd τ4 q4 rl c1 := ⟨b_T_f0 T3 f4, ⟨b13, b11, by rw [f4.2.1 12 (by decide) (by decide) (by decide)]; exact y12, by rw [f4.2.1 34 (by decide) (by decide) (by decide)]; exact y34⟩, by rw [f4.1 16 (by decide)]; exact y16, by rw [f4.2.1 19 (by decide) (by decide) (by decide)]; exact y19, g4, by omega, by omega, by omega⟩
          refine c_cond h316 hkd hsd G4 (pc_mono hZ (fun k p hF τ5 f5 a1 a2 hk => ?_) (fun q5 C hZ5 τ5 r5 c5 f5 G5 l5 lr5 lc5 s5 => ?_))
          · exact F372 τ5 k p (b_fy_t f04 (b_fy_3 f5) (Nat.le_refl _) (Nat.le_refl _) lt1) a1 a2 hk hF
          · have p15 : ∀ y, y ≠ 0 → y < 16 → τ5.1 y = τ3.1 y := fun y y0 y1 => by rw [f5.1 y y0 (Or.inl y1), f4.1 y y0]
            refine G372 τ5 q5 r5 c5 c1 i1 i2 f C (b_fy_t f04 (b_fy_3 f5) (Nat.le_refl _) (Nat.le_refl _) lt1) G5 (by rw [p15 8 (by decide) (by decide)]; exact w8') (by omega) lr5 lt1 lc5 (by rw [p15 9 (by decide) (by decide)]; exact w9') (by rw [p15 10 (by decide) (by decide)]; exact w10') (by rw [p15 11 (by decide) (by decide)]; exact w11') (by rw [p15 12 (by decide) (by decide)]; exact w12') (by rw [p15 13 (by decide) (by decide)]; exact w13) (by rw [p15 14 (by decide) (by decide)]; exact w14) (fun z => tB_c (tf' z) (fun j j1 j2 => ⟨?_, ?_⟩)) s5 hZ5
            · rw [f5.2.2.2.2.1 22 (by decide) (by decide) j (Or.inl j2), f4.1 22 (by decide)]
            · rw [f5.2.2.2.2.1 23 (by decide) (by decide) j (Or.inl j2), f4.1 23 (by decide)]
      rw [w9']
      refine ⟨vx, fun z => yes (by rcases s0.mp z with e | e; exact Or.inl e; exact Or.inr (Or.inl e)), fun z0 => ⟨vx, fun z2 => no ?_, fun z2 => ?_⟩⟩
      · rintro (e | e | e)
        · exact z0 (s0.mpr (Or.inl e))
        · exact z0 (s0.mpr (Or.inr e))
        · exact z2 (s2.mpr e.1)
      · have k11 := s2.mp z2
        refine sB_is (K := 10) hkd T3 y13 y11 gq (by decide) rfl (fun e => ⟨fun z => absurd z (by decide), fun _ => yes (Or.inr (Or.inr ⟨k11, e⟩))⟩) (fun n => ⟨fun _ => no ?_, fun z => absurd rfl z⟩)
        rintro (e | e | e)
        · omega
        · omega
        · exact n e.2
    have G203 : ∀ (τ1 : xw_M) (q : Nat) (i1 : Int32), b_fy sd nr rl cs τ τ1 → b_G kd pl va sd τ1 q rl cs → τ1.1 8 sd = nI nr → pos < q → τ1.1 9 x = nI (gr_kd (kd pos)) → τ1.1 10 x = i1 → τ1.1 11 x = 0 → τ1.1 12 x = nI cs → pc (gr_bd (gr_snd kd va (kd pos) q) (fun q2 i2 => gr_bd (gr_trm kd va (kd pos) q2) (fun q3 f => gr_bd (gr_cnd kd va (kd pos) q3) (fun q4 C => gr_bd (gr_tk kd 17 q4) (fun q5 _ => .inr (q5, (gr_kd (kd pos), i1, i2, f, C))))))) (b_FQ pl sd nr rl cs τ Z) (b_ZQ kd pl va sd pos nr rl cs τ Z) → K203 τ1 (nI x) := by
      intro τ1 q i1 fy G1 g8 lq w9 w10 w11 w12 hpc
      obtain ⟨T1, ⟨d13, d11, d12, d34⟩, d16, d19, gq, lcq, lBq, lrq⟩ := id G1
      have gq1 := gq.1
      unfold gr_snd at hpc
      apply h203
      unfold xb_X12_tellRule_203
      rw [cx, w9]
      refine ⟨vx, fun z3 => ⟨vx, fun z2 => ?_, fun z2 => ?_⟩, fun z3 => ?_⟩
      · have n12 : ¬ kd pos = 12 := fun e => z3 (s3.mpr e)
        have n11 : ¬ kd pos = 11 := fun e => z2 (s2.mpr e)
        rw [if_neg n12, pc_bd] at hpc
        have hpc' : pc (gr_bd (gr_trm kd va (kd pos) q) (fun q3 f => gr_bd (gr_cnd kd va (kd pos) q3) (fun q4 C => gr_bd (gr_tk kd 17 q4) (fun q5 _ => .inr (q5, (gr_kd (kd pos), i1, 0, f, C)))))) (b_FQ pl sd nr rl cs τ Z) (b_ZQ kd pl va sd pos nr rl cs τ Z) := hpc
        unfold gr_trm at hpc'
        rw [if_neg n11, pc_bd] at hpc'
        exact G243 τ1 q cs i1 0 _ fy G1 g8 lq (Nat.le_refl _) w9 w10 w11 w12 (fun e => absurd e n11) hpc'
      · have n12 : ¬ kd pos = 12 := fun e => z3 (s3.mpr e)
        have y11 : kd pos = 11 := s2.mp z2
        rw [if_neg n12, pc_bd] at hpc
        have hpc' : pc (gr_bd (gr_trm kd va (kd pos) q) (fun q3 f => gr_bd (gr_cnd kd va (kd pos) q3) (fun q4 C => gr_bd (gr_tk kd 17 q4) (fun q5 _ => .inr (q5, (gr_kd (kd pos), i1, 0, f, C)))))) (b_FQ pl sd nr rl cs τ Z) (b_ZQ kd pl va sd pos nr rl cs τ Z) := hpc
        unfold gr_trm at hpc'
        rw [if_pos y11, pc_bd] at hpc'
        refine sB_expr (L := 500 * sd + 500) (B := 500 * sd) hkd rfl (by omega) T1 d13 d11 d12 d34 gq lcq (pc_mono hpc' (fun k p hF τ2 f2 a1 a2 hk => ?_) (fun q2 f hZ τ2 c2 f2 b13 b11 b12 b34 g2 l2 lc2 t2 => ?_))
        · exact F243 τ2 k p (b_fy_t fy (b_fy_3 (b_f3_x f2)) (Nat.le_refl _) (Nat.le_refl _) (Nat.le_refl _)) a1 a2 hk hF
        · have lt := tB_lt t2
          have p15 : ∀ y, y ≠ 0 → y < 17 → τ2.1 y = τ1.1 y := fun y y0 y1 => f2.1 y y0 (by omega) (by omega) (by omega)
          exact G243 τ2 q2 c2 i1 0 f (b_fy_t fy (b_fy_3 (b_f3_x f2)) (Nat.le_refl _) (Nat.le_refl _) (Nat.le_refl _)) ⟨b_T_fx T1 f2, ⟨b13, b11, b12, b34⟩, by rw [p15 16 (by decide) (by decide)]; exact d16, by rw [f2.2.1 19 (by decide) (by decide) (by decide) (by decide) (by decide) (by decide)]; exact d19, g2, lc2, by omega, by omega⟩ (by rw [p15 8 (by decide) (by decide)]; exact g8) (by omega) (by omega) (by rw [p15 9 (by decide) (by decide)]; exact w9) (by rw [p15 10 (by decide) (by decide)]; exact w10) (by rw [p15 11 (by decide) (by decide)]; exact w11) (by rw [p15 12 (by decide) (by decide)]; exact w12) (fun _ => t2) hZ
      · have y12 : kd pos = 12 := s3.mp z3
        rw [if_pos y12, pc_bd, pc_bd] at hpc
        refine sB_must (K := 13) hkd T1 d13 d11 gq (by decide) rfl (pc_mono hpc (fun k p hF τ2 f2 a1 a2 hk => ?_) (fun q2 _ hZ eq g2 τ2 f2 b13 b11 => ?_))
        · refine sB_numbF (b_ftn a1 hk) (fun v => ⟨vx, fun τ3 h3 => ?_⟩)
          have f02 : b_fy sd nr rl cs τ τ2 := b_fy_t fy (b_fy_3 (b_f3_f0 f2)) (Nat.le_refl _) (Nat.le_refl _) (Nat.le_refl _)
          have f3 : b_fy sd nr rl cs τ τ3 := by rw [h3]; exact W τ2 11 _ (by decide) (by decide) f02
          have b1 : τ3.1 0 13 = nI k := by rw [h3, xw_ne (by decide)]; exact a1
          have b2 : τ3.1 0 14 = nI (pl p) := by rw [h3, xw_ne (by decide)]; exact a2
          exact ⟨vx, fun _ => F243 τ3 k p f3 b1 b2 hk hF, fun _ => FX τ3 k p f3 b1 b2 hk hF⟩
        · refine sB_numb hkd (b_T_f0 T1 f2) b13 b11 g2 (pc_mono hZ (fun k p hF v τ3 f3 a1 a2 hk => ⟨vx, fun τ4 h4 => ?_⟩) (fun q3 i2 hZ3 eq3 g3 τ3 f3 c13 c11 => ⟨vx, fun τ4 h4 => ?_⟩))
          · have f03 : b_fy sd nr rl cs τ τ3 := b_fy_t (b_fy_t fy (b_fy_3 (b_f3_f0 f2)) (Nat.le_refl _) (Nat.le_refl _) (Nat.le_refl _)) (b_fy_3 (b_f3_f0 f3)) (Nat.le_refl _) (Nat.le_refl _) (Nat.le_refl _)
            have f4 : b_fy sd nr rl cs τ τ4 := by rw [h4]; exact W τ3 11 _ (by decide) (by decide) f03
            have b1 : τ4.1 0 13 = nI k := by rw [h4, xw_ne (by decide)]; exact a1
            have b2 : τ4.1 0 14 = nI (pl p) := by rw [h4, xw_ne (by decide)]; exact a2
            exact ⟨vx, fun _ => F243 τ4 k p f4 b1 b2 hk hF, fun _ => FX τ4 k p f4 b1 b2 hk hF⟩
          · have f03 : b_fy sd nr rl cs τ τ3 := b_fy_t (b_fy_t fy (b_fy_3 (b_f3_f0 f2)) (Nat.le_refl _) (Nat.le_refl _) (Nat.le_refl _)) (b_fy_3 (b_f3_f0 f3)) (Nat.le_refl _) (Nat.le_refl _) (Nat.le_refl _)
            have f4 : b_fy sd nr rl cs τ τ4 := by rw [h4]; exact W τ3 11 _ (by decide) (by decide) f03
            have g31 := g3.1
            have n11 : ¬ kd pos = 11 := by omega
            have hpc' : pc (gr_bd (gr_trm kd va (kd pos) q3) (fun q3 f => gr_bd (gr_cnd kd va (kd pos) q3) (fun q4 C => gr_bd (gr_tk kd 17 q4) (fun q5 _ => .inr (q5, (gr_kd (kd pos), i1, i2, f, C)))))) (b_FQ pl sd nr rl cs τ Z) (b_ZQ kd pl va sd pos nr rl cs τ Z) := hZ3
            unfold gr_trm at hpc'
            rw [if_neg n11, pc_bd] at hpc'
            have p : ∀ y, y ≠ 0 → y ≠ 11 → τ4.1 y = τ1.1 y := fun y y0 y1 => by rw [h4, xw_ne y1, f3.1 y y0, f2.1 y y0]
            have p0 : ∀ j, j ≠ 11 → j ≠ 13 → j ≠ 14 → τ4.1 0 j = τ1.1 0 j := fun j j1 j2 j3 => by rw [h4, xw_ne (by decide), f3.2.1 j j1 j2 j3, f2.2.1 j j1 j2 j3]
            have w9' : τ4.1 9 x = nI (gr_kd (kd pos)) := by rw [p 9 (by decide) (by decide)]; exact w9
            have G4 : b_G kd pl va sd τ4 q3 rl cs := by
              refine ⟨?_, ⟨by rw [h4, xw_ne (by decide)]; exact c13, by rw [h4, xw_ne (by decide)]; exact c11, by rw [p0 12 (by decide) (by decide) (by decide)]; exact d12, by rw [p0 34 (by decide) (by decide) (by decide)]; exact d34⟩, by rw [p 16 (by decide) (by decide)]; exact d16, by rw [p0 19 (by decide) (by decide) (by decide)]; exact d19, g3, by omega, by omega, by omega⟩
              unfold b_T
              rw [p 3 (by decide) (by decide), p 4 (by decide) (by decide), p 5 (by decide) (by decide)]
              exact T1
            rw [w9']
            refine ⟨vx, fun _ => ?_, fun z2 => absurd (s2.mp z2) n11⟩
            exact G243 τ4 q3 cs i1 i2 _ f4 G4 (by rw [p 8 (by decide) (by decide)]; exact g8) (by omega) (Nat.le_refl _) w9' (by rw [p 10 (by decide) (by decide)]; exact w10) (by rw [h4, xw_eq]) (by rw [p 12 (by decide) (by decide)]; exact w12) (fun e => absurd e n11) hpc'
    have G144 : ∀ s1 : Int32, s1 = nI (gr_kd (kd pos)) → K144 τ (nI x) s1 (nI x) := by
      intro sv hsv
      apply h144
      unfold xb_X12_tellRule_144
      rw [cx]
      refine ⟨vx, fun τ1 h1 => ⟨vx, fun τ2 h2 => ⟨vx, fun τ3 h3 => ?_⟩⟩⟩
      have o3 : ∀ y, y ≠ 9 → y ≠ 10 → y ≠ 11 → τ3.1 y = τ.1 y := fun y y1 y2 y3 => by rw [h3, xw_ne y3, h2, xw_ne y2, h1, xw_ne y1]
      have f3 : b_fy sd nr rl cs τ τ3 := by
        rw [h3]
        refine W τ2 11 _ (by decide) (by decide) ?_
        rw [h2]
        refine W τ1 10 _ (by decide) (by decide) ?_
        rw [h1]
        exact W τ 9 _ (by decide) (by decide) b_fy_0
      have G3 : b_G kd pl va sd τ3 pos rl cs := b_G_f3 G (o3 0 (by decide) (by decide) (by decide)) (o3 3 (by decide) (by decide) (by decide)) (o3 4 (by decide) (by decide) (by decide)) (o3 5 (by decide) (by decide) (by decide)) (o3 16 (by decide) (by decide) (by decide))
      obtain ⟨T3, ⟨y13, y11, y12, y34⟩, y16, y19, _, _, _, _⟩ := id G3
      have w9 : τ3.1 9 x = nI (gr_kd (kd pos)) := by rw [h3, xw_ne (by decide), h2, xw_ne (by decide), h1, xw_eq, hsv]
      have w10 : τ3.1 10 x = 0 := by rw [h3, xw_ne (by decide), h2, xw_eq]
      have w11 : τ3.1 11 x = 0 := by rw [h3, xw_eq]
      refine sB_next0 T3 y13 y11 g (fun l τ4 f4 b13 b11 => ⟨vx, fun τ5 h5 => ?_⟩) (fun l τ4 f4 b13 b14 => ⟨vx, fun τ5 h5 => ?_⟩)
      · have hZ := pc_tk1 h rfl l
        unfold gr_rst gr_fst at hZ
        have b34 : τ4.1 0 34 = nI cs := by rw [f4.2.1 34 (by decide) (by decide) (by decide)]; exact y34
        rw [b34] at h5
        have p : ∀ y, y ≠ 0 → y ≠ 12 → τ5.1 y = τ3.1 y := fun y y0 y1 => by rw [h5, xw_ne y1, f4.1 y y0]
        have p0 : τ5.1 0 = τ4.1 0 := by rw [h5, xw_ne (by decide)]
        have f5 : b_fy sd nr rl cs τ τ5 := by
          rw [h5]
          exact W τ4 12 _ (by decide) (by decide) (b_fy_t f3 (b_fy_3 (b_f3_f0 f4)) (Nat.le_refl _) (Nat.le_refl _) (Nat.le_refl _))
        have g1 := gr_go_s g l (by omega)
        have G5 : b_G kd pl va sd τ5 (pos + 1) rl cs := by
          refine ⟨?_, ⟨by rw [p0]; exact b13, by rw [p0]; exact b11, by rw [p0, f4.2.1 12 (by decide) (by decide) (by decide)]; exact y12, by rw [p0]; exact b34⟩, by rw [p 16 (by decide) (by decide)]; exact y16, by rw [p0, f4.2.1 19 (by decide) (by decide) (by decide)]; exact y19, g1, by omega, by omega, by omega⟩
          unfold b_T
          rw [p 3 (by decide) (by decide), p 4 (by decide) (by decide), p 5 (by decide) (by decide)]
          exact T3
        have v9 : τ5.1 9 x = nI (gr_kd (kd pos)) := by rw [p 9 (by decide) (by decide)]; exact w9
        have v10 : τ5.1 10 x = 0 := by rw [p 10 (by decide) (by decide)]; exact w10
        have v11 : τ5.1 11 x = 0 := by rw [p 11 (by decide) (by decide)]; exact w11
        have v12 : τ5.1 12 x = nI cs := by rw [h5, xw_eq]
        have v8 : τ5.1 8 sd = nI nr := by rw [p 8 (by decide) (by decide), o3 8 (by decide) (by decide) (by decide)]; exact e8
        have ints : (kd pos = 4 ∨ kd pos = 12) → xu_X12_number τ5 (fun r24 σ23 => vp_in (nI x) 32 ∧ ∀ σ25, σ25 = xw_i σ23 10 x r24 → K203 σ25 (nI x)) := by
          intro y
          rw [if_pos y, pc_bd] at hZ
          refine sB_numb hkd G5.1 G5.2.1.1 G5.2.1.2.1 g1 (pc_mono hZ (fun k p hF v τ6 f6 a1 a2 hk => ⟨vx, fun τ7 h7 => ?_⟩) (fun q6 i1 hZ6 eq6 g6 τ6 f6 c13 c11 => ⟨vx, fun τ7 h7 => ?_⟩))
          · have f7 : b_fy sd nr rl cs τ τ7 := by
              rw [h7]
              exact W τ6 10 _ (by decide) (by decide) (b_fy_t f5 (b_fy_3 (b_f3_f0 f6)) (Nat.le_refl _) (Nat.le_refl _) (Nat.le_refl _))
            exact F203 τ7 k p f7 (by rw [h7, xw_ne (by decide)]; exact a1) (by rw [h7, xw_ne (by decide)]; exact a2) hk hF
          · have f7 : b_fy sd nr rl cs τ τ7 := by
              rw [h7]
              exact W τ6 10 _ (by decide) (by decide) (b_fy_t f5 (b_fy_3 (b_f3_f0 f6)) (Nat.le_refl _) (Nat.le_refl _) (Nat.le_refl _))
            have g61 := g6.1
            have r : ∀ y, y ≠ 0 → y ≠ 10 → τ7.1 y = τ5.1 y := fun y y0 y1 => by rw [h7, xw_ne y1, f6.1 y y0]
            have r0 : ∀ j, j ≠ 11 → j ≠ 13 → j ≠ 14 → τ7.1 0 j = τ5.1 0 j := fun j j1 j2 j3 => by rw [h7, xw_ne (by decide), f6.2.1 j j1 j2 j3]
            obtain ⟨T5, ⟨x13, x11, x12, x34⟩, x16, x19, _, _, _, _⟩ := id G5
            have G7 : b_G kd pl va sd τ7 q6 rl cs := by
              refine ⟨?_, ⟨by rw [h7, xw_ne (by decide)]; exact c13, by rw [h7, xw_ne (by decide)]; exact c11, by rw [r0 12 (by decide) (by decide) (by decide)]; exact x12, by rw [r0 34 (by decide) (by decide) (by decide)]; exact x34⟩, by rw [r 16 (by decide) (by decide)]; exact x16, by rw [r0 19 (by decide) (by decide) (by decide)]; exact x19, g6, by omega, by omega, by omega⟩
              unfold b_T
              rw [r 3 (by decide) (by decide), r 4 (by decide) (by decide), r 5 (by decide) (by decide)]
              exact T5
            exact G203 τ7 q6 i1 f7 G7 (by rw [r 8 (by decide) (by decide)]; exact v8) (by omega) (by rw [r 9 (by decide) (by decide)]; exact v9) (by rw [h7, xw_eq]) (by rw [r 11 (by decide) (by decide)]; exact v11) (by rw [r 12 (by decide) (by decide)]; exact v12) hZ6
        rw [v9]
        refine ⟨vx, fun z1 => ints (Or.inl (s1.mp z1)), fun z1 => ⟨vx, fun z3 => ?_, fun z3 => ints (Or.inr (s3.mp z3))⟩⟩
        rw [if_neg, pc_bd] at hZ
        · exact G203 τ5 (pos + 1) 0 f5 G5 v8 (by omega) v9 v10 v11 v12 hZ
        · rintro (e | e)
          · exact z1 (s1.mpr e)
          · exact z3 (s3.mpr e)
      · have hF := pc_tk2 h rfl l
        have f5 : b_fy sd nr rl cs τ τ5 := by
          rw [h5]
          exact W τ4 12 _ (by decide) (by decide) (b_fy_t f3 (b_fy_3 (b_f3_f0 f4)) (Nat.le_refl _) (Nat.le_refl _) (Nat.le_refl _))
        have a1 : τ5.1 0 13 = nI 2 := by rw [h5, xw_ne (by decide)]; exact b13
        have a2 : τ5.1 0 14 = nI (pl pos) := by rw [h5, xw_ne (by decide)]; exact b14
        have nb : xu_X12_number τ5 (fun r24 σ23 => vp_in (nI x) 32 ∧ ∀ σ25, σ25 = xw_i σ23 10 x r24 → K203 σ25 (nI x)) := by
          refine sB_numbF (b_ftn a1 (Or.inr rfl)) (fun v => ⟨vx, fun τ6 h6 => ?_⟩)
          have f6 : b_fy sd nr rl cs τ τ6 := by rw [h6]; exact W τ5 10 _ (by decide) (by decide) f5
          exact F203 τ6 2 pos f6 (by rw [h6, xw_ne (by decide)]; exact a1) (by rw [h6, xw_ne (by decide)]; exact a2) (Or.inr rfl) hF
        exact ⟨vx, fun _ => nb, fun _ => ⟨vx, fun _ => F203 τ5 2 pos f5 a1 a2 (Or.inr rfl) hF, fun _ => nb⟩⟩
    apply h73
    unfold xb_X12_tellRule_73
    rw [e13, e19, csd, e8]
    refine ⟨fun _ => ⟨vsd, fun x11 hx11 => ?_⟩, fun z => absurd (by decide) z⟩
    have ex : x11 = nI x := by rw [hx11, show (16 : Int32) = nI 16 from rfl, pk_mul, nI_add, hx]
    rw [ex]
    refine sB_is (K := 9) hkd T e13 e11 g (by decide) rfl (fun e => ⟨fun z => absurd z (by decide), fun _ => G144 0 (by rw [e]; rfl)⟩) (fun n9 => ⟨fun _ => ?_, fun z => absurd rfl z⟩)
    refine sB_is (K := 4) hkd T e13 e11 g (by decide) rfl (fun e => ⟨fun z => absurd z (by decide), fun _ => G144 1 (by rw [e]; rfl)⟩) (fun n4 => ⟨fun _ => ?_, fun z => absurd rfl z⟩)
    refine sB_is (K := 11) hkd T e13 e11 g (by decide) rfl (fun e => ⟨fun z => absurd z (by decide), fun _ => G144 2 (by rw [e]; rfl)⟩) (fun n11 => ⟨fun _ => G144 3 (by rw [show kd pos = 12 by omega]; rfl), fun z => absurd rfl z⟩)
  have none_ : ¬ (kd pos = 9 ∨ kd pos = 4 ∨ kd pos = 11 ∨ kd pos = 12) → K41 τ 0 := by
    intro hk
    rw [if_neg hk] at h
    apply h41
    exact ⟨fun z => absurd rfl z, fun _ => bad 1 (Or.inl rfl) h⟩
  refine sB_is (K := 9) hkd T e13 e11 g (by decide) rfl (fun e => ⟨fun _ => main (Or.inl e), fun z => absurd z (by decide)⟩) (fun n9 => ⟨fun z => absurd rfl z, fun _ => ?_⟩)
  refine sB_is (K := 4) hkd T e13 e11 g (by decide) rfl (fun e => ⟨fun _ => main (Or.inr (Or.inl e)), fun z => absurd z (by decide)⟩) (fun n4 => ⟨fun z => absurd rfl z, fun _ => ?_⟩)
  refine sB_is (K := 11) hkd T e13 e11 g (by decide) rfl (fun e => ⟨fun _ => main (Or.inr (Or.inr (Or.inl e))), fun z => absurd z (by decide)⟩) (fun n11 => ⟨fun z => absurd rfl z, fun _ => ?_⟩)
  exact sB_is (K := 12) hkd T e13 e11 g (by decide) rfl (fun e => ⟨fun z => absurd z (by decide), fun _ => main (Or.inr (Or.inr (Or.inr e)))⟩) (fun n12 => ⟨fun _ => none_ (by omega), fun z => absurd rfl z⟩)
end RULEB
