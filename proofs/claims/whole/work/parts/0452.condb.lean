/-! the reference's conditions -/
def c_X (K316 : xw_M → Int32 → Int32 → Int32 → Prop) (v2 : Int32) (τ : xw_M) : Prop := xu_X12_is τ (25 : Int32) (fun r43 σ42 => ((¬ r43 = 0 → (((1 : Int32) = 0 → (K316 σ42 v2 (1 : Int32) r43)) ∧ (¬ (1 : Int32) = 0 → (xu_X12_next σ42 (fun σ44 => (K316 σ44 v2 (1 : Int32) r43)))))) ∧ (r43 = 0 → (xu_X12_is σ42 (26 : Int32) (fun r46 σ45 => ((r46 = 0 → (((0 : Int32) = 0 → (K316 σ45 v2 (0 : Int32) r43)) ∧ (¬ (0 : Int32) = 0 → (xu_X12_next σ45 (fun σ47 => (K316 σ47 v2 (0 : Int32) r43)))))) ∧ (¬ r46 = 0 → (((1 : Int32) = 0 → (K316 σ45 v2 (1 : Int32) r43)) ∧ (¬ (1 : Int32) = 0 → (xu_X12_next σ45 (fun σ48 => (K316 σ48 v2 (1 : Int32) r43))))))))))))
section COND
variable {kd pl : Nat → Nat} {va : Nat → Int32} {sd : Nat} {Z : xw_M → Prop} {K41 : xw_M → Int32 → Prop} {K73 : xw_M → Prop} {K144 : xw_M → Int32 → Int32 → Int32 → Prop} {K203 K243 K297 K301 : xw_M → Int32 → Prop} {K316 : xw_M → Int32 → Int32 → Int32 → Prop} {K372 : xw_M → Int32 → Prop} {v2 : Int32}
theorem c_316F (h316 : ∀ (σ : xw_M) (v2 : Int32) (v3 : Int32) (v4 : Int32), xb_X12_tellRule_316 K41 K73 K144 K203 K243 K297 K301 K316 K372 Z σ v2 v3 v4 → K316 σ v2 v3 v4) {τ : xw_M} {a b : Int32} (n : ¬ τ.1 0 13 = 0) (h : K372 τ v2) : K316 τ v2 a b := by
  apply h316
  exact ⟨fun _ => h, fun _ => ⟨fun _ => h, fun z => absurd z n⟩⟩
theorem c_316E (h316 : ∀ (σ : xw_M) (v2 : Int32) (v3 : Int32) (v4 : Int32), xb_X12_tellRule_316 K41 K73 K144 K203 K243 K297 K301 K316 K372 Z σ v2 v3 v4 → K316 σ v2 v3 v4) {τ : xw_M} {b : Int32} (h : K372 τ v2) : K316 τ v2 0 b := by
  apply h316
  exact ⟨fun _ => h, fun z => absurd rfl z⟩
theorem c_XF (h316 : ∀ (σ : xw_M) (v2 : Int32) (v3 : Int32) (v4 : Int32), xb_X12_tellRule_316 K41 K73 K144 K203 K243 K297 K301 K316 K372 Z σ v2 v3 v4 → K316 σ v2 v3 v4) {τ : xw_M} (n : ¬ τ.1 0 13 = 0) (h : K372 τ v2) : c_X K316 v2 τ :=
  sB_isF n ⟨fun z => absurd rfl z, fun _ => sB_isF n ⟨fun _ => ⟨fun _ => c_316E h316 h, fun z => absurd rfl z⟩, fun z => absurd rfl z⟩⟩
theorem c_rel (h316 : ∀ (σ : xw_M) (v2 : Int32) (v3 : Int32) (v4 : Int32), xb_X12_tellRule_316 K41 K73 K144 K203 K243 K297 K301 K316 K372 Z σ v2 v3 v4 → K316 σ v2 v3 v4) (hkd : ∀ j, kd j < 29) (hsd : sd ≤ 1) {τ : xw_M} {pos rl cs : Nat} {or : Bool} (G : b_G kd pl va sd τ pos rl cs) (h : pc (gr_rel kd va pos) (b_F3 pl sd rl cs τ (fun τ1 => K372 τ1 v2)) (fun q R => ∀ τ1 c1, b_f3 sd rl cs τ τ1 → b_G kd pl va sd τ1 q (rl + 1) c1 → pos < q → cs ≤ c1 → (∀ τ', b_ag sd rl cs (rl + 1) c1 τ1 τ' → tBr (τ'.1 17) (τ'.1 18) (τ'.1 19) (τ'.1 20) (τ'.1 22) (τ'.1 23) (200 * sd + rl) R ∧ τ'.1 21 (200 * sd + rl) = t_b or) → c_X K316 v2 τ1)) : K316 τ v2 1 (t_b or) := by
  apply h316
  refine ⟨fun z => absurd z (by decide), fun _ => ⟨fun z => absurd G.2.1.1 z, fun _ => ?_⟩⟩
  exact sB_rel (Z := c_X K316 v2) hkd hsd G (pc_mono h (fun k p hF τ1 f1 a1 a2 hk => c_XF h316 (b_ftn a1 hk).1 (hF τ1 f1 a1 a2 hk)) (fun q R hZ => hZ))
theorem c_ands (h316 : ∀ (σ : xw_M) (v2 : Int32) (v3 : Int32) (v4 : Int32), xb_X12_tellRule_316 K41 K73 K144 K203 K243 K297 K301 K316 K372 Z σ v2 v3 v4 → K316 σ v2 v3 v4) (hkd : ∀ j, kd j < 29) (hsd : sd ≤ 1) : ∀ (n : Nat) (τ : xw_M) (pos rl cs : Nat), b_G kd pl va sd τ pos rl cs → 400 < n + pos → pc (gr_lst kd 1 (gr_rel kd va) n pos) (b_F3 pl sd rl cs τ (fun τ1 => K372 τ1 v2)) (fun q l => ∀ τ1 r1 c1, b_f3 sd rl cs τ τ1 → b_G kd pl va sd τ1 q r1 c1 → pos ≤ q → rl ≤ r1 → cs ≤ c1 → ¬ kd q = 15 → (∀ τ', b_ag sd rl cs r1 c1 τ1 τ' → tBand (τ'.1 17) (τ'.1 18) (τ'.1 19) (τ'.1 20) (τ'.1 21) (τ'.1 22) (τ'.1 23) (200 * sd) l rl r1) → c_X K316 v2 τ1) → c_X K316 v2 τ := by
  intro n
  induction n with
  | zero =>
    intro τ pos rl cs G hn h
    have := G.2.2.2.2.1.1
    omega
  | succ n ih =>
    intro τ pos rl cs G hn h
    obtain ⟨T, ⟨e13, e11, e12, e34⟩, e16, e19, g, lc, lB, lr⟩ := id G
    have gl := g.1
    simp only [gr_lst] at h
    by_cases j : kd pos = 15
    · have j' : j_lv 1 (kd pos) = true := by simp [j_lv, j]
      rw [if_pos j', pc_bd] at h
      refine sB_is (K := 14) hkd T e13 e11 g (by decide) rfl (fun e => absurd e (by omega)) (fun _ => ⟨fun z => absurd rfl z, fun _ => ?_⟩)
      refine sB_is (K := 15) hkd T e13 e11 g (by decide) rfl (fun _ => ⟨fun z => absurd z (by decide), fun _ => ⟨fun z => absurd z (by decide), fun _ => ?_⟩⟩) (fun n15 => absurd j n15)
      refine sB_next0 T e13 e11 g (fun l τ1 f1 b13 b11 => ?_) (fun l τ1 f1 b13 b14 => ?_)
      · have hZ := pc_tk1 h rfl l
        rw [pc_bd] at hZ
        have G1 : b_G kd pl va sd τ1 (pos + 1) rl cs := ⟨b_T_f0 T f1, ⟨b13, b11, by rw [f1.2.1 12 (by decide) (by decide) (by decide)]; exact e12, by rw [f1.2.1 34 (by decide) (by decide) (by decide)]; exact e34⟩, by rw [f1.1 16 (by decide)]; exact e16, by rw [f1.2.1 19 (by decide) (by decide) (by decide)]; exact e19, gr_go_s g l (by omega), by omega, lB, by omega⟩
        refine c_rel (or := false) h316 hkd hsd G1 (pc_mono hZ (fun k p hF τ2 f2 => hF τ2 (b_f3_t (b_f3_f0 f1) f2 (Nat.le_refl _) (Nat.le_refl _))) (fun q2 R hZ2 τ2 c2 f2 G2 l2 lc2 s2 => ?_))
        rw [pc_bd] at hZ2
        have f02 : b_f3 sd rl cs τ τ2 := b_f3_t (b_f3_f0 f1) f2 (Nat.le_refl _) (Nat.le_refl _)
        refine ih τ2 q2 (rl + 1) c2 G2 (by omega) (pc_mono hZ2 (fun k p hF τ3 f3 => hF τ3 (b_f3_t f02 f3 (by omega) lc2)) (fun q3 l hZ3 τ3 r3 c3 f3 G3 l3 lr3 lc3 n15 s3 => ?_))
        refine hZ3 τ3 r3 c3 (b_f3_t f02 f3 (by omega) lc2) G3 (by omega) (by omega) (by omega) n15 (fun τ' ag => ?_)
        obtain ⟨u1, u2⟩ := s2 τ' (b_ag_f3 f3 ag lr3 lc3)
        exact ⟨u2, u1, s3 τ' (b_ag_w ag (by omega) lc2)⟩
      · exact c_316F h316 (b_ftn b13 (Or.inr rfl)).1 (pc_tk2 h rfl l τ1 (b_f3_f0 f1) b13 b14 (Or.inr rfl))
    · have j' : j_lv 1 (kd pos) = false := by simp [j_lv, j]
      rw [if_neg (by rw [j']; decide)] at h
      exact h τ rl cs b_f3_0 G (Nat.le_refl _) (Nat.le_refl _) (Nat.le_refl _) j (fun _ _ => rfl)
theorem c_all (h316 : ∀ (σ : xw_M) (v2 : Int32) (v3 : Int32) (v4 : Int32), xb_X12_tellRule_316 K41 K73 K144 K203 K243 K297 K301 K316 K372 Z σ v2 v3 v4 → K316 σ v2 v3 v4) (hkd : ∀ j, kd j < 29) (hsd : sd ≤ 1) {τ : xw_M} {pos rl cs : Nat} (G : b_G kd pl va sd τ pos rl cs) (h : pc (gr_all kd va pos) (b_F3 pl sd rl cs τ (fun τ1 => K372 τ1 v2)) (fun q l => ∀ τ1 r1 c1, b_f3 sd rl cs τ τ1 → b_G kd pl va sd τ1 q r1 c1 → pos < q → rl ≤ r1 → cs ≤ c1 → ¬ kd q = 15 → (∀ τ', b_ag sd rl cs r1 c1 τ1 τ' → tBall (τ'.1 17) (τ'.1 18) (τ'.1 19) (τ'.1 20) (τ'.1 21) (τ'.1 22) (τ'.1 23) (200 * sd) l rl r1) → c_X K316 v2 τ1)) : K316 τ v2 1 1 := by
  unfold gr_all gr_sep at h
  rw [pc_bd] at h
  refine c_rel (or := true) h316 hkd hsd G (pc_mono h (fun k p hF => hF) (fun q2 R hZ2 τ2 c2 f2 G2 l2 lc2 s2 => ?_))
  rw [pc_bd] at hZ2
  refine c_ands h316 hkd hsd 400 τ2 q2 (rl + 1) c2 G2 (by omega) (pc_mono hZ2 (fun k p hF τ3 f3 => hF τ3 (b_f3_t f2 f3 (by omega) lc2)) (fun q3 l hZ3 τ3 r3 c3 f3 G3 l3 lr3 lc3 n15 s3 => ?_))
  refine hZ3 τ3 r3 c3 (b_f3_t f2 f3 (by omega) lc2) G3 (by omega) (by omega) (by omega) n15 (fun τ' ag => ?_)
  obtain ⟨u1, u2⟩ := s2 τ' (b_ag_f3 f3 ag lr3 lc3)
  exact ⟨u2, u1, s3 τ' (b_ag_w ag (by omega) lc2)⟩
theorem c_ors (h316 : ∀ (σ : xw_M) (v2 : Int32) (v3 : Int32) (v4 : Int32), xb_X12_tellRule_316 K41 K73 K144 K203 K243 K297 K301 K316 K372 Z σ v2 v3 v4 → K316 σ v2 v3 v4) (hkd : ∀ j, kd j < 29) (hsd : sd ≤ 1) : ∀ (n : Nat) (τ : xw_M) (pos rl cs : Nat), b_G kd pl va sd τ pos rl cs → ¬ kd pos = 15 → 400 < n + pos → pc (gr_lst kd 0 (gr_all kd va) n pos) (b_F3 pl sd rl cs τ (fun τ1 => K372 τ1 v2)) (fun q l => ∀ τ1 r1 c1, b_f3 sd rl cs τ τ1 → b_G kd pl va sd τ1 q r1 c1 → pos ≤ q → rl ≤ r1 → cs ≤ c1 → (∀ τ', b_ag sd rl cs r1 c1 τ1 τ' → tBcond (τ'.1 17) (τ'.1 18) (τ'.1 19) (τ'.1 20) (τ'.1 21) (τ'.1 22) (τ'.1 23) (200 * sd) l rl r1) → K372 τ1 v2) → c_X K316 v2 τ := by
  intro n
  induction n with
  | zero =>
    intro τ pos rl cs G n15 hn h
    have := G.2.2.2.2.1.1
    omega
  | succ n ih =>
    intro τ pos rl cs G n15 hn h
    obtain ⟨T, ⟨e13, e11, e12, e34⟩, e16, e19, g, lc, lB, lr⟩ := id G
    have gl := g.1
    simp only [gr_lst] at h
    by_cases j : kd pos = 14
    · have j' : j_lv 0 (kd pos) = true := by simp [j_lv, j]
      rw [if_pos j', pc_bd] at h
      refine sB_is (K := 14) hkd T e13 e11 g (by decide) rfl (fun e => ⟨fun _ => ⟨fun z => absurd z (by decide), fun _ => ?_⟩, fun z => absurd z (by decide)⟩) (fun n14 => absurd j n14)
      refine sB_next0 T e13 e11 g (fun l τ1 f1 b13 b11 => ?_) (fun l τ1 f1 b13 b14 => ?_)
      · have hZ := pc_tk1 h rfl l
        rw [pc_bd] at hZ
        have G1 : b_G kd pl va sd τ1 (pos + 1) rl cs := ⟨b_T_f0 T f1, ⟨b13, b11, by rw [f1.2.1 12 (by decide) (by decide) (by decide)]; exact e12, by rw [f1.2.1 34 (by decide) (by decide) (by decide)]; exact e34⟩, by rw [f1.1 16 (by decide)]; exact e16, by rw [f1.2.1 19 (by decide) (by decide) (by decide)]; exact e19, gr_go_s g l (by omega), by omega, lB, by omega⟩
        refine c_all h316 hkd hsd G1 (pc_mono hZ (fun k p hF τ2 f2 => hF τ2 (b_f3_t (b_f3_f0 f1) f2 (Nat.le_refl _) (Nat.le_refl _))) (fun q2 R hZ2 τ2 r2 c2 f2 G2 l2 lr2 lc2 m15 s2 => ?_))
        rw [pc_bd] at hZ2
        have f02 : b_f3 sd rl cs τ τ2 := b_f3_t (b_f3_f0 f1) f2 (Nat.le_refl _) (Nat.le_refl _)
        refine ih τ2 q2 r2 c2 G2 m15 (by omega) (pc_mono hZ2 (fun k p hF τ3 f3 => hF τ3 (b_f3_t f02 f3 lr2 lc2)) (fun q3 l hZ3 τ3 r3 c3 f3 G3 l3 lr3 lc3 s3 => ?_))
        refine hZ3 τ3 r3 c3 (b_f3_t f02 f3 lr2 lc2) G3 (by omega) (by omega) (by omega) (fun τ' ag => ?_)
        exact ⟨r2, s2 τ' (b_ag_f3 f3 ag lr3 lc3), s3 τ' (b_ag_w ag lr2 lc2)⟩
      · exact c_316F h316 (b_ftn b13 (Or.inr rfl)).1 (pc_tk2 h rfl l τ1 (b_f3_f0 f1) b13 b14 (Or.inr rfl))
    · have j' : j_lv 0 (kd pos) = false := by simp [j_lv, j]
      rw [if_neg (by rw [j']; decide)] at h
      refine sB_is (K := 14) hkd T e13 e11 g (by decide) rfl (fun e => absurd e j) (fun _ => ⟨fun z => absurd rfl z, fun _ => ?_⟩)
      refine sB_is (K := 15) hkd T e13 e11 g (by decide) rfl (fun e => absurd e n15) (fun _ => ⟨fun _ => ⟨fun _ => ?_, fun z => absurd rfl z⟩, fun z => absurd rfl z⟩)
      exact c_316E h316 (h τ rl cs b_f3_0 G (Nat.le_refl _) (Nat.le_refl _) (Nat.le_refl _) (fun _ _ => rfl))
theorem c_cond (h316 : ∀ (σ : xw_M) (v2 : Int32) (v3 : Int32) (v4 : Int32), xb_X12_tellRule_316 K41 K73 K144 K203 K243 K297 K301 K316 K372 Z σ v2 v3 v4 → K316 σ v2 v3 v4) (hkd : ∀ j, kd j < 29) (hsd : sd ≤ 1) {τ : xw_M} {pos rl cs : Nat} (G : b_G kd pl va sd τ pos rl cs) (h : pc (gr_cond kd va pos) (b_F3 pl sd rl cs τ (fun τ1 => K372 τ1 v2)) (fun q l => ∀ τ1 r1 c1, b_f3 sd rl cs τ τ1 → b_G kd pl va sd τ1 q r1 c1 → pos < q → rl ≤ r1 → cs ≤ c1 → (∀ τ', b_ag sd rl cs r1 c1 τ1 τ' → tBcond (τ'.1 17) (τ'.1 18) (τ'.1 19) (τ'.1 20) (τ'.1 21) (τ'.1 22) (τ'.1 23) (200 * sd) l rl r1) → K372 τ1 v2)) : K316 τ v2 1 1 := by
  unfold gr_cond gr_sep at h
  rw [pc_bd] at h
  refine c_all h316 hkd hsd G (pc_mono h (fun k p hF => hF) (fun q2 R hZ2 τ2 r2 c2 f2 G2 l2 lr2 lc2 m15 s2 => ?_))
  rw [pc_bd] at hZ2
  refine c_ors h316 hkd hsd 400 τ2 q2 r2 c2 G2 m15 (by omega) (pc_mono hZ2 (fun k p hF τ3 f3 => hF τ3 (b_f3_t f2 f3 lr2 lc2)) (fun q3 l hZ3 τ3 r3 c3 f3 G3 l3 lr3 lc3 s3 => ?_))
  refine hZ3 τ3 r3 c3 (b_f3_t f2 f3 lr2 lc2) G3 (by omega) (by omega) (by omega) (fun τ' ag => ?_)
  exact ⟨r2, s2 τ' (b_ag_f3 f3 ag lr3 lc3), s3 τ' (b_ag_w ag lr2 lc2)⟩
end COND
