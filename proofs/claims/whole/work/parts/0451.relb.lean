/-! the reference's relations and conditions -/
def b_f0 (τ τ1 : xw_M) : Prop := (∀ x, x ≠ 0 → τ1.1 x = τ.1 x) ∧ (∀ j, j ≠ 11 → j ≠ 13 → j ≠ 14 → τ1.1 0 j = τ.1 0 j) ∧ τ1.2 = τ.2
/-- the relations from rl on and the codes from cs on, of a side, may change -/
def b_f3 (sd rl cs : Nat) (τ τ1 : xw_M) : Prop := (∀ x, x ≠ 0 → x < 16 ∨ 24 < x → τ1.1 x = τ.1 x) ∧ (∀ j, j ≠ 11 → j ≠ 12 → j ≠ 13 → j ≠ 14 → j ≠ 34 → j ≠ 38 → τ1.1 0 j = τ.1 0 j) ∧ (∀ j, j ≠ sd → τ1.1 16 j = τ.1 16 j) ∧ (∀ x, 17 ≤ x → x ≤ 21 → ∀ j, j < 200 * sd + rl ∨ 200 * sd + 200 ≤ j → τ1.1 x j = τ.1 x j) ∧ (∀ x, 22 ≤ x → x ≤ 23 → ∀ j, j < cs ∨ 500 * sd + 500 ≤ j → τ1.1 x j = τ.1 x j) ∧ τ1.2 = τ.2
theorem b_f3_0 {sd rl cs : Nat} {τ : xw_M} : b_f3 sd rl cs τ τ := ⟨fun _ _ _ => rfl, fun _ _ _ _ _ _ _ => rfl, fun _ _ => rfl, fun _ _ _ _ _ => rfl, fun _ _ _ _ _ => rfl, rfl⟩
theorem b_f3_t {sd rl cs rl' cs' : Nat} {a b c : xw_M} (h1 : b_f3 sd rl cs a b) (h2 : b_f3 sd rl' cs' b c) (l1 : rl ≤ rl') (l2 : cs ≤ cs') : b_f3 sd rl cs a c := ⟨fun x x0 x1 => (h2.1 x x0 x1).trans (h1.1 x x0 x1), fun j j1 j2 j3 j4 j5 j6 => (h2.2.1 j j1 j2 j3 j4 j5 j6).trans (h1.2.1 j j1 j2 j3 j4 j5 j6), fun j hj => (h2.2.2.1 j hj).trans (h1.2.2.1 j hj), fun x x1 x2 j hj => (h2.2.2.2.1 x x1 x2 j (by omega)).trans (h1.2.2.2.1 x x1 x2 j hj), fun x x1 x2 j hj => (h2.2.2.2.2.1 x x1 x2 j (by omega)).trans (h1.2.2.2.2.1 x x1 x2 j hj), h2.2.2.2.2.2.trans h1.2.2.2.2.2⟩
theorem b_f3_x {sd rl cs : Nat} {τ τ1 : xw_M} (h : b_fx (500 * sd + 500) cs τ τ1) : b_f3 sd rl cs τ τ1 := ⟨fun x x0 x1 => h.1 x x0 (by omega) (by omega) (by omega), h.2.1, fun j _ => by rw [h.1 16 (by decide) (by decide) (by decide) (by decide)], fun x x1 x2 j _ => by rw [h.1 x (by omega) (by omega) (by omega) (by omega)], fun x x1 x2 j hj => by
  rcases (show x = 22 ∨ x = 23 by omega) with e | e
  · rw [e]; exact (h.2.2.1 j hj).1
  · rw [e]; exact (h.2.2.1 j hj).2, h.2.2.2⟩
theorem b_fx_f0 {L cs : Nat} {τ τ1 : xw_M} (h : b_f0 τ τ1) : b_fx L cs τ τ1 := ⟨fun x x0 _ _ _ => h.1 x x0, fun j j1 _ j3 j4 _ _ => h.2.1 j j1 j3 j4, fun j _ => ⟨by rw [h.1 22 (by decide)], by rw [h.1 23 (by decide)]⟩, h.2.2⟩
theorem b_f3_f0 {sd rl cs : Nat} {τ τ1 : xw_M} (h : b_f0 τ τ1) : b_f3 sd rl cs τ τ1 := b_f3_x (b_fx_f0 h)
theorem b_T_f3 {sd rl cs : Nat} {τ τ1 : xw_M} {kd pl : Nat → Nat} {va : Nat → Int32} (h : b_T τ kd pl va) (f : b_f3 sd rl cs τ τ1) : b_T τ1 kd pl va := by
  unfold b_T
  rw [f.1 3 (by decide) (by decide), f.1 4 (by decide) (by decide), f.1 5 (by decide) (by decide)]
  exact h
theorem b_T_f0 {τ τ1 : xw_M} {kd pl : Nat → Nat} {va : Nat → Int32} (h : b_T τ kd pl va) (f : b_f0 τ τ1) : b_T τ1 kd pl va := b_T_f3 (sd := 0) (rl := 0) (cs := 0) h (b_f3_f0 f)
theorem sB_next0 {kd pl : Nat → Nat} {va : Nat → Int32} {τ : xw_M} {pos : Nat} {Z : xw_M → Prop} (T : b_T τ kd pl va) (e13 : τ.1 0 13 = 0) (e11 : τ.1 0 11 = nI pos) (g : gr_go kd pos) (h1 : pos < 400 → ∀ τ1, b_f0 τ τ1 → τ1.1 0 13 = 0 → τ1.1 0 11 = nI (pos + 1) → Z τ1) (h0 : ¬ pos < 400 → ∀ τ1, b_f0 τ τ1 → τ1.1 0 13 = nI 2 → τ1.1 0 14 = nI (pl pos) → Z τ1) : xu_X12_next τ Z :=
  sB_next (L := 0) (cs := 0) T e13 e11 g (fun l => h1 l _ ⟨fun x x0 => xw_ne x0, fun j j1 _ _ => xw_nj j1, rfl⟩ (by rw [xw_nj (by decide)]; exact e13) xw_eq) (fun l τ1 f1 a1 a2 o1 o2 => h0 l τ1 ⟨o1, fun j _ j2 j3 => o2 j j2 j3, f1.2.2.2⟩ a1 a2)
theorem sB_nextF0 {τ : xw_M} {Z : xw_M → Prop} (n : ¬ τ.1 0 13 ≤ 0) (h : ∀ τ1, b_f0 τ τ1 → τ1.1 0 13 = τ.1 0 13 → τ1.1 0 14 = τ.1 0 14 → Z τ1) : xu_X12_next τ Z := by
  refine ⟨fun _ τ1 e1 => ?_, fun _ => sB_failF n (h τ ⟨fun _ _ => rfl, fun _ _ _ _ => rfl, rfl⟩ rfl rfl)⟩
  rw [e1]
  exact h _ ⟨fun x x0 => xw_ne x0, fun j j1 _ _ => xw_nj j1, rfl⟩ (xw_nj (by decide)) (xw_nj (by decide))
theorem sB_must {kd pl : Nat → Nat} {va : Nat → Int32} {τ : xw_M} {pos K : Nat} {a : Int32} {Z : xw_M → Prop} (hkd : ∀ j, kd j < 29) (T : b_T τ kd pl va) (e13 : τ.1 0 13 = 0) (e11 : τ.1 0 11 = nI pos) (g : gr_go kd pos) (hK : K < 27) (ha : a = nI (b_kd K)) (h : pc (gr_tk kd K pos) (fun k p => ∀ τ1, b_f0 τ τ1 → τ1.1 0 13 = nI k → τ1.1 0 14 = nI (pl p) → (k = 1 ∨ k = 2) → Z τ1) (fun q _ => q = pos + 1 → gr_go kd q → ∀ τ1, b_f0 τ τ1 → τ1.1 0 13 = 0 → τ1.1 0 11 = nI q → Z τ1)) : xu_X12_must τ a Z := by
  refine sB_is hkd T e13 e11 g (by omega) ha (fun e => ⟨fun z => absurd z (by decide), fun _ => ?_⟩) (fun n => ⟨fun _ => ?_, fun z => absurd rfl z⟩)
  · exact sB_next0 T e13 e11 g (fun l τ1 f1 a1 a2 => pc_tk1 h e l rfl (gr_go_s g l (by omega)) τ1 f1 a1 a2) (fun l τ1 f1 a1 a2 => pc_tk2 h e l τ1 f1 a1 a2 (Or.inr rfl))
  · exact sB_fail (k := 1) (L := 0) (cs := 0) T e13 e11 g (fun τ1 f1 a1 a2 o1 o2 => pc_tk0 h n τ1 ⟨o1, fun j _ j2 j3 => o2 j j2 j3, f1.2.2.2⟩ a1 a2 (Or.inl rfl))
theorem sB_mustF {τ : xw_M} {a : Int32} {Z : xw_M → Prop} (n : ¬ τ.1 0 13 = 0 ∧ ¬ τ.1 0 13 ≤ 0) (h : Z τ) : xu_X12_must τ a Z := sB_isF n.1 ⟨fun _ => sB_failF n.2 h, fun z => absurd rfl z⟩
theorem sB_numb {kd pl : Nat → Nat} {va : Nat → Int32} {τ : xw_M} {pos : Nat} {Z : Int32 → xw_M → Prop} (hkd : ∀ j, kd j < 29) (T : b_T τ kd pl va) (e13 : τ.1 0 13 = 0) (e11 : τ.1 0 11 = nI pos) (g : gr_go kd pos) (h : pc (gr_int kd va pos) (fun k p => ∀ v τ1, b_f0 τ τ1 → τ1.1 0 13 = nI k → τ1.1 0 14 = nI (pl p) → (k = 1 ∨ k = 2) → Z v τ1) (fun q v => q = pos + 1 → gr_go kd q → ∀ τ1, b_f0 τ τ1 → τ1.1 0 13 = 0 → τ1.1 0 11 = nI q → Z v τ1)) : xu_X12_number τ Z := by
  have gl := g.1
  unfold gr_int at h
  rw [pc_bd] at h
  refine sB_is (K := 16) hkd T e13 e11 g (by decide) rfl (fun e => ⟨fun z => absurd z (by decide), fun _ => ?_⟩) (fun n => ⟨fun _ => ?_, fun z => absurd rfl z⟩)
  · rw [e11, nI_clamp (n := pos) (by omega), (T pos g).2.2 e]
    exact ⟨vp_in_nI (by omega) (by decide), sB_must (K := 16) hkd T e13 e11 g (by decide) rfl (pc_mono h (fun k p hF => hF _) (fun q _ hZ => hZ))⟩
  · exact sB_must (K := 16) hkd T e13 e11 g (by decide) rfl (by
      unfold gr_tk
      rw [if_neg n]
      exact pc_tk0 h n 0)
theorem sB_numbF {τ : xw_M} {Z : Int32 → xw_M → Prop} (n : ¬ τ.1 0 13 = 0 ∧ ¬ τ.1 0 13 ≤ 0) (h : ∀ v, Z v τ) : xu_X12_number τ Z := sB_isF n.1 ⟨fun _ => sB_mustF n (h 0), fun z => absurd rfl z⟩
theorem sB_exprF {L cs : Nat} {τ : xw_M} {Z : xw_M → Prop} (n : ¬ τ.1 0 13 = 0) (h : ∀ τ1, b_fx L cs τ τ1 → τ1.1 0 13 = τ.1 0 13 → τ1.1 0 14 = τ.1 0 14 → Z τ1) : xu_X12_expression τ Z := by
  intro K12 K46 K132 K150 K200 K249 K281 K329 h12 _ _ _ _ _ _ _ τ1 h1
  have a1 : τ1.1 0 13 = τ.1 0 13 := by rw [h1, xw_nj (by decide)]
  apply h12
  refine ⟨fun z => absurd z (by decide), fun _ => ⟨fun _ => h τ1 (by rw [h1]; exact b_fx_i (by omega)) a1 (by rw [h1, xw_nj (by decide)]), fun z => absurd z (by rw [a1]; exact n)⟩⟩
theorem b_nr {k : Nat} {v : Int32} (h : b_k1 k v) (hk : k < 29) (n : ¬ (21 ≤ k ∧ k ≤ 24)) : ∃ m, m < 36 ∧ v = nI m ∧ (m < 11 ∨ 14 < m) := by
  by_cases q : k = 28
  · rcases h.2 q with z | z
    · exact ⟨1, by decide, z, Or.inl (by decide)⟩
    · exact ⟨3, by decide, z, Or.inl (by decide)⟩
  · have l := b_kd_lt k (by omega)
    refine ⟨b_kd k, l, h.1 q, ?_⟩
    unfold b_kd
    repeat' split
    all_goals omega
def b_ag (sd r0 c0 r1 c1 : Nat) (τ τ' : xw_M) : Prop := (∀ x, 17 ≤ x → x ≤ 21 → ∀ j, 200 * sd + r0 ≤ j → j < 200 * sd + r1 → τ'.1 x j = τ.1 x j) ∧ ∀ x, 22 ≤ x → x ≤ 23 → ∀ j, c0 ≤ j → j < c1 → τ'.1 x j = τ.1 x j
theorem b_ag_f3 {sd r0 c0 r1 c1 r2 c2 : Nat} {τ τ1 τ' : xw_M} (f : b_f3 sd r1 c1 τ τ1) (h : b_ag sd r0 c0 r2 c2 τ1 τ') (l1 : r1 ≤ r2) (l2 : c1 ≤ c2) : b_ag sd r0 c0 r1 c1 τ τ' := ⟨fun x x1 x2 j j1 j2 => (h.1 x x1 x2 j j1 (by omega)).trans (f.2.2.2.1 x x1 x2 j (Or.inl j2)), fun x x1 x2 j j1 j2 => (h.2 x x1 x2 j j1 (by omega)).trans (f.2.2.2.2.1 x x1 x2 j (Or.inl j2))⟩
theorem b_ag_w {sd r0 c0 r1 c1 r2 c2 : Nat} {τ τ' : xw_M} (h : b_ag sd r0 c0 r2 c2 τ τ') (l1 : r0 ≤ r1) (l2 : c0 ≤ c1) : b_ag sd r1 c1 r2 c2 τ τ' := ⟨fun x x1 x2 j j1 j2 => h.1 x x1 x2 j (by omega) j2, fun x x1 x2 j j1 j2 => h.2 x x1 x2 j (by omega) j2⟩
/-- the reference reads on at the token pos, with so many relations and codes -/
def b_G (kd pl : Nat → Nat) (va : Nat → Int32) (sd : Nat) (τ : xw_M) (pos rl cs : Nat) : Prop := b_T τ kd pl va ∧ (τ.1 0 13 = 0 ∧ τ.1 0 11 = nI pos ∧ τ.1 0 12 = 0 ∧ τ.1 0 34 = nI cs) ∧ τ.1 16 sd = nI rl ∧ τ.1 0 19 = nI sd ∧ gr_go kd pos ∧ cs ≤ 500 * sd + pos ∧ 500 * sd ≤ cs ∧ 2 * rl ≤ pos
def b_F3 (pl : Nat → Nat) (sd rl cs : Nat) (τ : xw_M) (Z : xw_M → Prop) (k p : Nat) : Prop := ∀ τ1, b_f3 sd rl cs τ τ1 → τ1.1 0 13 = nI k → τ1.1 0 14 = nI (pl p) → (k = 1 ∨ k = 2) → Z τ1
theorem nar_b (b : Bool) : vp_nar .boolean (t_b b) = t_b b := by cases b <;> rfl
theorem sB_rel {kd pl : Nat → Nat} {va : Nat → Int32} {sd : Nat} {τ : xw_M} {pos rl cs : Nat} {or : Bool} {Z : xw_M → Prop} (hkd : ∀ j, kd j < 29) (hsd : sd ≤ 1) (G : b_G kd pl va sd τ pos rl cs) (h : pc (gr_rel kd va pos) (b_F3 pl sd rl cs τ Z) (fun q R => ∀ τ1 c1, b_f3 sd rl cs τ τ1 → b_G kd pl va sd τ1 q (rl + 1) c1 → pos < q → cs ≤ c1 → (∀ τ', b_ag sd rl cs (rl + 1) c1 τ1 τ' → tBr (τ'.1 17) (τ'.1 18) (τ'.1 19) (τ'.1 20) (τ'.1 22) (τ'.1 23) (200 * sd + rl) R ∧ τ'.1 21 (200 * sd + rl) = t_b or) → Z τ1)) : xu_X12_relation τ (t_b or) Z := by
  obtain ⟨T, ⟨e13, e11, e12, e34⟩, e16, e19, g, lc, lB, lr⟩ := id G
  have gl := g.1
  intro K32 K54 h32 h54
  have F54 : ∀ (τ1 : xw_M) (k p : Nat), b_f3 sd rl cs τ τ1 → τ1.1 0 13 = nI k → τ1.1 0 14 = nI (pl p) → (k = 1 ∨ k = 2) → b_F3 pl sd rl cs τ Z k p → ∀ a b, K54 τ1 a b := by
    intro τ1 k p f1 a1 a2 hk hF a b
    have n := b_ftn a1 hk
    apply h54
    refine sB_nextF0 n.2 (fun τ2 f2 b1 b2 => ?_)
    have n2 := b_ftn (b1.trans a1) hk
    refine sB_exprF (L := 500 * sd + 500) (cs := cs) n2.1 (fun τ3 f3 d1 d2 => ?_)
    have n3 := b_ftn (d1.trans (b1.trans a1)) hk
    refine ⟨fun z => absurd z n3.2, fun _ => ?_⟩
    exact hF τ3 (b_f3_t (b_f3_t f1 (b_f3_f0 f2) (Nat.le_refl _) (Nat.le_refl _)) (b_f3_x f3) (Nat.le_refl _) (Nat.le_refl _)) (d1.trans (b1.trans a1)) (d2.trans (b2.trans a2)) hk
  unfold gr_rel at h
  rw [pc_bd] at h
  unfold xb_X12_relation_e
  rw [e34]
  refine sB_expr (L := 500 * sd + 500) (B := 500 * sd) hkd rfl (by omega) T e13 e11 e12 e34 g lc (pc_mono h (fun k p hF τ1 f1 a1 a2 hk => ?_) (fun q f hZ τ1 c1 f1 d13 d11 d12 d34 gq lq lcq tq => ?_))
  · have n := b_ftn a1 hk
    refine ⟨fun z => absurd z n.2, fun _ => ?_⟩
    apply h32
    exact ⟨fun _ => F54 τ1 k p (b_f3_x f1) a1 a2 hk hF _ _, fun z => absurd z n.1⟩
  · have T1 := b_T_fx T f1
    have gq1 := gq.1
    have hq := hkd q
    have kt := (T1 q gq).1
    have lt := tB_lt tq
    rw [d13, d11, nI_clamp (n := q) (by omega)]
    refine ⟨fun _ => ⟨vp_in_nI (by omega) (by decide), ?_⟩, fun z => absurd (by decide) z⟩
    apply h32
    unfold xb_X12_relation_32
    rw [d13]
    refine ⟨fun z => absurd rfl z, fun _ => ?_⟩
    by_cases j : j_lv 2 (kd q) = true
    · rw [if_pos j, pc_bd] at hZ
      have jr : 21 ≤ kd q ∧ kd q ≤ 24 := by simpa [j_lv] using j
      have kv : τ1.1 3 q - (11 : Int32) = nI (kd q - 21) := by
        rw [kt.1 (by omega), show b_kd (kd q) = kd q - 10 by unfold b_kd; rw [if_neg (by omega), if_neg (by omega), if_neg (by omega), if_neg (by omega), if_pos (by omega)], show (11 : Int32) = nI 11 from rfl, pk_sub (by omega)]
        congr 1
      rw [kv]
      refine ⟨fun z => absurd z (nI_pos (by omega)), fun _ => ⟨fun _ => ?_, fun z => absurd (nI_le (b := 3) (by omega) (by decide)) z⟩⟩
      apply h54
      refine sB_next0 T1 d13 d11 gq (fun l τ2 f2 b13 b11 => ?_) (fun l τ2 f2 b13 b14 => ?_)
      · have hZ2 := pc_tk1 hZ rfl l
        rw [pc_bd] at hZ2
        have b34 : τ2.1 0 34 = nI c1 := by rw [f2.2.1 34 (by decide) (by decide) (by decide)]; exact d34
        have b12 : τ2.1 0 12 = 0 := by rw [f2.2.1 12 (by decide) (by decide) (by decide)]; exact d12
        have f02 : b_f3 sd rl cs τ τ2 := b_f3_t (b_f3_x f1) (b_f3_f0 f2) (Nat.le_refl _) (Nat.le_refl _)
        refine sB_expr (L := 500 * sd + 500) (B := 500 * sd) hkd rfl (by omega) (b_T_f0 T1 f2) b13 b11 b12 b34 (gr_go_s gq l (by omega)) (by omega) (pc_mono hZ2 (fun k p hF τ3 f3 a1 a2 hk => ?_) (fun q3 gg hZ3 τ3 c3 f3 y13 y11 y12 y34 g3 l3 lc3 t3 => ?_))
        · have n := b_ftn a1 hk
          exact ⟨fun z => absurd z n.2, fun _ => hF τ3 (b_f3_t f02 (b_f3_x f3) (Nat.le_refl _) (by omega)) a1 a2 hk⟩
        · have g31 := g3.1
          have lt3 := tB_lt t3
          have f03 : b_f3 sd rl cs τ τ3 := b_f3_t f02 (b_f3_x f3) (Nat.le_refl _) (by omega)
          have y19 : τ3.1 0 19 = nI sd := by rw [f03.2.1 19 (by decide) (by decide) (by decide) (by decide) (by decide) (by decide)]; exact e19
          have y16 : τ3.1 16 sd = nI rl := by rw [f3.1 16 (by decide) (by decide) (by decide) (by decide), f2.1 16 (by decide), f1.1 16 (by decide) (by decide) (by decide) (by decide)]; exact e16
          have cs1 : (nI sd).toNatClampNeg = sd := nI_clamp (by omega)
          have vs : vp_in (nI sd) 2 := vp_in_nI (by omega) (by decide)
          have ex : (200 : Int32) * nI sd + nI rl = nI (200 * sd + rl) := by rw [show (200 : Int32) = nI 200 from rfl, pk_mul, nI_add]
          have vx : vp_in (nI (200 * sd + rl)) 400 := vp_in_nI (by omega) (by decide)
          have cx : (nI (200 * sd + rl)).toNatClampNeg = 200 * sd + rl := nI_clamp (by omega)
          rw [y13, y19, cs1, y16, ex, b34]
          refine ⟨fun _ => ⟨vs, fun x6 e6 => ?_⟩, fun z => absurd (by decide) z⟩
          subst e6
          rw [cx]
          refine ⟨vx, fun τ7 h7 => ⟨vx, fun τ8 h8 => ⟨vx, fun τ9 h9 => ⟨vx, fun τ10 h10 => ⟨vx, fun τ11 h11 => ?_⟩⟩⟩⟩⟩
          have z34 : τ9.1 0 34 = nI c3 := by rw [h9, xw_ne (by decide), h8, xw_ne (by decide), h7, xw_ne (by decide)]; exact y34
          have z19 : τ11.1 0 19 = nI sd := by rw [h11, xw_ne (by decide), h10, xw_ne (by decide), h9, xw_ne (by decide), h8, xw_ne (by decide), h7, xw_ne (by decide)]; exact y19
          have z16 : τ11.1 16 sd = nI rl := by rw [h11, xw_ne (by decide), h10, xw_ne (by decide), h9, xw_ne (by decide), h8, xw_ne (by decide), h7, xw_ne (by decide)]; exact y16
          rw [z19, cs1, z16, nI_1]
          refine ⟨vs, vs, fun τ12 h12 => ?_⟩
          rw [z34] at h10
          rw [nar_b] at h11
          have o : ∀ x, x ≠ 16 → x ≠ 17 → x ≠ 18 → x ≠ 19 → x ≠ 20 → x ≠ 21 → τ12.1 x = τ3.1 x := by
            intro x x0 x1 x2 x3 x4 x5
            rw [h12, xw_ne x0, h11, xw_ne x5, h10, xw_ne x4, h9, xw_ne x3, h8, xw_ne x2, h7, xw_ne x1]
          have oj : ∀ x, 17 ≤ x → x ≤ 21 → ∀ j, j ≠ 200 * sd + rl → τ12.1 x j = τ3.1 x j := by
            intro x x1 x2 j hj
            rw [h12, xw_ne (show x ≠ 16 by omega), h11, xw_oj hj, h10, xw_oj hj, h9, xw_oj hj, h8, xw_oj hj, h7, xw_oj hj]
          have w17 : τ12.1 17 (200 * sd + rl) = nI (kd q - 21) := by rw [h12, xw_ne (by decide), h11, xw_ne (by decide), h10, xw_ne (by decide), h9, xw_ne (by decide), h8, xw_ne (by decide), h7, xw_eq]
          have w18 : τ12.1 18 (200 * sd + rl) = nI cs := by rw [h12, xw_ne (by decide), h11, xw_ne (by decide), h10, xw_ne (by decide), h9, xw_ne (by decide), h8, xw_eq]
          have w19 : τ12.1 19 (200 * sd + rl) = nI c1 := by rw [h12, xw_ne (by decide), h11, xw_ne (by decide), h10, xw_ne (by decide), h9, xw_eq]
          have w20 : τ12.1 20 (200 * sd + rl) = nI c3 := by rw [h12, xw_ne (by decide), h11, xw_ne (by decide), h10, xw_eq]
          have w21 : τ12.1 21 (200 * sd + rl) = t_b or := by rw [h12, xw_ne (by decide), h11, xw_eq]
          have w0 : τ12.1 0 = τ3.1 0 := o 0 (by decide) (by decide) (by decide) (by decide) (by decide) (by decide)
          have f12 : b_f3 sd rl cs τ3 τ12 := by
            refine ⟨fun x x0 x1 => o x (by omega) (by omega) (by omega) (by omega) (by omega) (by omega), fun j _ _ _ _ _ _ => by rw [w0], fun j hj => ?_, fun x x1 x2 j hj => oj x x1 x2 j (by omega), fun x x1 x2 j _ => by rw [o x (by omega) (by omega) (by omega) (by omega) (by omega) (by omega)], ?_⟩
            · rw [h12, xw_nj hj, h11, xw_ne (by decide), h10, xw_ne (by decide), h9, xw_ne (by decide), h8, xw_ne (by decide), h7, xw_ne (by decide)]
            · rw [h12, h11, h10, h9, h8, h7]; rfl
          have f012 : b_f3 sd rl cs τ τ12 := b_f3_t f03 f12 (Nat.le_refl _) (Nat.le_refl _)
          refine hZ3 τ12 c3 f012 ⟨b_T_f3 T f012, ⟨by rw [w0]; exact y13, by rw [w0]; exact y11, by rw [w0]; exact y12, by rw [w0]; exact y34⟩, by rw [h12, xw_eq], by rw [w0]; exact y19, g3, lc3, by omega, by omega⟩ (by omega) (by omega) (fun τ' ag => ?_)
          have a7 : ∀ x, 17 ≤ x → x ≤ 21 → τ'.1 x (200 * sd + rl) = τ12.1 x (200 * sd + rl) := fun x x1 x2 => ag.1 x x1 x2 _ (by omega) (by omega)
          have a22 : τ12.1 22 = τ3.1 22 := o 22 (by decide) (by decide) (by decide) (by decide) (by decide) (by decide)
          have a23 : τ12.1 23 = τ3.1 23 := o 23 (by decide) (by decide) (by decide) (by decide) (by decide) (by decide)
          refine ⟨⟨kd q - 21, cs, c1, c3, f, gg, by omega, (a7 17 (by decide) (by decide)).trans w17, (a7 18 (by decide) (by decide)).trans w18, (a7 19 (by decide) (by decide)).trans w19, (a7 20 (by decide) (by decide)).trans w20, by omega, by omega, tB_c tq (fun x x1 x2 => ⟨?_, ?_⟩), tB_c t3 (fun x x1 x2 => ⟨?_, ?_⟩), rfl⟩, (a7 21 (by decide) (by decide)).trans w21⟩
          · rw [ag.2 22 (by decide) (by decide) x x1 (by omega), a22, (f3.2.2.1 x (Or.inl x2)).1, f2.1 22 (by decide)]
          · rw [ag.2 23 (by decide) (by decide) x x1 (by omega), a23, (f3.2.2.1 x (Or.inl x2)).2, f2.1 23 (by decide)]
          · rw [ag.2 22 (by decide) (by decide) x (by omega) x2, a22]
          · rw [ag.2 23 (by decide) (by decide) x (by omega) x2, a23]
      · exact sB_exprF (L := 500 * sd + 500) (cs := cs) (b_ftn b13 (Or.inr rfl)).1 (fun τ3 f3 d1 d2 => ⟨fun z => absurd z (b_ftn (d1.trans b13) (Or.inr rfl)).2, fun _ => pc_tk2 hZ rfl l τ3 (b_f3_t (b_f3_t (b_f3_x f1) (b_f3_f0 f2) (Nat.le_refl _) (Nat.le_refl _)) (b_f3_x f3) (Nat.le_refl _) (Nat.le_refl _)) (d1.trans b13) (d2.trans b14) (Or.inr rfl)⟩)
    · rw [if_neg j] at hZ
      have nj : ¬ (21 ≤ kd q ∧ kd q ≤ 24) := fun y => j (by simp [j_lv]; exact y)
      obtain ⟨m, m1, m2, m3⟩ := b_nr kt hq nj
      rw [m2]
      have fl : ∀ a b, xu_X12_fail τ1 1 (fun σ2 => K54 σ2 a b) := fun a b => sB_fail (k := 1) (L := 500 * sd + 500) (cs := cs) T1 d13 d11 gq (fun τ2 f2 a1 a2 o1 o2 => F54 τ2 1 q (b_f3_t (b_f3_x f1) (b_f3_x f2) (Nat.le_refl _) (Nat.le_refl _)) a1 a2 (Or.inl rfl) hZ _ _)
      refine ⟨fun _ => fl _ _, fun z => ⟨fun z2 => ?_, fun _ => fl _ _⟩⟩
      exfalso
      rcases m3 with y | y
      · exact z (pk_sneg (b := 11) (by decide) y)
      · rw [show (11 : Int32) = nI 11 from rfl, pk_sub (by omega)] at z2
        have := (nI_leI (b := 3) (by omega) (by decide)).mp z2
        omega
