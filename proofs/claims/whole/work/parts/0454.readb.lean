/-! the reference's read; read of both -/
theorem b_byt (v : Int32) : vp_nar .byte v &&& 255 = v &&& 255 := by
  rw [vp_nar_byte, pk_and _ 8 (by decide), pk_and _ 8 (by decide)]
  congr 1
  have e : v.toInt8.toInt32.toBitVec = BitVec.signExtend 32 (BitVec.signExtend 8 v.toBitVec) := by rw [Int8.toBitVec_toInt32, Int32.toBitVec_toInt8]
  rw [e, BitVec.toNat_signExtend, BitVec.toNat_setWidth, BitVec.toNat_signExtend, BitVec.toNat_setWidth]
  have := v.toBitVec.isLt
  split <;> split <;> omega
section TEXTB
variable {kd pl : Nat → Nat} {va : Nat → Int32} {sd : Nat}
theorem sB_text {K10 : xw_M → Int32 → Prop} {K107 : xw_M → Prop} {K145 : xw_M → Int32 → Prop} {Z : Int32 → xw_M → Prop} (hkd : ∀ j, kd j < 29) (hsd : sd ≤ 1) (hK : ∀ (σ : xw_M), xb_X12_read_107 K10 K107 K145 Z σ → K107 σ) : ∀ (n nr pos rl cs : Nat) (τ : xw_M) (F : Nat → tU), n + nr = 17 → nr ≤ 16 → b_G kd pl va sd τ pos rl cs → τ.1 8 sd = nI nr → (∀ r, r < nr → ∀ τ', b_pr sd nr rl cs τ τ' → uBt τ' sd (F r) (16 * sd + r)) → pc (gr_text kd va n nr pos F) (b_FQ pl sd nr rl cs τ (fun τ1 => K145 τ1 (τ1.1 0 14))) (fun _ x => ∀ τ1 r1 c1, b_fy sd nr rl cs τ τ1 → τ1.1 0 13 = 0 → τ1.1 8 sd = nI x.1 → x.1 ≤ 16 → r1 ≤ 200 → c1 ≤ 500 * sd + 500 → (∀ r, r < x.1 → ∀ τ', b_pr sd x.1 r1 c1 τ1 τ' → uBt τ' sd (x.2 r) (16 * sd + r)) → K145 τ1 (-1)) → K107 τ := by
  intro n
  induction n with
  | zero => intro nr pos rl cs τ F h1 h2; omega
  | succ n ih =>
    intro nr pos rl cs τ F h1 h2 G e8 hU h
    obtain ⟨T, ⟨e13, e11, e12, e34⟩, e16, e19, g, lc, lB, lr⟩ := id G
    have gl := g.1
    simp only [gr_text] at h
    apply hK
    refine ⟨fun z => absurd e13 z, fun _ => sB_is (K := 27) hkd T e13 e11 g (by decide) rfl (fun e27 => ⟨fun _ => ⟨fun _ => ?_, fun z => absurd (by rw [e13]; decide) z⟩, fun z => absurd z (by decide)⟩) (fun n27 => ⟨fun z => absurd rfl z, fun _ => ?_⟩)⟩
    · rw [if_pos e27] at h
      exact h τ rl cs b_fy_0 e13 e8 h2 (by omega) (by omega) hU
    · rw [if_neg n27, pc_bd] at h
      have hr16 : ∀ x, gr_rule kd va nr pos = .inr x → nr < 16 := by
        intro x hx
        unfold gr_rule at hx
        split at hx
        · split at hx
          · assumption
          · cases hx
        · cases hx
      refine sB_rule hkd hsd G e8 h2 ?_
      cases hr : gr_rule kd va nr pos with
      | inl e =>
        rw [hr] at h
        intro τ1 f1 a1 a2 hk
        have hz : K145 τ1 (τ1.1 0 14) := h τ1 f1 a1 a2 hk
        apply hK
        exact ⟨fun _ => ⟨fun z => absurd z (b_ftn a1 hk).2, fun _ => hz⟩, fun z => absurd z (b_ftn a1 hk).1⟩
      | inr x =>
        have l16 := hr16 x hr
        rw [hr] at h
        intro τ1 r1 c1 f1 G1 g8 lq lr1 lc1 su
        have h' : pc (gr_text kd va n (nr + 1) x.1 (fun r => if r = nr then x.2 else F r)) (b_FQ pl sd nr rl cs τ (fun τ1 => K145 τ1 (τ1.1 0 14))) (fun _ x => ∀ τ1 r1 c1, b_fy sd nr rl cs τ τ1 → τ1.1 0 13 = 0 → τ1.1 8 sd = nI x.1 → x.1 ≤ 16 → r1 ≤ 200 → c1 ≤ 500 * sd + 500 → (∀ r, r < x.1 → ∀ τ', b_pr sd x.1 r1 c1 τ1 τ' → uBt τ' sd (x.2 r) (16 * sd + r)) → K145 τ1 (-1)) := h
        refine ih (nr + 1) x.1 r1 c1 τ1 _ (by omega) (by omega) G1 g8 (fun r hr' τ' pr => ?_) (pc_mono h' (fun k p hF τ2 f2 => hF τ2 (b_fy_t f1 f2 (by omega) lr1 lc1)) (fun q y hZ τ2 r2 c2 f2 => hZ τ2 r2 c2 (b_fy_t f1 f2 (by omega) lr1 lc1)))
        by_cases e : r = nr
        · subst e
          rw [if_pos rfl]
          exact su τ' pr
        · rw [if_neg e]
          refine hU r (by omega) τ' ⟨fun y y1 y2 j j1 j2 => ?_, fun y y1 y2 j j1 j2 => ?_, fun y y1 y2 j j1 j2 => ?_⟩
          · rw [pr.1 y y1 y2 j j1 (by omega), f1.2.2.2.1 y y1 y2 j (Or.inl j2)]
          · rw [pr.2.1 y y1 y2 j j1 (by omega), f1.2.2.2.2.1 y y1 y2 j (Or.inl j2)]
          · rw [pr.2.2 y y1 y2 j j1 (by omega), f1.2.2.2.2.2.1 y y1 y2 j (Or.inl j2)]
end TEXTB
def r_fB (live : Nat) (τ τ1 : xw_M) : Prop := (∀ x, 24 < x → τ1.1 x = τ.1 x) ∧ (∀ j, 38 < j → τ1.1 0 j = τ.1 0 j) ∧ tSd live τ τ1 ∧ τ1.2 7 = τ.2 7
theorem qB_read {τ : xw_M} {c : Nat → Nat} {n live : Nat} {Z : Int32 → xw_M → Prop} (t1 : τ.1 0 2 = nI n) (t2 : n ≤ 2000) (t3 : ∀ j, j < n → τ.1 1 j &&& 255 = nI (c j) ∧ c j < 256) (hl : τ.1 0 18 = nI live) (hl1 : live ≤ 1) (hk7 : τ.2 7 = t_keys) (h : pc (gr_text (k_kd c n) (k_va c n) 17 0 0 gr_U0) (fun k p => ∀ τ1, r_fB live τ τ1 → τ1.1 0 2 = 0 → τ1.1 0 17 = nI (k_st c n p) → τ1.1 0 18 = nI live → (k = 1 ∨ k = 2) → Z (nI k) τ1) (fun _ x => ∀ τ1, r_fB live τ τ1 → τ1.1 0 2 = 0 → τ1.1 0 17 = -1 → τ1.1 0 18 = nI (1 - live) → (∀ τ', tSd (1 - live) τ1 τ' → TB τ' (1 - live) x.1 x.2) → Z 0 τ1)) : xu_X12_read τ Z := by
  intro K10 K107 K145 h10 h107 h145 τa ea
  rw [t1] at ea
  have fa : ∀ x, x ≠ 0 → τa.1 x = τ.1 x := fun x x0 => by rw [ea, xw_ne x0]
  have fa0 : ∀ j, j ≠ 4 → τa.1 0 j = τ.1 0 j := fun j hj => by rw [ea, xw_nj hj]
  have a4 : τa.1 0 4 = nI n := by rw [ea, xw_eq]
  have a2 : τa.2 = τ.2 := by rw [ea]; rfl
  have key : ∀ (d i : Nat) (τ' : xw_M), i + d = n → (∀ x, x ≠ 2 → τ'.1 x = τa.1 x) → τ'.2 = τa.2 → (∀ j, j < i → τ'.1 2 j &&& 255 = nI (c j)) → K10 τ' (nI i) := by
    intro d
    induction d with
    | succ d ih =>
      intro i τ' hi f f2 ht
      apply h10
      unfold xb_X12_read_10
      have e4 : τ'.1 0 4 = nI n := by rw [f 0 (by decide)]; exact a4
      rw [e4, nI_clamp (n := i) (by omega)]
      refine ⟨fun z => absurd z (nI_ge (by omega) (by omega)), fun _ => ⟨vp_in_nI (by omega) (by decide), vp_in_nI (by omega) (by decide), fun τ2 h2 => ?_⟩⟩
      rw [nI_1]
      refine ih (i + 1) τ2 (by omega) (fun x hx => by rw [h2, xw_ne hx, f x hx]) (by rw [h2]; exact f2) (fun j hj => ?_)
      by_cases e : j = i
      · subst e
        rw [h2, xw_eq, b_byt, f 1 (by decide), fa 1 (by decide)]
        exact (t3 j (by omega)).1
      · rw [h2, xw_nj e]
        exact ht j (by omega)
    | zero =>
      intro i τ' hi f f2 ht
      obtain rfl : i = n := by omega
      apply h10
      unfold xb_X12_read_10
      have e4 : τ'.1 0 4 = nI i := by rw [f 0 (by decide)]; exact a4
      rw [e4]
      refine ⟨fun _ τ2 h2 => ?_, fun z => absurd (nI_le (Nat.le_refl i) (by omega)) z⟩
      have T2 : b_tp τ2 c i := ⟨by rw [h2, xw_nj (by decide)]; exact e4, t2, fun j hj => ⟨by rw [h2, xw_ne (by decide)]; exact ht j hj, (t3 j hj).2⟩⟩
      have k2 : τ2.2 7 = t_keys := by
        have : τ2.2 = τ.2 := by rw [h2]; exact f2.trans a2
        rw [this]; exact hk7
      refine sB_cut T2 k2 (fun τ3 sz sc => ?_)
      obtain ⟨z1, z2, z3, z4, fr⟩ := sc
      intro τ4 h4 τ5 h5 τ6 h6 τ7 h7 τ8 h8
      obtain ⟨sd, hsd⟩ : ∃ sd, sd = 1 - live := ⟨_, rfl⟩
      have sd1 : sd ≤ 1 := by omega
      have o0 : ∀ j, j ≠ 2 → j ≠ 4 → j ≠ 10 → τ3.1 0 j = τ.1 0 j := fun j j1 j2 j3 => by rw [fr.2.1 j j3, h2, xw_nj j1, f 0 (by decide), fa0 j j2]
      have v18 : τ7.1 0 18 = nI live := by rw [h7, xw_nj (by decide), h6, xw_nj (by decide), h5, xw_nj (by decide), h4, xw_nj (by decide), o0 18 (by decide) (by decide) (by decide)]; exact hl
      have es : (1 : Int32) - nI live = nI sd := by rw [show (1 : Int32) = nI 1 from rfl, pk_sub hl1, hsd]
      rw [v18, es] at h8
      have v19 : τ8.1 0 19 = nI sd := by rw [h8, xw_eq]
      have csd : (nI sd).toNatClampNeg = sd := nI_clamp (by omega)
      have vsd : vp_in (nI sd) 2 := vp_in_nI (by omega) (by decide)
      rw [v19, csd]
      refine ⟨vsd, fun τ9 h9 => ?_⟩
      have v19' : τ9.1 0 19 = nI sd := by rw [h9, xw_ne (by decide)]; exact v19
      rw [v19', csd]
      refine ⟨vsd, fun τ10 h10' τ11 h11 => ?_⟩
      have v19'' : τ10.1 0 19 = nI sd := by rw [h10', xw_ne (by decide)]; exact v19'
      rw [v19'', show (500 : Int32) * nI sd = nI (500 * sd) by rw [show (500 : Int32) = nI 500 from rfl, pk_mul]] at h11
      have q0 : ∀ j, j ≠ 2 → j ≠ 4 → j ≠ 10 → j ≠ 11 → j ≠ 12 → j ≠ 13 → j ≠ 15 → j ≠ 19 → j ≠ 34 → τ11.1 0 j = τ.1 0 j := fun j j1 j2 j3 j4 j5 j6 j7 j8 j9 => by
        rw [h11, xw_nj j9, h10', xw_ne (by decide), h9, xw_ne (by decide), h8, xw_nj j8, h7, xw_nj j7, h6, xw_nj j6, h5, xw_nj j5, h4, xw_nj j4, o0 j j1 j2 j3]
      have q : ∀ x, x ≠ 0 → x ≠ 8 → x ≠ 16 → τ11.1 x = τ3.1 x := fun x x0 x1 x2 => by
        rw [h11, xw_ne x0, h10', xw_ne x2, h9, xw_ne x1, h8, xw_ne x0, h7, xw_ne x0, h6, xw_ne x0, h5, xw_ne x0, h4, xw_ne x0]
      have q3 : ∀ x, x ≠ 0 → x ≠ 2 → x ≠ 3 → x ≠ 4 → x ≠ 5 → τ3.1 x = τ.1 x := fun x x0 x1 x2 x3 x4 => by
        rw [fr.1 x x0 x2 x3 x4, h2, xw_ne x0, f x x1, fa x x0]
      have w13 : τ11.1 0 13 = 0 := by rw [h11, xw_nj (by decide), h10', xw_ne (by decide), h9, xw_ne (by decide), h8, xw_nj (by decide), h7, xw_nj (by decide), h6, xw_eq]
      have w12 : τ11.1 0 12 = 0 := by rw [h11, xw_nj (by decide), h10', xw_ne (by decide), h9, xw_ne (by decide), h8, xw_nj (by decide), h7, xw_nj (by decide), h6, xw_nj (by decide), h5, xw_eq]
      have w11 : τ11.1 0 11 = nI 0 := by rw [h11, xw_nj (by decide), h10', xw_ne (by decide), h9, xw_ne (by decide), h8, xw_nj (by decide), h7, xw_nj (by decide), h6, xw_nj (by decide), h5, xw_nj (by decide), h4, xw_eq]; rfl
      have w34 : τ11.1 0 34 = nI (500 * sd) := by rw [h11, xw_eq]
      have w19 : τ11.1 0 19 = nI sd := by rw [h11, xw_nj (by decide)]; exact v19''
      have w2 : τ11.1 0 2 = 0 := by rw [h11, xw_nj (by decide), h10', xw_ne (by decide), h9, xw_ne (by decide), h8, xw_nj (by decide), h7, xw_nj (by decide), h6, xw_nj (by decide), h5, xw_nj (by decide), h4, xw_nj (by decide), fr.2.1 2 (by decide), h2, xw_eq]
      have w8 : τ11.1 8 sd = nI 0 := by rw [h11, xw_ne (by decide), h10', xw_ne (by decide), h9, xw_eq]; rfl
      have w16 : τ11.1 16 sd = nI 0 := by rw [h11, xw_ne (by decide), h10', xw_eq]; rfl
      have w8' : τ11.1 8 live = τ.1 8 live := by rw [h11, xw_ne (by decide), h10', xw_ne (by decide), h9, xw_nj (by omega), h8, xw_ne (by decide), h7, xw_ne (by decide), h6, xw_ne (by decide), h5, xw_ne (by decide), h4, xw_ne (by decide), q3 8 (by decide) (by decide) (by decide) (by decide) (by decide)]
      have k11 : τ11.2 7 = τ.2 7 := by
        rw [h11, h10', h9, h8, h7, h6, h5, h4]
        show τ3.2 7 = τ.2 7
        rw [fr.2.2, h2]
        show τ'.2 7 = τ.2 7
        rw [f2, a2]
      have T11 : b_T τ11 (k_kd c i) (k_st c i) (k_va c i) := by
        intro pos gp
        have l : pos < sz := by
          rcases z4 with e | e
          · have := gp.1; omega
          · exact Nat.not_le.mp fun y => (gp.2 (sz - 1) (by omega)).1 e
        rw [q 3 (by decide) (by decide) (by decide), q 4 (by decide) (by decide) (by decide), q 5 (by decide) (by decide) (by decide)]
        exact z3 pos l
      have G11 : b_G (k_kd c i) (k_st c i) (k_va c i) sd τ11 0 0 (500 * sd) := ⟨T11, ⟨w13, w11, w12, w34⟩, w16, w19, ⟨by decide, fun j hj => absurd hj (by omega)⟩, by omega, by omega, by omega⟩
      have side : ∀ τx, b_fy sd 0 0 (500 * sd) τ11 τx → r_fB live τ τx ∧ τx.1 0 2 = 0 ∧ τx.1 0 18 = nI live ∧ τx.1 0 19 = nI sd := by
        intro τx fy
        refine ⟨⟨fun x hx => ?_, fun j hj => ?_, ⟨?_, fun x x1 x2 j j1 j2 => ?_, fun x x1 x2 j j1 j2 => ?_, fun x x1 x2 j j1 j2 => ?_⟩, ?_⟩, ?_, ?_, ?_⟩
        · rw [fy.1 x (by omega) (Or.inr hx), q x (by omega) (by omega) (by omega), q3 x (by omega) (by omega) (by omega) (by omega) (by omega)]
        · rw [fy.2.1 j (by omega) (by omega) (by omega) (by omega) (by omega) (by omega), q0 j (by omega) (by omega) (by omega) (by omega) (by omega) (by omega) (by omega) (by omega) (by omega)]
        · rw [(fy.2.2.1 live (by omega)).1, w8']
        · rw [fy.2.2.2.1 x x1 x2 j (by omega), q x (by omega) (by omega) (by omega), q3 x (by omega) (by omega) (by omega) (by omega) (by omega)]
        · rw [fy.2.2.2.2.1 x x1 x2 j (by omega), q x (by omega) (by omega) (by omega), q3 x (by omega) (by omega) (by omega) (by omega) (by omega)]
        · rw [fy.2.2.2.2.2.1 x x1 x2 j (by omega), q x (by omega) (by omega) (by omega), q3 x (by omega) (by omega) (by omega) (by omega) (by omega)]
        · rw [fy.2.2.2.2.2.2]; exact k11
        · rw [fy.2.1 2 (by decide) (by decide) (by decide) (by decide) (by decide) (by decide)]; exact w2
        · rw [fy.2.1 18 (by decide) (by decide) (by decide) (by decide) (by decide) (by decide), q0 18 (by decide) (by decide) (by decide) (by decide) (by decide) (by decide) (by decide) (by decide) (by decide)]; exact hl
        · rw [fy.2.1 19 (by decide) (by decide) (by decide) (by decide) (by decide) (by decide)]; exact w19
      have wr : ∀ (τx : xw_M) (j : Nat) (v : Int32), j < 38 → r_fB live τ τx → r_fB live τ (xw_i τx 0 j v) := by
        intro τx j v hj r
        refine ⟨fun x hx => by rw [xw_ne (by omega)]; exact r.1 x hx, fun y hy => by rw [xw_nj (by omega)]; exact r.2.1 y hy, ⟨by rw [xw_ne (by decide)]; exact r.2.2.1.1, fun x x1 x2 y y1 y2 => by rw [xw_ne (by omega)]; exact r.2.2.1.2.1 x x1 x2 y y1 y2, fun x x1 x2 y y1 y2 => by rw [xw_ne (by omega)]; exact r.2.2.1.2.2.1 x x1 x2 y y1 y2, fun x x1 x2 y y1 y2 => by rw [xw_ne (by omega)]; exact r.2.2.1.2.2.2 x x1 x2 y y1 y2⟩, r.2.2.2⟩
      refine sB_text k_kd_lt sd1 h107 17 0 0 0 (500 * sd) τ11 gr_U0 rfl (by decide) G11 w8 (fun r hr => absurd hr (by omega)) (pc_mono h (fun k p hF τ12 fy a1 a2 hk => ?_) (fun _ x hZ τ12 r1 c1 fy a13 a8 l16 l200 lc su => ?_))
      · obtain ⟨s1, s2, s3, s4⟩ := side τ12 fy
        apply h145
        intro τ13 h13
        have b13 : τ13.1 0 13 = nI k := by rw [h13, xw_nj (by decide)]; exact a1
        rw [b13]
        have nk : ¬ nI k ≤ 0 := by rcases hk with e | e <;> rw [e] <;> decide
        refine ⟨fun z => absurd z nk, fun _ => hF τ13 (by rw [h13]; exact wr τ12 17 _ (by decide) s1) ?_ ?_ ?_ hk⟩
        · rw [h13, xw_nj (by decide)]; exact s2
        · rw [h13, xw_eq]; exact a2
        · rw [h13, xw_nj (by decide)]; exact s3
      · obtain ⟨s1, s2, s3, s4⟩ := side τ12 fy
        apply h145
        intro τ13 h13
        have b13 : τ13.1 0 13 = 0 := by rw [h13, xw_nj (by decide)]; exact a13
        have b19 : τ13.1 0 19 = nI sd := by rw [h13, xw_nj (by decide)]; exact s4
        rw [b13, b19]
        refine ⟨fun _ τ14 h14 => hZ τ14 ?_ ?_ ?_ ?_ (fun τ' sdx => ?_), fun z => absurd (by decide) z⟩
        · rw [h14, h13]; exact wr _ 18 _ (by decide) (wr τ12 17 _ (by decide) s1)
        · rw [h14, xw_nj (by decide), h13, xw_nj (by decide)]; exact s2
        · rw [h14, xw_nj (by decide), h13, xw_eq]
        · rw [h14, xw_eq, hsd]
        · rw [← hsd] at sdx ⊢
          have p : ∀ x, x ≠ 0 → τ14.1 x = τ12.1 x := fun x x0 => by rw [h14, xw_ne x0, h13, xw_ne x0]
          refine ⟨sd1, by rw [sdx.1, p 8 (by decide)]; exact a8, fun r hr => su r hr τ' ⟨fun y y1 y2 j j1 j2 => ?_, fun y y1 y2 j j1 j2 => ?_, fun y y1 y2 j j1 j2 => ?_⟩⟩
          · rw [sdx.2.1 y y1 y2 j j1 (by omega), p y (by omega)]
          · rw [sdx.2.2.1 y y1 y2 j j1 (by omega), p y (by omega)]
          · rw [sdx.2.2.2 y y1 y2 j j1 (by omega), p y (by omega)]
  exact key n 0 τa (by omega) (fun _ _ => rfl) rfl (fun j hj => absurd hj (by omega))
theorem tSd_t {live : Nat} {a b c : xw_M} (h1 : tSd live a b) (h2 : tSd live b c) : tSd live a c := ⟨h2.1.trans h1.1, fun x x1 x2 j j1 j2 => (h2.2.1 x x1 x2 j j1 j2).trans (h1.2.1 x x1 x2 j j1 j2), fun x x1 x2 j j1 j2 => (h2.2.2.1 x x1 x2 j j1 j2).trans (h1.2.2.1 x x1 x2 j j1 j2), fun x x1 x2 j j1 j2 => (h2.2.2.2 x x1 x2 j j1 j2).trans (h1.2.2.2 x x1 x2 j j1 j2)⟩
theorem s_read : ∀ σ τ, r_R tX σ τ → xu_X11_read σ (fun r σ1 => xu_X12_read τ (fun r2 τ1 => r = r2 ∧ r_R tX σ1 τ1)) := by
  intro σ τ hR
  obtain ⟨nt, nb, nd, ns, nf, ⟨q1, q2, q3, q4⟩, h2, h3, h4, h5, h6, h7, h8, h9, h10, k7, live, nr, sz, F, t1, t2, t3⟩ := hR
  have hl1 := (t3 τ tSd_0).1
  obtain ⟨c, hc⟩ : ∃ c : Nat → Nat, c = fun j => (σ.1 24 j).toBitVec.toNat % 2 ^ 8 := ⟨_, rfl⟩
  have cA : ∀ j, σ.1 24 j &&& 255 = nI (c j) ∧ c j < 256 := by
    intro j
    rw [hc]
    exact ⟨pk_and _ 8 (by decide), Nat.mod_lt _ (by decide)⟩
  have HA : a_tp σ c nt := ⟨q2, q1, fun j _ => cA j⟩
  have HB : ∀ j, j < nt → τ.1 1 j &&& 255 = nI (c j) ∧ c j < 256 := fun j hj => by rw [← q4 j hj]; exact cA j
  have mk : ∀ σ1 τ1, r_fA σ σ1 → r_fB live τ τ1 → σ1.1 1 1 = 0 → τ1.1 0 2 = 0 → σ1.1 0 11 = τ1.1 0 17 → tX σ1 τ1 → r_R tX σ1 τ1 := by
    intro σ1 τ1 fA fB z1 z2 z3 hX
    obtain ⟨b1, b0, _, _⟩ := fB
    obtain ⟨a1, a0⟩ := fA
    refine ⟨0, nb, nd, ns, nf, ⟨by decide, z1, z2, fun j hj => absurd hj (by omega)⟩, ?_, ?_, ?_, z3, ?_, ?_, ?_, ?_, ?_, hX⟩
    · rw [a1 28 (by omega), b1 25 (by omega)]; exact h2
    · rw [a1 29 (by omega), b1 26 (by omega)]; exact h3
    · rw [a0 10 (by decide), b0 41 (by decide)]; exact h4
    · rw [a1 4 (by omega), b0 42 (by decide), a1 30 (by omega), a1 31 (by omega), a1 32 (by omega), a1 33 (by omega), b1 27 (by omega), b1 28 (by omega), b1 29 (by omega), b1 30 (by omega)]; exact h6
    · rw [a1 4 (by omega), b0 47 (by decide), a1 34 (by omega), a1 35 (by omega), a1 36 (by omega), a1 37 (by omega), a1 38 (by omega), b1 31 (by omega), b1 32 (by omega), b1 33 (by omega), b1 34 (by omega), b1 35 (by omega)]; exact h7
    · rw [a0 9 (by decide), b0 53 (by decide), b1 36 (by omega), b1 37 (by omega)]
      exact r_shows_c h8 (fun i hi => a1 _ (by omega))
    · rw [a1 5 (by omega), b0 56 (by decide), a1 39 (by omega), a1 40 (by omega), a1 41 (by omega), a1 42 (by omega), a1 43 (by omega), b1 38 (by omega), b1 39 (by omega), b1 40 (by omega), b1 41 (by omega)]; exact h9
    · rw [b1 44 (by omega), b1 45 (by omega), b1 46 (by omega), b1 47 (by omega)]
      exact r_plan_c h10 (fun i hi => a1 _ (by omega))
  refine qA_read HA ?_
  cases hr : gr_text (k_kd c nt) (k_va c nt) 17 0 0 gr_U0 with
  | inl e =>
    intro σ1 fA tx z1 z3 hk
    refine qB_read q3 q1 HB t2 hl1 k7 ?_
    rw [hr]
    intro τ1 fB y2 y17 y18 _
    refine ⟨rfl, mk σ1 τ1 fA fB z1 y2 (z3.trans y17.symm) ⟨fB.2.2.2.trans k7, live, nr, sz, F, TA_c t1 (fun c hc => tx c (by omega)), y18, fun τ2 s2 => t3 τ2 (tSd_t fB.2.2.1 s2)⟩⟩
  | inr x =>
    intro σ1 s1 fA z1 z3 hTA
    refine qB_read q3 q1 HB t2 hl1 k7 ?_
    rw [hr]
    intro τ1 fB y2 y17 y18 hTB
    exact ⟨rfl, mk σ1 τ1 fA fB z1 y2 (z3.trans y17.symm) ⟨fB.2.2.2.trans k7, 1 - live, x.2.1, s1, x.2.2, hTA, y18, hTB⟩⟩
