/-! the reference's expressions: units -/
def b_st (τ : xw_M) (pos op cs : Nat) (W : List Nat) : Prop := τ.1 0 13 = 0 ∧ τ.1 0 11 = nI pos ∧ τ.1 0 12 = nI op ∧ τ.1 0 34 = nI cs ∧ τ.1 0 38 = nI W.length ∧ b_sk (τ.1 24) W
/-- with P still to come out, the codes from cs up to c1 say f -/
def b_pd (co ci : Nat → Int32) (cs c1 : Nat) (P : List Nat) (f : tF) : Prop := ∀ co' ci', (∀ j, cs ≤ j → j < c1 → co' j = co j ∧ ci' j = ci j) → b_lay co' c1 P → tB co' ci' cs (c1 + P.length) f
theorem b_pop_len {a : Bool} : ∀ {S : List Nat}, (b_pop a S).1.length + (b_pop a S).2.length = S.length
  | [] => rfl
  | w :: l => by
    simp only [b_pop]
    split
    · simp
    · have := b_pop_len (a := a) (S := l)
      simp only [List.length_cons]
      omega
theorem sB_out {a : Bool} {a1 : Int32} {τ : xw_M} {S : List Nat} {cs : Nat} {Z : xw_M → Prop} (ha : a1 = if a then 1 else 0) (hk : b_sk (τ.1 24) S) (hl : S.length ≤ 48) (e38 : τ.1 0 38 = nI S.length) (e34 : τ.1 0 34 = nI cs) (hc : cs + S.length ≤ 1000) (h : ∀ τ1, b_co τ τ1 cs (b_pop a S).1 → τ1.1 0 38 = nI (b_pop a S).2.length → Z τ1) : xu_X12_comesOut τ a1 Z := fun _ _ h0 h43 => sB_come ha h0 h43 S τ cs hk hl e38 e34 hc h
theorem b_push {τ : xw_M} {W : List Nat} {w : Nat} {v : Int32} {Z : xw_M → Prop} (e38 : τ.1 0 38 = nI W.length) (hk : b_sk (τ.1 24) W) (hw : w = 6 ∨ w = 8 ∨ w = 9 ∨ w = 10) (hv : v = nI w) (hl : W.length < 48) (h : ∀ τ1, (∀ x, x ≠ 0 → x ≠ 24 → τ1.1 x = τ.1 x) → (∀ j, j ≠ 38 → τ1.1 0 j = τ.1 0 j) → τ1.1 0 38 = nI (w :: W).length → b_sk (τ1.1 24) (w :: W) → τ1.2 = τ.2 → Z τ1) : vp_in (τ.1 0 38) 48 ∧ ∀ σ7, σ7 = xw_i τ 24 (Int32.toNatClampNeg (τ.1 0 38)) v → ∀ σ8, σ8 = xw_i σ7 0 38 ((σ7.1 0 38) + (1 : Int32)) → Z σ8 := by
  rw [e38, nI_clamp (n := W.length) (by omega)]
  refine ⟨vp_in_nI hl (by decide), fun τ1 e1 τ2 e2 => ?_⟩
  have k1 : τ1.1 0 38 = nI W.length := by rw [e1, xw_ne (by decide)]; exact e38
  rw [k1, nI_1] at e2
  refine h τ2 (fun x x0 x1 => ?_) (fun j hj => ?_) ?_ ⟨?_, hw, b_sk_c hk (fun j hj => ?_)⟩ ?_
  · rw [e2, xw_ne x0, e1, xw_ne x1]
  · rw [e2, xw_nj hj, e1, xw_ne (by decide)]
  · rw [e2, xw_eq, List.length_cons]
  · rw [e2, xw_ne (by decide), e1, xw_eq, hv]
  · rw [e2, xw_ne (by decide), e1, xw_nj (by omega)]
  · rw [e2, e1]; rfl
def x_cl (Z : xw_M → Prop) (K12 K46 K132 K150 : xw_M → Int32 → Int32 → Prop) (K200 K249 : xw_M → Int32 → Prop) (K281 : xw_M → Int32 → Int32 → Prop) (K329 : xw_M → Int32 → Int32 → Int32 → Int32 → Prop) : Prop := (∀ (σ : xw_M) (v1 : Int32) (v2 : Int32), xb_X12_expression_12 K12 K46 K132 K150 K200 K249 K281 K329 Z σ v1 v2 → K12 σ v1 v2) ∧ (∀ (σ : xw_M) (v1 : Int32) (v2 : Int32), xb_X12_expression_46 K12 K46 K132 K150 K200 K249 K281 K329 Z σ v1 v2 → K46 σ v1 v2) ∧ (∀ (σ : xw_M) (s0 : Int32) (v1 : Int32), xb_X12_expression_132 K12 K46 K132 K150 K200 K249 K281 K329 Z σ s0 v1 → K132 σ s0 v1) ∧ (∀ (σ : xw_M) (v1 : Int32) (v3 : Int32), xb_X12_expression_150 K12 K46 K132 K150 K200 K249 K281 K329 Z σ v1 v3 → K150 σ v1 v3) ∧ (∀ (σ : xw_M) (v1 : Int32), xb_X12_expression_200 K12 K46 K132 K150 K200 K249 K281 K329 Z σ v1 → K200 σ v1) ∧ (∀ (σ : xw_M) (v1 : Int32), xb_X12_expression_249 K12 K46 K132 K150 K200 K249 K281 K329 Z σ v1 → K249 σ v1) ∧ (∀ (σ : xw_M) (s0 : Int32) (v1 : Int32), xb_X12_expression_281 K12 K46 K132 K150 K200 K249 K281 K329 Z σ s0 v1 → K281 σ s0 v1) ∧ (∀ (σ : xw_M) (s0 : Int32) (v1 : Int32) (v2 : Int32) (v4 : Int32), xb_X12_expression_329 K12 K46 K132 K150 K200 K249 K281 K329 Z σ s0 v1 v2 v4 → K329 σ s0 v1 v2 v4)
def b_OK (kd pl : Nat → Nat) (va : Nat → Int32) (L B : Nat) (K12 : xw_M → Int32 → Int32 → Prop) (K200 : xw_M → Int32 → Prop) (Z : xw_M → Prop) (op ex : Nat) (hd PP : List Nat → Prop) (sp : Nat → Prop) (r : Nat → pR tF) : Prop := ∀ τ pos cs W, b_T τ kd pl va → b_st τ pos op cs W → gr_go kd pos → W.length ≤ 3 * op + ex → cs + W.length ≤ B + pos → hd W → pc (r pos) (b_Fl pl L cs τ Z) (fun q f => ∀ τ1 c1 P, b_fx L cs τ τ1 → b_st τ1 q op c1 (P ++ W) → gr_go kd q → pos < q → PP P → sp (kd q) → c1 + P.length + W.length ≤ B + q → cs ≤ c1 → b_pd (τ1.1 22) (τ1.1 23) cs c1 P f → K200 τ1 0) → K12 τ 0 1
def hdE (W : List Nat) : Prop := W = [] ∨ ∃ l, W = 6 :: l
def ppE (P : List Nat) : Prop := P.length ≤ 2 ∧ ∀ w, w ∈ P → w = 8 ∨ w = 9 ∨ w = 10
def spE (k : Nat) : Prop := ¬ (k = 18 ∨ k = 19 ∨ k = 20)
def hdP (W : List Nat) : Prop := W = [] ∨ ∃ w l, W = w :: l ∧ (w = 6 ∨ w = 8 ∨ w = 9)
def ppP (T : List Nat) : Prop := T = [] ∨ T = [10]
def spP (k : Nat) : Prop := ¬ k = 20
section EXPR
variable {kd pl : Nat → Nat} {va : Nat → Int32} {L B : Nat} {Z : xw_M → Prop} {K12 K46 K132 K150 : xw_M → Int32 → Int32 → Prop} {K200 K249 : xw_M → Int32 → Prop} {K281 : xw_M → Int32 → Int32 → Prop} {K329 : xw_M → Int32 → Int32 → Int32 → Int32 → Prop}
theorem sB_12F (X : x_cl Z K12 K46 K132 K150 K200 K249 K281 K329) {τ : xw_M} {v1 : Int32} (n : ¬ τ.1 0 13 = 0) (h : Z τ) : K12 τ v1 1 := by
  apply X.1
  exact ⟨fun z => absurd z (by decide), fun _ => ⟨fun _ => h, fun z => absurd z n⟩⟩
theorem sB_200F (X : x_cl Z K12 K46 K132 K150 K200 K249 K281 K329) {τ0 τ : xw_M} {cs c1 k p : Nat} {S : List Nat} (f : b_fx L cs τ0 τ) (e13 : τ.1 0 13 = nI k) (e14 : τ.1 0 14 = nI (pl p)) (hk : k = 1 ∨ k = 2) (sk : b_sk (τ.1 24) S) (hl : S.length ≤ 48) (e38 : τ.1 0 38 = nI S.length) (e34 : τ.1 0 34 = nI c1) (hc : c1 + S.length ≤ 1000) (hc2 : c1 + S.length ≤ L) (lc : cs ≤ c1) (h : b_Fl pl L cs τ0 Z k p) : K200 τ 0 := by
  have n := b_ftn e13 hk
  have out : xu_X12_comesOut τ 0 Z := by
    refine sB_out (a := false) rfl sk hl e38 e34 hc (fun τ1 co1 _ => ?_)
    have := b_pop_len (a := false) (S := S)
    refine h τ1 (b_fx_t f (b_fx_co co1 lc (by omega)) (Nat.le_refl _)) ?_ ?_ hk
    · rw [co1.2.1 13 (by decide) (by decide)]; exact e13
    · rw [co1.2.1 14 (by decide) (by decide)]; exact e14
  have k281 : K281 τ 0 0 := by
    apply X.2.2.2.2.2.2.1
    exact ⟨fun z => absurd rfl z, fun _ => ⟨fun _ => out, fun _ => sB_failF n.2 out⟩⟩
  apply X.2.2.2.2.1
  refine sB_isF n.1 ⟨fun _ => ?_, fun z => absurd rfl z⟩
  apply X.2.2.2.2.2.1
  exact sB_isF n.1 ⟨fun z => absurd rfl z, fun _ => sB_isF n.1 ⟨fun z => absurd rfl z, fun _ => sB_isF n.1 ⟨fun _ => k281, fun z => absurd rfl z⟩⟩⟩
theorem sB_249 (X : x_cl Z K12 K46 K132 K150 K200 K249 K281 K329) {τ : xw_M} {pos : Nat} {v1 : Int32} (hkd : ∀ j, kd j < 29) (T : b_T τ kd pl va) (e13 : τ.1 0 13 = 0) (e11 : τ.1 0 11 = nI pos) (g : gr_go kd pos) (h1 : (kd pos = 18 ∨ kd pos = 19 ∨ kd pos = 20) → K281 τ 1 v1) (h0 : ¬ (kd pos = 18 ∨ kd pos = 19 ∨ kd pos = 20) → K281 τ 0 v1) : K249 τ v1 := by
  apply X.2.2.2.2.2.1
  refine sB_is (K := 18) hkd T e13 e11 g (by decide) rfl (fun e => ⟨fun _ => h1 (Or.inl e), fun z => absurd z (by decide)⟩) (fun n1 => ⟨fun z => absurd rfl z, fun _ => ?_⟩)
  refine sB_is (K := 19) hkd T e13 e11 g (by decide) rfl (fun e => ⟨fun _ => h1 (Or.inr (Or.inl e)), fun z => absurd z (by decide)⟩) (fun n2 => ⟨fun z => absurd rfl z, fun _ => ?_⟩)
  refine sB_is (K := 20) hkd T e13 e11 g (by decide) rfl (fun e => ⟨fun z => absurd z (by decide), fun _ => h1 (Or.inr (Or.inr e))⟩) (fun n3 => ⟨fun _ => h0 (by omega), fun z => absurd rfl z⟩)
theorem sB_unit (X : x_cl Z K12 K46 K132 K150 K200 K249 K281 K329) (hkd : ∀ j, kd j < 29) (hL : L = B + 500) (hB : B ≤ 500) {op : Nat} {P : Option (Nat → pR tF)} (hP : (P = none ∧ op = 6) ∨ ∃ e, P = some e ∧ op < 6 ∧ b_OK kd pl va L B K12 K200 Z (op + 1) 0 hdE ppE spE e) : b_OK kd pl va L B K12 K200 Z op 2 (fun _ => True) (fun P => P = []) (fun _ => True) (gr_unit kd va P) := by
  intro τ pos cs W T st g lW lc _ h
  obtain ⟨e13, e11, e12, e34, e38, sk⟩ := id st
  have gl := g.1
  have hp := hkd pos
  have op6 : op ≤ 6 := by
    rcases hP with q | ⟨_, _, q, _⟩ <;> omega
  have cp : (nI pos).toNatClampNeg = pos := nI_clamp (by omega)
  have vp : vp_in (nI pos) 403 := vp_in_nI (by omega) (by decide)
  have kt := (T pos g).1
  unfold gr_unit at h
  apply X.1
  refine ⟨fun z => absurd z (by decide), fun _ => ⟨fun z => absurd e13 z, fun _ => sB_is (K := 25) hkd T e13 e11 g (by decide) rfl (fun e25 => ?_) (fun n25 => ?_)⟩⟩
  · rw [if_neg (by omega), if_neg (by omega), if_pos e25] at h
    refine ⟨fun z => absurd z (by decide), fun _ => ?_⟩
    rw [e12]
    rcases hP with ⟨rfl, rfl⟩ | ⟨e, rfl, ho, OKe⟩
    · refine ⟨fun z => absurd rfl z, fun _ => sB_fail (k := 2) (L := L) (cs := cs) T e13 e11 g (fun τ1 f1 a1 a2 _ _ => ?_)⟩
      apply X.2.1
      exact ⟨fun z => absurd z (b_ftn a1 (Or.inr rfl)).2, fun _ => h τ1 f1 a1 a2 (Or.inr rfl)⟩
    · have h' : pc (gr_bd (gr_tk kd 25 pos) (fun q _ => gr_bd (e q) (fun q2 f => gr_bd (gr_tk kd 26 q2) (fun q3 _ => .inr (q3, f))))) (b_Fl pl L cs τ Z) (fun q f => ∀ τ1 c1 P, b_fx L cs τ τ1 → b_st τ1 q op c1 (P ++ W) → gr_go kd q → pos < q → P = [] → True → c1 + P.length + W.length ≤ B + q → cs ≤ c1 → b_pd (τ1.1 22) (τ1.1 23) cs c1 P f → K200 τ1 0) := h
      rw [pc_bd] at h'
      refine ⟨fun _ => ?_, fun z => absurd ((nI_eq (b := 6) (by omega) (by decide)).mp z) (by omega)⟩
      apply X.2.1
      unfold xb_X12_expression_46
      rw [e13, e12, nI_1]
      refine ⟨fun _ τ1 h1 => ?_, fun z => absurd (by decide) z⟩
      have f1 : b_fx L cs τ τ1 := by rw [h1]; exact b_fx_i (by omega)
      have c13 : τ1.1 0 13 = 0 := by rw [h1, xw_nj (by decide)]; exact e13
      have c11 : τ1.1 0 11 = nI pos := by rw [h1, xw_nj (by decide)]; exact e11
      have c12 : τ1.1 0 12 = nI (op + 1) := by rw [h1, xw_eq]
      have c34 : τ1.1 0 34 = nI cs := by rw [h1, xw_nj (by decide)]; exact e34
      have c38 : τ1.1 0 38 = nI W.length := by rw [h1, xw_nj (by decide)]; exact e38
      have csk : b_sk (τ1.1 24) W := by rw [h1, xw_ne (by decide)]; exact sk
      refine sB_next (L := L) (cs := cs) (b_T_fx T f1) c13 c11 g (fun l => ?_) (fun l τ2 f2 a1 a2 o1 o2 => ?_)
      · obtain ⟨τ2, h2⟩ : ∃ τ2, τ2 = xw_i τ1 0 11 (nI (pos + 1)) := ⟨_, rfl⟩
        rw [← h2]
        have f2 : b_fx L cs τ1 τ2 := by rw [h2]; exact b_fx_i (by omega)
        refine b_push (w := 6) (W := W) (by rw [h2, xw_nj (by decide)]; exact c38) (by rw [h2, xw_ne (by decide)]; exact csk) (Or.inl rfl) rfl (by omega) (fun τ3 p1 p2 p3 p4 p5 => ?_)
        have f3 : b_fx L cs τ τ3 := b_fx_t (b_fx_t f1 f2 (Nat.le_refl _)) ⟨fun x x0 _ _ x3 => p1 x x0 x3, fun j _ _ _ _ _ j6 => p2 j j6, fun j _ => ⟨by rw [p1 22 (by decide) (by decide)], by rw [p1 23 (by decide) (by decide)]⟩, p5⟩ (Nat.le_refl _)
        have hZ := pc_tk1 h' e25 l
        rw [pc_bd] at hZ
        refine OKe τ3 (pos + 1) cs (6 :: W) (b_T_fx T f3) ⟨?_, ?_, ?_, ?_, p3, p4⟩ (gr_go_s g l (by omega)) (by rw [List.length_cons]; omega) (by rw [List.length_cons]; omega) (Or.inr ⟨W, rfl⟩) (pc_mono hZ (fun k p hF τ4 f4 => hF τ4 (b_fx_t f3 f4 (Nat.le_refl _))) (fun q f hZ2 τ4 c4 P f4 st4 g4 l4 pp4 sp4 b4 lc4 pd4 => ?_))
        · rw [p2 13 (by decide), h2, xw_nj (by decide)]; exact c13
        · rw [p2 11 (by decide), h2, xw_eq]
        · rw [p2 12 (by decide), h2, xw_nj (by decide)]; exact c12
        · rw [p2 34 (by decide), h2, xw_nj (by decide)]; exact c34
        · obtain ⟨d13, d11, d12, d34, d38, dsk⟩ := st4
          have f04 : b_fx L cs τ τ4 := b_fx_t f3 f4 (Nat.le_refl _)
          have T4 := b_T_fx T f04
          have g41 := g4.1
          rw [List.length_cons] at b4
          have pl2 := pp4.1
          have sl : (P ++ 6 :: W).length ≤ 48 := by rw [List.length_append, List.length_cons]; omega
          have sc : c4 + (P ++ 6 :: W).length ≤ B + q := by rw [List.length_append, List.length_cons]; omega
          rw [pc_bd] at hZ2
          apply X.2.2.2.2.1
          unfold xb_X12_expression_200
          refine sB_is (K := 26) hkd T4 d13 d11 g4 (by decide) rfl (fun e26 => ⟨fun z => absurd z (by decide), fun _ => ?_⟩) (fun n26 => ⟨fun _ => ?_, fun z => absurd rfl z⟩)
          · rw [d12]
            refine ⟨fun z => absurd z (nI_nle (by omega) (by omega)), fun _ => ?_⟩
            refine sB_out (a := false) rfl dsk sl d38 d34 (by omega) (fun τ5 co5 e5 => ?_)
            rw [b_pop0 pp4.2 (Or.inr ⟨W, rfl⟩)] at co5 e5
            intro τ6 h6 τ7 h7
            have e5' : τ5.1 0 38 = nI (W.length + 1) := e5
            rw [e5', nI_pred] at h6
            have k12 : τ6.1 0 12 = nI (op + 1) := by rw [h6, xw_nj (by decide), co5.2.1 12 (by decide) (by decide)]; exact d12
            rw [k12, nI_pred] at h7
            have f5 : b_fx L cs τ4 τ5 := b_fx_co (P := P) co5 lc4 (by omega)
            have f7 : b_fx L cs τ τ7 := by
              refine b_fx_t (b_fx_t f04 f5 (Nat.le_refl _)) ?_ (Nat.le_refl _)
              rw [h7, h6]
              exact b_fx_t (b_fx_i (by omega)) (b_fx_i (by omega)) (Nat.le_refl _)
            have q0 : ∀ j, j ≠ 12 → j ≠ 38 → τ7.1 0 j = τ5.1 0 j := fun j j1 j2 => by rw [h7, xw_nj j1, h6, xw_nj j2]
            have q13 : τ7.1 0 13 = 0 := by rw [q0 13 (by decide) (by decide), co5.2.1 13 (by decide) (by decide)]; exact d13
            have q11 : τ7.1 0 11 = nI q := by rw [q0 11 (by decide) (by decide), co5.2.1 11 (by decide) (by decide)]; exact d11
            have q12 : τ7.1 0 12 = nI op := by rw [h7, xw_eq]
            have q34 : τ7.1 0 34 = nI (c4 + P.length) := by rw [q0 34 (by decide) (by decide)]; exact co5.2.2.1
            have q38 : τ7.1 0 38 = nI W.length := by rw [h7, xw_nj (by decide), h6, xw_eq]
            have q24 : τ7.1 24 = τ4.1 24 := by rw [h7, xw_ne (by decide), h6, xw_ne (by decide), co5.1 24 (by decide) (by decide) (by decide)]
            have qsk : b_sk (τ7.1 24) W := by rw [q24]; exact b_sk_s (P := [6]) (b_sk_s dsk)
            have tB7 : tB (τ7.1 22) (τ7.1 23) cs (c4 + P.length) f := by
              have r22 : τ7.1 22 = τ5.1 22 := by rw [h7, xw_ne (by decide), h6, xw_ne (by decide)]
              have r23 : τ7.1 23 = τ5.1 23 := by rw [h7, xw_ne (by decide), h6, xw_ne (by decide)]
              rw [r22, r23]
              exact pd4 _ _ (fun j _ j2 => co5.2.2.2.1 j (Or.inl j2)) co5.2.2.2.2.1
            refine sB_next (L := L) (cs := cs) (b_T_fx T f7) q13 q11 g4 (fun l => ?_) (fun l τ8 f8 a1 a2 o1 o2 => ?_)
            · have hZ3 := pc_tk1 hZ2 e26 l
              obtain ⟨τ8, h8⟩ : ∃ τ8, τ8 = xw_i τ7 0 11 (nI (q + 1)) := ⟨_, rfl⟩
              rw [← h8]
              have f8 : b_fx L cs τ7 τ8 := by rw [h8]; exact b_fx_i (by omega)
              refine hZ3 τ8 (c4 + P.length) [] (b_fx_t f7 f8 (Nat.le_refl _)) ⟨?_, ?_, ?_, ?_, ?_, ?_⟩ (gr_go_s g4 l (by omega)) (by omega) rfl trivial (by simp only [List.length_nil]; omega) (by omega) (fun co' ci' hj _ => tB_c tB7 (fun x x1 x2 => ?_))
              · rw [h8, xw_nj (by decide)]; exact q13
              · rw [h8, xw_eq]
              · rw [h8, xw_nj (by decide)]; exact q12
              · rw [h8, xw_nj (by decide)]; exact q34
              · rw [h8, xw_nj (by decide)]; exact q38
              · rw [h8, xw_ne (by decide)]; exact qsk
              · obtain ⟨y1, y2⟩ := hj x x1 x2
                rw [y1, y2, h8, xw_ne (by decide), xw_ne (by decide)]
                exact ⟨rfl, rfl⟩
            · have hZ3 := pc_tk2 hZ2 e26 l
              exact sB_200F (S := W) X (b_fx_t f7 f8 (Nat.le_refl _)) a1 a2 (Or.inr rfl) (by rw [o1 24 (by decide)]; exact qsk) (by omega) (by rw [o2 38 (by decide) (by decide)]; exact q38) (by rw [o2 34 (by decide) (by decide)]; exact q34) (by omega) (by omega) (by omega) hZ3
          · refine sB_249 X hkd T4 d13 d11 g4 (fun y => absurd y sp4) (fun _ => ?_)
            apply X.2.2.2.2.2.2.1
            unfold xb_X12_expression_281
            rw [d12]
            refine ⟨fun z => absurd rfl z, fun _ => ⟨fun z => absurd z (nI_nle (by omega) (by omega)), fun _ => sB_fail (k := 1) (L := L) (cs := cs) T4 d13 d11 g4 (fun τ5 f5 a1 a2 o1 o2 => ?_)⟩⟩
            refine sB_out (a := false) rfl (by rw [o1 24 (by decide)]; exact dsk) sl (by rw [o2 38 (by decide) (by decide)]; exact d38) (by rw [o2 34 (by decide) (by decide)]; exact d34) (by omega) (fun τ6 co6 _ => ?_)
            have := b_pop_len (a := false) (S := P ++ 6 :: W)
            refine pc_tk0 hZ2 n26 τ6 (b_fx_t (b_fx_t f04 f5 (Nat.le_refl _)) (b_fx_co co6 lc4 (by omega)) (Nat.le_refl _)) ?_ ?_ (Or.inl rfl)
            · rw [co6.2.1 13 (by decide) (by decide)]; exact a1
            · rw [co6.2.1 14 (by decide) (by decide)]; exact a2
      · refine b_push (w := 6) (W := W) (by rw [o2 38 (by decide) (by decide)]; exact c38) (by rw [o1 24 (by decide)]; exact csk) (Or.inl rfl) rfl (by omega) (fun τ3 p1 p2 p3 p4 p5 => ?_)
        have f3 : b_fx L cs τ τ3 := b_fx_t (b_fx_t f1 f2 (Nat.le_refl _)) ⟨fun x x0 _ _ x3 => p1 x x0 x3, fun j _ _ _ _ _ j6 => p2 j j6, fun j _ => ⟨by rw [p1 22 (by decide) (by decide)], by rw [p1 23 (by decide) (by decide)]⟩, p5⟩ (Nat.le_refl _)
        have a1' : τ3.1 0 13 = nI 2 := by rw [p2 13 (by decide)]; exact a1
        exact sB_12F X (b_ftn a1' (Or.inr rfl)).1 (pc_tk2 h' e25 l τ3 f3 a1' (by rw [p2 14 (by decide)]; exact a2) (Or.inr rfl))
  · refine ⟨fun _ => ⟨fun z => absurd e13 z, fun _ => ?_⟩, fun z => absurd rfl z⟩
    rw [e11, cp]
    have em : ∀ (a b : Int32) (f : tF), (∀ co ci, co cs = a → ci cs = b → tB co ci cs (cs + 1) f) → kd pos < 27 → pc (gr_bd (gr_tk kd (kd pos) pos) (fun q _ => .inr (q, f))) (b_Fl pl L cs τ Z) (fun q f => ∀ τ1 c1 P, b_fx L cs τ τ1 → b_st τ1 q op c1 (P ++ W) → gr_go kd q → pos < q → P = [] → True → c1 + P.length + W.length ≤ B + q → cs ≤ c1 → b_pd (τ1.1 22) (τ1.1 23) cs c1 P f → K200 τ1 0) → xu_X12_emit τ a b (fun σ12 => xu_X12_next σ12 (fun σ13 => K200 σ13 0)) := by
      intro a b f hf h27 hpc
      rw [pc_bd] at hpc
      refine sB_emit e34 (by omega) (fun τ1 y1 y2 y3 y4 y5 y6 y7 => ?_)
      have f1 : b_fx L cs τ τ1 := ⟨fun x x0 x1 x2 _ => y1 x x0 x1 x2, fun j _ _ _ _ j5 _ => y2 j j5, fun j hj => y4 j (by omega), y7⟩
      have c13 : τ1.1 0 13 = 0 := by rw [y2 13 (by decide)]; exact e13
      have c11 : τ1.1 0 11 = nI pos := by rw [y2 11 (by decide)]; exact e11
      have c38 : τ1.1 0 38 = nI W.length := by rw [y2 38 (by decide)]; exact e38
      have csk : b_sk (τ1.1 24) W := by rw [y1 24 (by decide) (by decide) (by decide)]; exact sk
      refine sB_next (L := L) (cs := cs) (b_T_fx T f1) c13 c11 g (fun l => ?_) (fun l τ2 f2 a1 a2 o1 o2 => ?_)
      · have hZ := pc_tk1 hpc rfl l
        obtain ⟨τ2, h2⟩ : ∃ τ2, τ2 = xw_i τ1 0 11 (nI (pos + 1)) := ⟨_, rfl⟩
        rw [← h2]
        have f2 : b_fx L cs τ1 τ2 := by rw [h2]; exact b_fx_i (by omega)
        refine hZ τ2 (cs + 1) [] (b_fx_t f1 f2 (Nat.le_refl _)) ⟨?_, ?_, ?_, ?_, ?_, ?_⟩ (gr_go_s g l h27) (by omega) rfl trivial (by simp only [List.length_nil]; omega) (by omega) (fun co' ci' hj _ => ?_)
        · rw [h2, xw_nj (by decide)]; exact c13
        · rw [h2, xw_eq]
        · rw [h2, xw_nj (by decide), y2 12 (by decide)]; exact e12
        · rw [h2, xw_nj (by decide)]; exact y3
        · rw [h2, xw_nj (by decide)]; exact c38
        · rw [h2, xw_ne (by decide)]; exact csk
        · obtain ⟨z1, z2⟩ := hj cs (Nat.le_refl _) (by omega)
          refine hf co' ci' ?_ ?_
          · rw [z1, h2, xw_ne (by decide)]; exact y5
          · rw [z2, h2, xw_ne (by decide)]; exact y6
      · have hZ := pc_tk2 hpc rfl l
        exact sB_200F (S := W) X (b_fx_t f1 f2 (Nat.le_refl _)) a1 a2 (Or.inr rfl) (by rw [o1 24 (by decide)]; exact csk) (by omega) (by rw [o2 38 (by decide) (by decide)]; exact c38) (by rw [o2 34 (by decide) (by decide)]; exact y3) (by omega) (by omega) (by omega) hZ
    by_cases k9 : kd pos < 9
    · rw [if_neg (by omega), if_pos k9] at h
      rw [b_hi kt k9]
      refine ⟨vp, fun z => absurd z (nI_nlt (b := 27) (by omega) (by omega)), fun _ => ⟨vp, fun z => absurd z (nI_nlt (a := 35) (by omega) (by decide)), fun _ => ?_⟩⟩
      apply X.2.2.1
      refine sB_is (K := 16) hkd T e13 e11 g (by decide) rfl (fun e16 => absurd e16 (by omega)) (fun _ => ⟨fun z => absurd rfl z, fun _ => ⟨fun _ => ?_, fun z => absurd z (by decide)⟩⟩)
      apply X.2.2.2.1
      unfold xb_X12_expression_150
      rw [e13, e11, cp, b_hi kt k9]
      refine ⟨fun _ => ⟨fun z => absurd z (by decide), fun _ => ⟨vp, ?_⟩⟩, fun z => absurd (by decide) z⟩
      rw [show nI (27 + kd pos) - (27 : Int32) = nI (kd pos) by rw [show (27 : Int32) = nI 27 from rfl, pk_sub (by omega), Nat.add_sub_cancel_left]]
      exact em 1 (nI (kd pos)) _ (fun co ci z1 z2 => tB_var k9 z1 z2) (by omega) h
    · refine ⟨vp, fun _ => ?_, fun z => absurd (b_lo kt (by omega) hp) z⟩
      apply X.2.2.1
      refine sB_is (K := 16) hkd T e13 e11 g (by decide) rfl (fun e16 => ⟨fun _ => ?_, fun z => absurd z (by decide)⟩) (fun n16 => ⟨fun z => absurd rfl z, fun _ => ⟨fun z => absurd rfl z, fun _ => sB_fail (k := 1) (L := L) (cs := cs) T e13 e11 g (fun τ1 f1 a1 a2 o1 o2 => ?_)⟩⟩)
      · rw [if_pos e16] at h
        apply X.2.2.2.1
        unfold xb_X12_expression_150
        rw [e13, e11, cp, (T pos g).2.2 e16]
        refine ⟨fun _ => ⟨fun _ => ⟨vp, ?_⟩, fun z => absurd rfl z⟩, fun z => absurd (by decide) z⟩
        refine em 0 (va pos) (fun _ => va pos) (fun co ci z1 z2 => ?_) (by omega) (by rw [e16]; exact h)
        have := tB_int (nu := ci) z1
        rw [z2] at this
        exact this
      · rw [if_neg n16, if_neg k9, if_neg n25] at h
        apply X.2.2.2.1
        exact ⟨fun z => absurd z (b_ftn a1 (Or.inl rfl)).2, fun _ => h τ1 f1 a1 a2 (Or.inl rfl)⟩
end EXPR
