/-! the reference's expressions: products and sums -/
section SUM
variable {kd pl : Nat → Nat} {va : Nat → Int32} {L B : Nat} {Z : xw_M → Prop} {K12 K46 K132 K150 : xw_M → Int32 → Int32 → Prop} {K200 K249 : xw_M → Int32 → Prop} {K281 : xw_M → Int32 → Int32 → Prop} {K329 : xw_M → Int32 → Int32 → Int32 → Int32 → Prop}
/-- a sign: what waits comes out as it must, the sign is put down, and an operand is looked for behind it -/
theorem sB_sgn (X : x_cl Z K12 K46 K132 K150 K200 K249 K281 K329) (hkd : ∀ j, kd j < 29) (hL : L = B + 500) (hB : B ≤ 500) {op ex : Nat} {a : Bool} {τ0 τ : xw_M} {q cs c1 w : Nat} {P W : List Nat} {f : tF} (op6 : op ≤ 6) (T : b_T τ kd pl va) (f0 : b_fx L cs τ0 τ) (st : b_st τ q op c1 (P ++ W)) (g : gr_go kd q) (hw : (a = true ∧ kd q = 20 ∧ w = 10) ∨ (a = false ∧ (kd q = 18 ∧ w = 8 ∨ kd q = 19 ∧ w = 9))) (hpop : b_pop a (P ++ W) = (P, W)) (lW : W.length ≤ 3 * op + ex) (le : ex ≤ 1) (lP : P.length ≤ 2) (lb : c1 + P.length + W.length ≤ B + q) (lc : cs ≤ c1) (pd : b_pd (τ.1 22) (τ.1 23) cs c1 P f)
    (hF : ¬ q < 400 → b_Fl pl L cs τ0 Z 2 q) (h : q < 400 → ∀ τ1, b_fx L cs τ0 τ1 → b_st τ1 (q + 1) op (c1 + P.length) (w :: W) → tB (τ1.1 22) (τ1.1 23) cs (c1 + P.length) f → K12 τ1 0 1) : K200 τ 0 := by
  obtain ⟨e13, e11, e12, e34, e38, sk⟩ := id st
  have gl := g.1
  have hp := hkd q
  have cp : (nI q).toNatClampNeg = q := nI_clamp (by omega)
  have vp : vp_in (nI q) 403 := vp_in_nI (by omega) (by decide)
  have kt := (T q g).1
  have sl : (P ++ W).length ≤ 48 := by rw [List.length_append]; omega
  have sc : c1 + (P ++ W).length ≤ B + q := by rw [List.length_append]; omega
  have ops : kd q = 18 ∨ kd q = 19 ∨ kd q = 20 := by omega
  have wv : τ.1 3 q = nI w := by
    rcases hw with ⟨_, e, rfl⟩ | ⟨_, ⟨e, rfl⟩ | ⟨e, rfl⟩⟩ <;> rw [e] at kt <;> exact kt.1 (by decide)
  have ws : w = 6 ∨ w = 8 ∨ w = 9 ∨ w = 10 := by omega
  have go : ∀ s0 : Int32, s0 = (if a then 1 else 0) → K329 τ s0 0 1 (nI w) := by
    intro s0 hs0
    apply X.2.2.2.2.2.2.2
    unfold xb_X12_expression_329
    refine sB_out (a := a) hs0 sk sl e38 e34 (by omega) (fun τ5 co5 e5 => ?_)
    rw [hpop] at co5 e5
    have f5 : b_fx L cs τ τ5 := b_fx_co (P := P) co5 lc (by omega)
    have e5' : τ5.1 0 38 = nI W.length := e5
    have k24 : τ5.1 24 = τ.1 24 := co5.1 24 (by decide) (by decide) (by decide)
    refine b_push (w := w) (W := W) e5' (by rw [k24]; exact b_sk_s sk) ws rfl (by omega) (fun τ6 p1 p2 p3 p4 p5 => ?_)
    have f6 : b_fx L cs τ0 τ6 := b_fx_t (b_fx_t f0 f5 (Nat.le_refl _)) ⟨fun x x0 _ _ x3 => p1 x x0 x3, fun j _ _ _ _ _ j6 => p2 j j6, fun j _ => ⟨by rw [p1 22 (by decide) (by decide)], by rw [p1 23 (by decide) (by decide)]⟩, p5⟩ (Nat.le_refl _)
    have T6 : b_T τ6 kd pl va := b_T_fx (b_T_fx T f5) (L := L) (cs := cs) ⟨fun x x0 _ _ x3 => p1 x x0 x3, fun j _ _ _ _ _ j6 => p2 j j6, fun j _ => ⟨by rw [p1 22 (by decide) (by decide)], by rw [p1 23 (by decide) (by decide)]⟩, p5⟩
    have q13 : τ6.1 0 13 = 0 := by rw [p2 13 (by decide), co5.2.1 13 (by decide) (by decide)]; exact e13
    have q11 : τ6.1 0 11 = nI q := by rw [p2 11 (by decide), co5.2.1 11 (by decide) (by decide)]; exact e11
    refine sB_next (L := L) (cs := cs) T6 q13 q11 g (fun l => ?_) (fun l τ7 f7 a1 a2 o1 o2 => ?_)
    · obtain ⟨τ7, h7⟩ : ∃ τ7, τ7 = xw_i τ6 0 11 (nI (q + 1)) := ⟨_, rfl⟩
      rw [← h7]
      have f7 : b_fx L cs τ6 τ7 := by rw [h7]; exact b_fx_i (by omega)
      refine h l τ7 (b_fx_t f6 f7 (Nat.le_refl _)) ⟨?_, ?_, ?_, ?_, ?_, ?_⟩ ?_
      · rw [h7, xw_nj (by decide)]; exact q13
      · rw [h7, xw_eq]
      · rw [h7, xw_nj (by decide), p2 12 (by decide), co5.2.1 12 (by decide) (by decide)]; exact e12
      · rw [h7, xw_nj (by decide), p2 34 (by decide)]; exact co5.2.2.1
      · rw [h7, xw_nj (by decide)]; exact p3
      · rw [h7, xw_ne (by decide)]; exact p4
      · rw [h7, xw_ne (by decide), xw_ne (by decide), p1 22 (by decide) (by decide), p1 23 (by decide) (by decide)]
        exact pd _ _ (fun j _ j2 => co5.2.2.2.1 j (Or.inl j2)) co5.2.2.2.2.1
    · exact sB_12F X (b_ftn a1 (Or.inr rfl)).1 (hF l τ7 (b_fx_t f6 f7 (Nat.le_refl _)) a1 a2 (Or.inr rfl))
  apply X.2.2.2.2.1
  unfold xb_X12_expression_200
  refine sB_is (K := 26) hkd T e13 e11 g (by decide) rfl (fun e26 => absurd e26 (by omega)) (fun _ => ⟨fun _ => ?_, fun z => absurd rfl z⟩)
  refine sB_249 X hkd T e13 e11 g (fun _ => ?_) (fun y => absurd ops y)
  apply X.2.2.2.2.2.2.1
  unfold xb_X12_expression_281
  rw [e11, cp, wv]
  refine ⟨fun _ => ⟨vp, fun z => go 0 ?_, fun z => go 1 ?_⟩, fun z => absurd z (by decide)⟩
  · rcases hw with ⟨_, _, e⟩ | ⟨e, _⟩
    · exact absurd (by rw [e]; rfl) z
    · rw [e]; rfl
  · have : w = 10 := (nI_eq (b := 10) (by omega) (by decide)).mp z
    rcases hw with ⟨e, _⟩ | ⟨_, e⟩
    · rw [e]; rfl
    · omega
theorem sB_part (X : x_cl Z K12 K46 K132 K150 K200 K249 K281 K329) (hkd : ∀ j, kd j < 29) (hL : L = B + 500) (hB : B ≤ 500) {op : Nat} {u : Nat → pR tF} (op6 : op ≤ 6) (OK : b_OK kd pl va L B K12 K200 Z op 2 (fun _ => True) (fun P => P = []) (fun _ => True) u) : b_OK kd pl va L B K12 K200 Z op 1 hdP ppP spP (gr_lv kd 4 u) := by
  intro τ pos cs W T st g lW lc hW h
  unfold gr_lv at h
  rw [pc_bd] at h
  have key : ∀ (n q c1 : Nat) (P : List Nat) (f : tF) (τ1 : xw_M), b_fx L cs τ τ1 → b_st τ1 q op c1 (P ++ W) → gr_go kd q → pos < q → ppP P → c1 + P.length + W.length ≤ B + q → cs ≤ c1 → b_pd (τ1.1 22) (τ1.1 23) cs c1 P f → 400 < n + q → pc (gr_lp kd 4 u n q f) (b_Fl pl L cs τ Z) (fun q f => ∀ τ1 c1 P, b_fx L cs τ τ1 → b_st τ1 q op c1 (P ++ W) → gr_go kd q → pos < q → ppP P → spP (kd q) → c1 + P.length + W.length ≤ B + q → cs ≤ c1 → b_pd (τ1.1 22) (τ1.1 23) cs c1 P f → K200 τ1 0) → K200 τ1 0 := by
    intro n
    induction n with
    | zero =>
      intro q c1 P f τ1 f1 st1 g1 l1 pp lb lc1 pd hn hpc
      have := g1.1
      omega
    | succ n ih =>
      intro q c1 P f τ1 f1 st1 g1 l1 pp lb lc1 pd hn hpc
      have g11 := g1.1
      simp only [gr_lp] at hpc
      by_cases j : kd q = 20
      · have j' : j_lv 4 (kd q) = true := by simp [j_lv, j]
        rw [if_pos j', pc_bd] at hpc
        have lP : P.length ≤ 1 := by rcases pp with e | e <;> rw [e] <;> simp
        refine sB_sgn X hkd hL hB (a := true) (w := 10) (P := P) (W := W) op6 (b_T_fx T f1) f1 st1 g1 (Or.inl ⟨rfl, j, rfl⟩) (b_pop1 pp hW) lW (by omega) (by omega) lb lc1 pd (fun l => pc_tk2 hpc rfl l) (fun l τ2 f2 st2 t2 => ?_)
        have hZ := pc_tk1 hpc rfl l
        rw [pc_bd] at hZ
        refine OK τ2 (q + 1) (c1 + P.length) (10 :: W) (b_T_fx T f2) st2 (gr_go_s g1 l (by omega)) (by rw [List.length_cons]; omega) (by rw [List.length_cons]; omega) trivial (pc_mono hZ (fun k p hF τ3 f3 => hF τ3 (b_fx_t f2 f3 (by omega))) (fun q3 gg hZ3 τ3 c3 P3 f3 st3 g3 l3 pp3 _ b3 lc3 pd3 => ?_))
        subst pp3
        rw [List.length_cons] at b3
        refine ih q3 c3 [10] _ τ3 (b_fx_t f2 f3 (by omega)) st3 g3 (by omega) (Or.inr rfl) (by simp only [List.length_nil, List.length_cons] at *; omega) (by omega) (fun co' ci' hj hl => ?_) (by omega) hZ3
        have e18 : kd q - 18 = 2 := by omega
        rw [e18]
        refine tB_op (m := c1 + P.length) (n := c3) (by decide) (tB_c t2 (fun x x1 x2 => ?_)) (pd3 co' ci' (fun x x1 x2 => hj x (by omega) x2) trivial) hl.1
        obtain ⟨y1, y2⟩ := hj x x1 (by omega)
        obtain ⟨y3, y4⟩ := f3.2.2.1 x (Or.inl x2)
        exact ⟨y1.trans y3, y2.trans y4⟩
      · have j' : j_lv 4 (kd q) = false := by simp [j_lv, j]
        rw [if_neg (by rw [j']; decide)] at hpc
        exact hpc τ1 c1 P f1 st1 g1 l1 pp j lb lc1 pd
  refine OK τ pos cs W T st g (by omega) lc trivial (pc_mono h (fun k p hF => hF) (fun q f hZ τ1 c1 P f1 st1 g1 l1 pp _ b1 lc1 pd1 => ?_))
  subst pp
  exact key 400 q c1 [] f τ1 f1 st1 g1 l1 (Or.inl rfl) b1 lc1 pd1 (by omega) hZ
theorem sB_E (X : x_cl Z K12 K46 K132 K150 K200 K249 K281 K329) (hkd : ∀ j, kd j < 29) (hL : L = B + 500) (hB : B ≤ 500) {op : Nat} {u : Nat → pR tF} (op6 : op ≤ 6) (OK : b_OK kd pl va L B K12 K200 Z op 1 hdP ppP spP u) : b_OK kd pl va L B K12 K200 Z op 0 hdE ppE spE (gr_lv kd 3 u) := by
  intro τ pos cs W T st g lW lc hW h
  unfold gr_lv at h
  rw [pc_bd] at h
  have key : ∀ (n q c1 : Nat) (P : List Nat) (f : tF) (τ1 : xw_M), b_fx L cs τ τ1 → b_st τ1 q op c1 (P ++ W) → gr_go kd q → pos < q → ppE P → spP (kd q) → c1 + P.length + W.length ≤ B + q → cs ≤ c1 → b_pd (τ1.1 22) (τ1.1 23) cs c1 P f → 400 < n + q → pc (gr_lp kd 3 u n q f) (b_Fl pl L cs τ Z) (fun q f => ∀ τ1 c1 P, b_fx L cs τ τ1 → b_st τ1 q op c1 (P ++ W) → gr_go kd q → pos < q → ppE P → spE (kd q) → c1 + P.length + W.length ≤ B + q → cs ≤ c1 → b_pd (τ1.1 22) (τ1.1 23) cs c1 P f → K200 τ1 0) → K200 τ1 0 := by
    intro n
    induction n with
    | zero =>
      intro q c1 P f τ1 f1 st1 g1 l1 pp sp lb lc1 pd hn hpc
      have := g1.1
      omega
    | succ n ih =>
      intro q c1 P f τ1 f1 st1 g1 l1 pp sp lb lc1 pd hn hpc
      have g11 := g1.1
      have n20 : ¬ kd q = 20 := sp
      simp only [gr_lp] at hpc
      by_cases j : kd q = 18 ∨ kd q = 19
      · have j' : j_lv 3 (kd q) = true := by simp [j_lv]; exact j
        rw [if_pos j', pc_bd] at hpc
        obtain ⟨w, hw, hw2⟩ : ∃ w, (kd q = 18 ∧ w = 8 ∨ kd q = 19 ∧ w = 9) ∧ b_cd w = 2 + (kd q - 18) := by
          rcases j with e | e
          · exact ⟨8, Or.inl ⟨e, rfl⟩, by rw [e]; rfl⟩
          · exact ⟨9, Or.inr ⟨e, rfl⟩, by rw [e]; rfl⟩
        refine sB_sgn X hkd hL hB (a := false) (w := w) (ex := 0) (P := P) (W := W) op6 (b_T_fx T f1) f1 st1 g1 (Or.inr ⟨rfl, hw⟩) (b_pop0 pp.2 hW) lW (by omega) pp.1 lb lc1 pd (fun l => pc_tk2 hpc rfl l) (fun l τ2 f2 st2 t2 => ?_)
        have hZ := pc_tk1 hpc rfl l
        rw [pc_bd] at hZ
        refine OK τ2 (q + 1) (c1 + P.length) (w :: W) (b_T_fx T f2) st2 (gr_go_s g1 l (by omega)) (by rw [List.length_cons]; omega) (by rw [List.length_cons]; omega) (Or.inr ⟨w, W, rfl, by omega⟩) (pc_mono hZ (fun k p hF τ3 f3 => hF τ3 (b_fx_t f2 f3 (by omega))) (fun q3 gg hZ3 τ3 c3 P3 f3 st3 g3 l3 pp3 sp3 b3 lc3 pd3 => ?_))
        rw [List.length_cons] at b3
        have lP3 : P3.length ≤ 1 := by rcases pp3 with e | e <;> rw [e] <;> simp
        have hP3 : ∀ x, x ∈ P3 → x = 10 := by
          intro x hx
          rcases pp3 with e | e
          · rw [e] at hx; cases hx
          · rw [e] at hx; simpa using hx
        refine ih q3 c3 (P3 ++ [w]) _ τ3 (b_fx_t f2 f3 (by omega)) (by rw [List.append_assoc]; exact st3) g3 (by omega) ⟨?_, fun x hx => ?_⟩ sp3 ?_ (by omega) (fun co' ci' hj hl => ?_) (by omega) hZ3
        · rw [List.length_append]; simp only [List.length_cons, List.length_nil]; omega
        · rcases List.mem_append.mp hx with e | e
          · exact Or.inr (Or.inr (hP3 x e))
          · have : x = w := by simpa using e
            omega
        · rw [List.length_append]; simp only [List.length_cons, List.length_nil]; omega
        · obtain ⟨hl1, hl2⟩ := b_lay_app hl
          rw [List.length_append]
          show tB co' ci' cs (c3 + (P3.length + 1)) _
          rw [← Nat.add_assoc]
          refine tB_op (m := c1 + P.length) (n := c3 + P3.length) (by omega) (tB_c t2 (fun x x1 x2 => ?_)) (pd3 co' ci' (fun x x1 x2 => hj x (by omega) x2) hl1) (by rw [← hw2]; exact hl2.1)
          obtain ⟨y1, y2⟩ := hj x x1 (by omega)
          obtain ⟨y3, y4⟩ := f3.2.2.1 x (Or.inl x2)
          exact ⟨y1.trans y3, y2.trans y4⟩
      · have j' : j_lv 3 (kd q) = false := by simp [j_lv]; omega
        rw [if_neg (by rw [j']; decide)] at hpc
        exact hpc τ1 c1 P f1 st1 g1 l1 pp (show spE (kd q) from fun (y : kd q = 18 ∨ kd q = 19 ∨ kd q = 20) => by omega) lb lc1 pd
  refine OK τ pos cs W T st g (by omega) lc ?_ (pc_mono h (fun k p hF => hF) (fun q f hZ τ1 c1 P f1 st1 g1 l1 pp sp1 b1 lc1 pd1 => ?_))
  · rcases hW with e | ⟨l, e⟩
    · exact Or.inl e
    · exact Or.inr ⟨6, l, e, Or.inl rfl⟩
  · refine key 400 q c1 P f τ1 f1 st1 g1 l1 ⟨?_, fun x hx => ?_⟩ sp1 b1 lc1 pd1 (by omega) hZ
    · rcases pp with e | e <;> rw [e] <;> simp
    · rcases pp with e | e
      · rw [e] at hx; cases hx
      · rw [e] at hx
        exact Or.inr (Or.inr (by simpa using hx))
theorem sB_un (X : x_cl Z K12 K46 K132 K150 K200 K249 K281 K329) (hkd : ∀ j, kd j < 29) (hL : L = B + 500) (hB : B ≤ 500) : ∀ (b op : Nat), op + b = 6 → b_OK kd pl va L B K12 K200 Z op 0 hdE ppE spE (gr_E kd (gr_un kd va b)) := by
  intro b
  induction b with
  | zero =>
    intro op ho
    exact sB_E X hkd hL hB (by omega) (sB_part X hkd hL hB (by omega) (sB_unit X hkd hL hB (P := none) (Or.inl ⟨rfl, by omega⟩)))
  | succ b ih =>
    intro op ho
    exact sB_E X hkd hL hB (by omega) (sB_part X hkd hL hB (by omega) (sB_unit X hkd hL hB (P := some (gr_E kd (gr_un kd va b))) (Or.inr ⟨_, rfl, by omega, ih (op + 1) (by omega)⟩)))
end SUM
theorem sB_expr {kd pl : Nat → Nat} {va : Nat → Int32} {L B : Nat} {τ : xw_M} {pos cs : Nat} {Z : xw_M → Prop} (hkd : ∀ j, kd j < 29) (hL : L = B + 500) (hB : B ≤ 500) (T : b_T τ kd pl va) (e13 : τ.1 0 13 = 0) (e11 : τ.1 0 11 = nI pos) (e12 : τ.1 0 12 = 0) (e34 : τ.1 0 34 = nI cs) (g : gr_go kd pos) (lc : cs ≤ B + pos) (h : pc (gr_ex kd va pos) (b_Fl pl L cs τ Z) (fun q f => ∀ τ1 c1, b_fx L cs τ τ1 → τ1.1 0 13 = 0 → τ1.1 0 11 = nI q → τ1.1 0 12 = 0 → τ1.1 0 34 = nI c1 → gr_go kd q → pos < q → c1 ≤ B + q → tB (τ1.1 22) (τ1.1 23) cs c1 f → Z τ1)) : xu_X12_expression τ Z := by
  intro K12 K46 K132 K150 K200 K249 K281 K329 h12 h46 h132 h150 h200 h249 h281 h329 τ1 h1
  have X : x_cl Z K12 K46 K132 K150 K200 K249 K281 K329 := ⟨h12, h46, h132, h150, h200, h249, h281, h329⟩
  have f1 : b_fx L cs τ τ1 := by rw [h1]; exact b_fx_i (by omega)
  have c12 : τ1.1 0 12 = 0 := by rw [h1, xw_nj (by decide)]; exact e12
  rw [c12]
  refine sB_un X hkd hL hB 6 0 rfl τ1 pos cs [] (b_T_fx T f1) ⟨?_, ?_, c12, ?_, ?_, trivial⟩ g (by simp) (by simp; omega) (Or.inl rfl) (pc_mono h (fun k p hF τ2 f2 => hF τ2 (b_fx_t f1 f2 (Nat.le_refl _))) (fun q f hZ τ2 c2 P f2 st2 g2 l2 pp sp b2 lc2 pd2 => ?_))
  · rw [h1, xw_nj (by decide)]; exact e13
  · rw [h1, xw_nj (by decide)]; exact e11
  · rw [h1, xw_nj (by decide)]; exact e34
  · rw [h1, xw_eq]; rfl
  · obtain ⟨d13, d11, d12, d34, d38, dsk⟩ := st2
    have T2 := b_T_fx (b_T_fx T f1) f2
    have g21 := g2.1
    have d12' : τ2.1 0 12 = 0 := d12
    rw [List.append_nil] at d38 dsk
    have pl2 := pp.1
    simp only [List.length_nil] at b2
    have k281 : K281 τ2 0 0 := by
      apply h281
      unfold xb_X12_expression_281
      rw [d12']
      refine ⟨fun z => absurd rfl z, fun _ => ⟨fun _ => ?_, fun z => absurd (by decide) z⟩⟩
      refine sB_out (a := false) rfl dsk (by omega) d38 d34 (by omega) (fun τ5 co5 e5 => ?_)
      have hp := b_pop0 (P := P) (W := []) pp.2 (Or.inl rfl)
      rw [List.append_nil] at hp
      rw [hp] at co5 e5
      refine hZ τ5 (c2 + P.length) (b_fx_t (b_fx_t f1 f2 (Nat.le_refl _)) (b_fx_co (P := P) co5 lc2 (by omega)) (Nat.le_refl _)) ?_ ?_ ?_ co5.2.2.1 g2 (by omega) (by omega) (pd2 _ _ (fun j _ j2 => co5.2.2.2.1 j (Or.inl j2)) co5.2.2.2.2.1)
      · rw [co5.2.1 13 (by decide) (by decide)]; exact d13
      · rw [co5.2.1 11 (by decide) (by decide)]; exact d11
      · rw [co5.2.1 12 (by decide) (by decide)]; exact d12'
    have k249 : K249 τ2 0 := sB_249 X hkd T2 d13 d11 g2 (fun y => absurd y sp) (fun _ => k281)
    apply h200
    exact sB_is (K := 26) hkd T2 d13 d11 g2 (by decide) rfl (fun _ => ⟨fun z => absurd z (by decide), fun _ => ⟨fun _ => k249, fun z => absurd (by rw [d12']; decide) z⟩⟩) (fun _ => ⟨fun _ => k249, fun z => absurd rfl z⟩)
