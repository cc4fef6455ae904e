/-! the reference's expressions -/
def b_T (τ : xw_M) (kd pl : Nat → Nat) (va : Nat → Int32) : Prop := ∀ pos, gr_go kd pos → b_k1 (kd pos) (τ.1 3 pos) ∧ τ.1 4 pos = nI (pl pos) ∧ (kd pos = 16 → τ.1 5 pos = va pos)
def b_sk (row : Nat → Int32) : List Nat → Prop
  | [] => True
  | w :: l => row l.length = nI w ∧ (w = 6 ∨ w = 8 ∨ w = 9 ∨ w = 10) ∧ b_sk row l
theorem b_sk_c {row row' : Nat → Int32} : ∀ {W : List Nat}, b_sk row W → (∀ j, j < W.length → row' j = row j) → b_sk row' W
  | [], _, _ => trivial
  | w :: l, ⟨h1, h2, h3⟩, e => ⟨(e l.length (by simp)).trans h1, h2, b_sk_c h3 (fun j hj => e j (by simp; omega))⟩
theorem b_sk_s {row : Nat → Int32} : ∀ {P W : List Nat}, b_sk row (P ++ W) → b_sk row W
  | [], _, h => h
  | _ :: l, _, ⟨_, _, h⟩ => b_sk_s (P := l) h
def b_cd (w : Nat) : Nat := if w = 8 then 2 else if w = 9 then 3 else 4
def b_lay (co : Nat → Int32) : Nat → List Nat → Prop
  | _, [] => True
  | c, w :: l => co c = nI (b_cd w) ∧ b_lay co (c + 1) l
theorem b_lay_app {co : Nat → Int32} : ∀ {P S : List Nat} {c : Nat}, b_lay co c (P ++ S) → b_lay co c P ∧ b_lay co (c + P.length) S
  | [], _, _, h => ⟨trivial, h⟩
  | w :: l, S, c, ⟨h1, h2⟩ => by
    obtain ⟨a, b⟩ := b_lay_app h2
    refine ⟨⟨h1, a⟩, ?_⟩
    rw [List.length_cons, show c + (l.length + 1) = c + 1 + l.length by omega]
    exact b
def b_pop (a : Bool) : List Nat → List Nat × List Nat
  | [] => ([], [])
  | w :: l => if w = 6 ∨ (a = true ∧ w ≠ 10) then ([], w :: l) else (w :: (b_pop a l).1, (b_pop a l).2)
theorem b_pop0 : ∀ {P W : List Nat}, (∀ w, w ∈ P → w = 8 ∨ w = 9 ∨ w = 10) → (W = [] ∨ ∃ l, W = 6 :: l) → b_pop false (P ++ W) = (P, W)
  | [], W, _, h => by
    rcases h with rfl | ⟨l, rfl⟩
    · rfl
    · simp [b_pop]
  | w :: l, W, hp, h => by
    have := hp w (List.mem_cons_self ..)
    have ih := b_pop0 (P := l) (fun x hx => hp x (List.mem_cons_of_mem _ hx)) h
    simp only [List.cons_append, b_pop]
    rw [if_neg (by simp; omega), ih]
theorem b_pop1 {T W : List Nat} (hT : T = [] ∨ T = [10]) (h : W = [] ∨ ∃ w l, W = w :: l ∧ (w = 6 ∨ w = 8 ∨ w = 9)) : b_pop true (T ++ W) = (T, W) := by
  have e : b_pop true W = ([], W) := by
    rcases h with rfl | ⟨w, l, rfl, hw⟩
    · rfl
    · simp only [b_pop]
      rw [if_pos (by simp; omega)]
  rcases hT with rfl | rfl
  · exact e
  · show b_pop true (10 :: W) = _
    simp only [b_pop]
    rw [if_neg (by simp), e]
/-- what comes out -/
def b_co (τ τ1 : xw_M) (cs : Nat) (P : List Nat) : Prop := (∀ x, x ≠ 0 → x ≠ 22 → x ≠ 23 → τ1.1 x = τ.1 x) ∧ (∀ j, j ≠ 34 → j ≠ 38 → τ1.1 0 j = τ.1 0 j) ∧ τ1.1 0 34 = nI (cs + P.length) ∧ (∀ j, j < cs ∨ cs + P.length ≤ j → τ1.1 22 j = τ.1 22 j ∧ τ1.1 23 j = τ.1 23 j) ∧ b_lay (τ1.1 22) cs P ∧ τ1.2 = τ.2
theorem sB_emit {τ : xw_M} {cs : Nat} {a b : Int32} {Z : xw_M → Prop} (e : τ.1 0 34 = nI cs) (hc : cs < 1000) (h : ∀ τ1, (∀ x, x ≠ 0 → x ≠ 22 → x ≠ 23 → τ1.1 x = τ.1 x) → (∀ j, j ≠ 34 → τ1.1 0 j = τ.1 0 j) → τ1.1 0 34 = nI (cs + 1) → (∀ j, j ≠ cs → τ1.1 22 j = τ.1 22 j ∧ τ1.1 23 j = τ.1 23 j) → τ1.1 22 cs = a → τ1.1 23 cs = b → τ1.2 = τ.2 → Z τ1) : xu_X12_emit τ a b Z := by
  have cc : (nI cs).toNatClampNeg = cs := nI_clamp (by omega)
  have vc : vp_in (nI cs) 1000 := vp_in_nI hc (by decide)
  unfold xu_X12_emit
  rw [e, cc]
  refine ⟨vc, fun τ1 e1 => ?_⟩
  have k1 : τ1.1 0 34 = nI cs := by rw [e1, xw_ne (by decide)]; exact e
  rw [k1, cc]
  refine ⟨vc, fun τ2 e2 τ3 e3 => ?_⟩
  have k2 : τ2.1 0 34 = nI cs := by rw [e2, xw_ne (by decide)]; exact k1
  rw [k2, nI_1] at e3
  refine h τ3 (fun x x0 x1 x2 => ?_) (fun j hj => ?_) ?_ (fun j hj => ⟨?_, ?_⟩) ?_ ?_ ?_
  · rw [e3, xw_ne x0, e2, xw_ne x2, e1, xw_ne x1]
  · rw [e3, xw_nj hj, e2, xw_ne (by decide), e1, xw_ne (by decide)]
  · rw [e3, xw_eq]
  · rw [e3, xw_ne (by decide), e2, xw_ne (by decide), e1, xw_nj hj]
  · rw [e3, xw_ne (by decide), e2, xw_nj hj, e1, xw_ne (by decide)]
  · rw [e3, xw_ne (by decide), e2, xw_ne (by decide), e1, xw_eq]
  · rw [e3, xw_ne (by decide), e2, xw_eq]
  · rw [e3, e2, e1]; rfl
theorem sB_come {a : Bool} {a1 : Int32} {K0 K43 : xw_M → Prop} {Z : xw_M → Prop} (ha : a1 = if a then 1 else 0) (h0 : ∀ σ, xb_X12_comesOut_0 a1 K0 K43 Z σ → K0 σ) (h43 : ∀ σ, xb_X12_comesOut_43 a1 K0 K43 Z σ → K43 σ) : ∀ (S : List Nat) (τ : xw_M) (cs : Nat), b_sk (τ.1 24) S → S.length ≤ 48 → τ.1 0 38 = nI S.length → τ.1 0 34 = nI cs → cs + S.length ≤ 1000 → (∀ τ1, b_co τ τ1 cs (b_pop a S).1 → τ1.1 0 38 = nI (b_pop a S).2.length → Z τ1) → K0 τ
  | [], τ, cs, hk, hl, e38, e34, hc, h => by
    apply h0
    unfold xb_X12_comesOut_0
    rw [e38]
    exact ⟨fun _ => h τ ⟨fun _ _ _ _ => rfl, fun _ _ _ => rfl, e34, fun _ _ => ⟨rfl, rfl⟩, trivial, rfl⟩ e38, fun z => absurd (by decide) z⟩
  | w :: l, τ, cs, ⟨k1, k2, k3⟩, hl, e38, e34, hc, h => by
    simp only [List.length_cons] at hl e38 hc
    have cl : (nI l.length).toNatClampNeg = l.length := nI_clamp (by omega)
    have vl : vp_in (nI l.length) 48 := vp_in_nI (by omega) (by decide)
    have stay : (w = 6 ∨ (a = true ∧ w ≠ 10)) → Z τ := by
      intro hw
      simp only [b_pop] at h
      rw [if_pos hw] at h
      exact h τ ⟨fun _ _ _ _ => rfl, fun _ _ _ => rfl, e34, fun _ _ => ⟨rfl, rfl⟩, trivial, rfl⟩ e38
    have pop : ¬ (w = 6 ∨ (a = true ∧ w ≠ 10)) → K43 τ := by
      intro hw
      simp only [b_pop] at h
      rw [if_neg hw] at h
      apply h43
      unfold xb_X12_comesOut_43
      rw [e38, nI_pred]
      intro τ1 e1
      have r1 : τ1.1 0 38 = nI l.length := by rw [e1, xw_eq]
      have r2 : τ1.1 24 l.length = nI w := by rw [e1, xw_ne (by decide)]; exact k1
      have r3 : τ1.1 0 34 = nI cs := by rw [e1, xw_nj (by decide)]; exact e34
      rw [r1, cl, r2]
      have go : ∀ v : Int32, v = nI (b_cd w) → xu_X12_emit τ1 v 0 (fun σ2 => K0 σ2) := by
        intro v hv
        refine sB_emit r3 (by omega) (fun τ2 f1 f2 f3 f4 f5 f6 f7 => ?_)
        refine sB_come ha h0 h43 l τ2 (cs + 1) ?_ (by omega) (by rw [f2 38 (by decide)]; exact r1) f3 (by omega) (fun τ3 c3 e3 => h τ3 ?_ e3)
        · rw [f1 24 (by decide) (by decide) (by decide), e1, xw_ne (by decide)]
          exact k3
        · obtain ⟨y1, y2, y3, y4, y5, y6⟩ := c3
          refine ⟨fun x x0 x1 x2 => ?_, fun j j1 j2 => ?_, ?_, fun j hj => ?_, ⟨?_, y5⟩, ?_⟩
          · rw [y1 x x0 x1 x2, f1 x x0 x1 x2, e1, xw_ne x0]
          · rw [y2 j j1 j2, f2 j j1, e1, xw_nj j2]
          · rw [y3, List.length_cons]; congr 1; omega
          · rw [List.length_cons] at hj
            obtain ⟨u1, u2⟩ := y4 j (by omega)
            obtain ⟨u3, u4⟩ := f4 j (by omega)
            rw [u1, u2, u3, u4, e1, xw_ne (by decide), xw_ne (by decide)]
            exact ⟨rfl, rfl⟩
          · rw [(y4 cs (by omega)).1, f5, hv]
          · rw [y6, f7, e1]; rfl
      have w3 : w = 8 ∨ w = 9 ∨ w = 10 := by
        rcases k2 with q | q
        · exact absurd (Or.inl q) hw
        · exact q
      refine ⟨vl, fun z8 => ⟨fun z9 => go 4 ?_, fun z9 => go 3 ?_⟩, fun z8 => go 2 ?_⟩
      · have : w = 10 := by
          rcases w3 with q | q | q
          · exact absurd (by rw [q]; rfl) z8
          · exact absurd (by rw [q]; rfl) z9
          · exact q
        rw [this]; rfl
      · have : w = 9 := (nI_eq (b := 9) (by omega) (by decide)).mp z9
        rw [this]; rfl
      · have : w = 8 := (nI_eq (b := 8) (by omega) (by decide)).mp z8
        rw [this]; rfl
    apply h0
    unfold xb_X12_comesOut_0
    rw [e38, nI_pred, cl, k1]
    refine ⟨fun z => absurd z (nI_nle (by omega) (by omega)), fun _ => ⟨vl, fun z => stay (Or.inl ((nI_eq (b := 6) (by omega) (by decide)).mp z)), fun z6 => ⟨fun z => pop ?_, fun z => ⟨vl, fun z10 => stay (Or.inr ⟨?_, fun q => z10 (by rw [q]; rfl)⟩), fun z10 => pop ?_⟩⟩⟩⟩
    · rintro (q | q)
      · exact z6 (by rw [q]; rfl)
      · rw [ha, if_pos q.1] at z; exact absurd z (by decide)
    · cases a
      · exact absurd (by rw [ha]; rfl) z
      · rfl
    · rintro (q | q)
      · exact z6 (by rw [q]; rfl)
      · exact q.2 ((nI_eq (b := 10) (by omega) (by decide)).mp z10)
/-- nothing below cs, nothing from L on, and no other row, changes -/
def b_fx (L cs : Nat) (τ τ1 : xw_M) : Prop := (∀ x, x ≠ 0 → x ≠ 22 → x ≠ 23 → x ≠ 24 → τ1.1 x = τ.1 x) ∧ (∀ j, j ≠ 11 → j ≠ 12 → j ≠ 13 → j ≠ 14 → j ≠ 34 → j ≠ 38 → τ1.1 0 j = τ.1 0 j) ∧ (∀ j, j < cs ∨ L ≤ j → τ1.1 22 j = τ.1 22 j ∧ τ1.1 23 j = τ.1 23 j) ∧ τ1.2 = τ.2
theorem b_fx_0 {L cs : Nat} {τ : xw_M} : b_fx L cs τ τ := ⟨fun _ _ _ _ _ => rfl, fun _ _ _ _ _ _ _ => rfl, fun _ _ => ⟨rfl, rfl⟩, rfl⟩
theorem b_fx_t {L cs cs' : Nat} {a b c : xw_M} (h1 : b_fx L cs a b) (h2 : b_fx L cs' b c) (h : cs ≤ cs') : b_fx L cs a c := ⟨fun x x0 x1 x2 x3 => (h2.1 x x0 x1 x2 x3).trans (h1.1 x x0 x1 x2 x3), fun j j1 j2 j3 j4 j5 j6 => (h2.2.1 j j1 j2 j3 j4 j5 j6).trans (h1.2.1 j j1 j2 j3 j4 j5 j6), fun j hj => ⟨(h2.2.2.1 j (by omega)).1.trans (h1.2.2.1 j hj).1, (h2.2.2.1 j (by omega)).2.trans (h1.2.2.1 j hj).2⟩, h2.2.2.2.trans h1.2.2.2⟩
theorem b_fx_co {L cs c1 : Nat} {τ τ1 : xw_M} {P : List Nat} (h : b_co τ τ1 c1 P) (l : cs ≤ c1) (l2 : c1 + P.length ≤ L) : b_fx L cs τ τ1 := ⟨fun x x0 x1 x2 _ => h.1 x x0 x1 x2, fun j _ _ _ _ j5 j6 => h.2.1 j j5 j6, fun j hj => h.2.2.2.1 j (by omega), h.2.2.2.2.2⟩
theorem b_T_fx {L cs : Nat} {τ τ1 : xw_M} {kd pl : Nat → Nat} {va : Nat → Int32} (h : b_T τ kd pl va) (f : b_fx L cs τ τ1) : b_T τ1 kd pl va := by
  unfold b_T
  rw [f.1 3 (by decide) (by decide) (by decide) (by decide), f.1 4 (by decide) (by decide) (by decide) (by decide), f.1 5 (by decide) (by decide) (by decide) (by decide)]
  exact h
/-- one place of the row 0, one of those that are free -/
theorem b_fx_i {L cs j : Nat} {τ : xw_M} {v : Int32} (h : j = 11 ∨ j = 12 ∨ j = 13 ∨ j = 14 ∨ j = 34 ∨ j = 38) : b_fx L cs τ (xw_i τ 0 j v) := ⟨fun x x0 _ _ _ => xw_ne x0, fun y y1 y2 y3 y4 y5 y6 => xw_nj (by omega), fun y _ => ⟨by rw [xw_ne (by decide)], by rw [xw_ne (by decide)]⟩, rfl⟩
def b_Fl (pl : Nat → Nat) (L cs : Nat) (τ : xw_M) (Z : xw_M → Prop) (k p : Nat) : Prop := ∀ τ1, b_fx L cs τ τ1 → τ1.1 0 13 = nI k → τ1.1 0 14 = nI (pl p) → (k = 1 ∨ k = 2) → Z τ1
section PB
variable {kd pl : Nat → Nat} {va : Nat → Int32} {τ : xw_M} {pos : Nat}
theorem sB_is {K : Nat} {a : Int32} {Z : Int32 → xw_M → Prop} (hkd : ∀ j, kd j < 29) (T : b_T τ kd pl va) (e13 : τ.1 0 13 = 0) (e11 : τ.1 0 11 = nI pos) (g : gr_go kd pos) (hK : K < 28) (ha : a = nI (b_kd K)) (h1 : kd pos = K → Z 1 τ) (h0 : ¬ kd pos = K → Z 0 τ) : xu_X12_is τ a Z := by
  have gl := g.1
  unfold xu_X12_is
  rw [e13, e11, nI_clamp (n := pos) (by omega), ha]
  have hi := b_is (T pos g).1 (hkd pos) hK
  exact ⟨fun z => absurd rfl z, fun _ => ⟨vp_in_nI (by omega) (by decide), fun z => ⟨by simp, h0 (fun q => z (hi.mpr q))⟩, fun z => ⟨by simp, h1 (hi.mp z)⟩⟩⟩
theorem sB_isF {a : Int32} {Z : Int32 → xw_M → Prop} (n : ¬ τ.1 0 13 = 0) (h : Z 0 τ) : xu_X12_is τ a Z := ⟨fun _ => ⟨by simp, h⟩, fun z => absurd z n⟩
theorem b_ftn {k : Nat} (e : τ.1 0 13 = nI k) (hk : k = 1 ∨ k = 2) : ¬ τ.1 0 13 = 0 ∧ ¬ τ.1 0 13 ≤ 0 := by
  rw [e]
  rcases hk with q | q <;> rw [q] <;> decide
theorem sB_fail {k L cs : Nat} {Z : xw_M → Prop} (T : b_T τ kd pl va) (e13 : τ.1 0 13 = 0) (e11 : τ.1 0 11 = nI pos) (g : gr_go kd pos) (h : ∀ τ1, b_fx L cs τ τ1 → τ1.1 0 13 = nI k → τ1.1 0 14 = nI (pl pos) → (∀ x, x ≠ 0 → τ1.1 x = τ.1 x) → (∀ j, j ≠ 13 → j ≠ 14 → τ1.1 0 j = τ.1 0 j) → Z τ1) : xu_X12_fail τ (nI k) Z := by
  have gl := g.1
  unfold xu_X12_fail
  rw [e13]
  refine ⟨fun _ τ1 e1 => ?_, fun z => absurd (by decide) z⟩
  have k1 : τ1.1 0 11 = nI pos := by rw [e1, xw_nj (by decide)]; exact e11
  rw [k1, nI_clamp (n := pos) (by omega)]
  refine ⟨vp_in_nI (by omega) (by decide), fun τ2 e2 => h τ2 ?_ ?_ ?_ (fun x hx => ?_) (fun j j1 j2 => ?_)⟩
  · rw [e2, e1]
    exact b_fx_t (b_fx_i (by omega)) (b_fx_i (by omega)) (Nat.le_refl _)
  · rw [e2, xw_nj (by decide), e1, xw_eq]
  · rw [e2, xw_eq, e1, xw_ne (by decide), (T pos g).2.1]
  · rw [e2, xw_ne hx, e1, xw_ne hx]
  · rw [e2, xw_nj j2, e1, xw_nj j1]
theorem sB_failF {a : Int32} {Z : xw_M → Prop} (n : ¬ τ.1 0 13 ≤ 0) (h : Z τ) : xu_X12_fail τ a Z := ⟨fun z => absurd z n, fun _ => h⟩
theorem sB_next {L cs : Nat} {Z : xw_M → Prop} (T : b_T τ kd pl va) (e13 : τ.1 0 13 = 0) (e11 : τ.1 0 11 = nI pos) (g : gr_go kd pos) (h1 : pos < 400 → Z (xw_i τ 0 11 (nI (pos + 1)))) (h0 : ¬ pos < 400 → ∀ τ1, b_fx L cs τ τ1 → τ1.1 0 13 = nI 2 → τ1.1 0 14 = nI (pl pos) → (∀ x, x ≠ 0 → τ1.1 x = τ.1 x) → (∀ j, j ≠ 13 → j ≠ 14 → τ1.1 0 j = τ.1 0 j) → Z τ1) : xu_X12_next τ Z := by
  have gl := g.1
  unfold xu_X12_next
  rw [e11, nI_1]
  refine ⟨fun z τ1 e1 => ?_, fun z => ?_⟩
  · rw [e1]
    exact h1 (Nat.lt_of_le_of_ne gl (fun q => z (by rw [q]; rfl)))
  · have : pos = 400 := (nI_eq (b := 400) (by omega) (by decide)).mp z
    exact sB_fail (k := 2) T e13 e11 g (h0 (by omega))
theorem sB_nextF {L cs : Nat} {Z : xw_M → Prop} (n : ¬ τ.1 0 13 ≤ 0) (h : ∀ τ1, b_fx L cs τ τ1 → τ1.1 0 13 = τ.1 0 13 → τ1.1 0 14 = τ.1 0 14 → Z τ1) : xu_X12_next τ Z := by
  refine ⟨fun _ τ1 e1 => ?_, fun _ => sB_failF n (h τ b_fx_0 rfl rfl)⟩
  rw [e1]
  exact h _ (b_fx_i (by omega)) (xw_nj (by decide)) (xw_nj (by decide))
theorem b_hi {k : Nat} {v : Int32} (h : b_k1 k v) (hk : k < 9) : v = nI (27 + k) := by
  rw [h.1 (by omega)]
  unfold b_kd
  rw [if_pos hk]
theorem b_lo {k : Nat} {v : Int32} (h : b_k1 k v) (hk : 9 ≤ k) (hk2 : k < 29) : v < 27 := by
  by_cases q : k = 28
  · rcases h.2 q with z | z <;> rw [z] <;> decide
  · rw [h.1 q]
    have : b_kd k < 27 := by
      unfold b_kd
      rw [if_neg (by omega)]
      repeat' split
      all_goals omega
    exact nI_lt (b := 27) this (by decide)
end PB
