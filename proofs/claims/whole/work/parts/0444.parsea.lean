/-! the class's parser -/
def a_T (σ : xw_M) (kd pl : Nat → Nat) (va : Nat → Int32) : Prop := ∃ sz : Nat, σ.1 2 4 = nI sz ∧ sz ≤ 401 ∧ ∀ pos, gr_go kd pos → pos < sz ∧ σ.1 25 pos = nI (kd pos) ∧ σ.1 26 pos = nI (pl pos) ∧ (kd pos = 16 → σ.1 27 pos = va pos)
def a_st (σ : xw_M) (pos s : Nat) : Prop := σ.1 3 3 = 0 ∧ σ.1 3 2 = nI pos ∧ σ.1 10 10 = nI s
def a_fr (s : Nat) (σ σ1 : xw_M) : Prop := (∀ x, x ≠ 3 → x ≠ 10 → x ≠ 61 → x ≠ 63 → σ1.1 x = σ.1 x) ∧ σ1.1 10 9 = σ.1 10 9 ∧ ∀ j, j < s → σ1.1 61 j = σ.1 61 j ∧ σ1.1 63 j = σ.1 63 j
theorem a_fr_0 {s : Nat} {σ : xw_M} : a_fr s σ σ := ⟨fun _ _ _ _ _ => rfl, rfl, fun _ _ => ⟨rfl, rfl⟩⟩
theorem a_fr_t {s s' : Nat} {a b c : xw_M} (h1 : a_fr s a b) (h2 : a_fr s' b c) (h : s ≤ s') : a_fr s a c := ⟨fun x x1 x2 x3 x4 => (h2.1 x x1 x2 x3 x4).trans (h1.1 x x1 x2 x3 x4), h2.2.1.trans h1.2.1, fun j hj => ⟨(h2.2.2 j (by omega)).1.trans (h1.2.2 j hj).1, (h2.2.2 j (by omega)).2.trans (h1.2.2 j hj).2⟩⟩
/-- a FAULT k at the token p -/
def a_ft (s : Nat) (σ : xw_M) (pl : Nat → Nat) (k p : Nat) : Prop := σ.1 3 3 = nI k ∧ σ.1 3 4 = nI (pl p) ∧ (k = 1 ∨ k = 2) ∧ ∃ s1 : Nat, s ≤ s1 ∧ s1 ≤ 400 ∧ σ.1 10 10 = nI s1
theorem a_ft_n {s : Nat} {σ : xw_M} {pl : Nat → Nat} {k p : Nat} (h : a_ft s σ pl k p) : ¬ σ.1 3 3 = 0 := by
  rw [h.1]
  rcases h.2.2.1 with e | e <;> rw [e] <;> decide
theorem a_T_fr {s : Nat} {σ σ1 : xw_M} {kd pl : Nat → Nat} {va : Nat → Int32} (h : a_T σ kd pl va) (f : a_fr s σ σ1) : a_T σ1 kd pl va := by
  unfold a_T
  rw [f.1 2 (by decide) (by decide) (by decide) (by decide), f.1 25 (by decide) (by decide) (by decide) (by decide), f.1 26 (by decide) (by decide) (by decide) (by decide), f.1 27 (by decide) (by decide) (by decide) (by decide)]
  exact h
/-- what must hold behind a FAULT -/
def a_Fl (pl : Nat → Nat) (s : Nat) (σ : xw_M) (Z : xw_M → Prop) (k p : Nat) : Prop := ∀ σ1, a_fr s σ σ1 → a_ft s σ1 pl k p → Z σ1
/-- .. and behind a piece of the text that says x -/
def a_Z {α : Type} (kd : Nat → Nat) (V : (Nat → Int32) → (Nat → Int32) → Nat → Nat → α → Prop) (pos s : Nat) (σ : xw_M) (Z : xw_M → Prop) (q : Nat) (x : α) : Prop := ∀ σ1 s1, a_fr s σ σ1 → a_st σ1 q s1 → σ1.1 3 4 = σ.1 3 4 → gr_go kd q → pos < q → s ≤ s1 → s1 + pos ≤ q + s → V (σ1.1 61) (σ1.1 63) s s1 x → Z σ1
abbrev uLv := xw_M → Int32 → Int32 → (xw_M → Prop) → Prop
def a_OK {α : Type} (kd pl : Nat → Nat) (va : Nat → Int32) (V : (Nat → Int32) → (Nat → Int32) → Nat → Nat → α → Prop) (U : (xw_M → Prop) → xw_M → Prop) (r : Nat → pR α) : Prop := ∀ σ pos s Z, a_T σ kd pl va → a_st σ pos s → gr_go kd pos → s ≤ pos → pc (r pos) (a_Fl pl s σ Z) (a_Z kd V pos s σ Z) → U Z σ
def a_FT (U : (xw_M → Prop) → xw_M → Prop) : Prop := ∀ σ Z, ¬ σ.1 3 3 = 0 → Z σ → U Z σ
section PA
variable {kd pl : Nat → Nat} {va : Nat → Int32} {σ : xw_M} {pos s : Nat}
theorem sA_seen {Z : Int32 → xw_M → Prop} (T : a_T σ kd pl va) (S : a_st σ pos s) (g : gr_go kd pos) (h : Z (nI (kd pos)) σ) : xu_X3_seen σ Z := by
  obtain ⟨sz, e1, e2, e3⟩ := T
  obtain ⟨f1, f2, f3, f4⟩ := e3 pos g
  unfold xu_X3_seen
  rw [S.1, S.2.1, e1, nI_clamp (n := pos) (by omega), f2]
  exact ⟨fun z => absurd rfl z, fun _ => ⟨fun z => absurd z (nI_pos (by omega)), fun _ => ⟨fun _ => ⟨vp_in_nI (by omega) (by decide), h⟩, fun z => absurd (nI_lt f1 (by omega)) z⟩⟩⟩
theorem sA_seenF {Z : Int32 → xw_M → Prop} (n : ¬ σ.1 3 3 = 0) (h : Z 28 σ) : xu_X3_seen σ Z := ⟨fun _ => h, fun z => absurd z n⟩
theorem sA_fail {k : Nat} {Z : xw_M → Prop} (T : a_T σ kd pl va) (S : a_st σ pos s) (g : gr_go kd pos) (hs : s ≤ 400) (hk : k = 1 ∨ k = 2) (h : a_Fl pl s σ Z k pos) : xu_X3_fail σ (nI k) Z := by
  obtain ⟨sz, e1, e2, e3⟩ := T
  obtain ⟨f1, f2, f3, f4⟩ := e3 pos g
  unfold xu_X3_fail
  rw [S.1, S.2.1, e1]
  refine ⟨fun z => absurd rfl z, fun _ => ⟨fun z => absurd z (nI_pos (by omega)), fun _ => ⟨fun z => absurd z (nI_ge f1 (by omega)), fun _ σ1 h1 => ?_⟩⟩⟩
  have c1 : σ1.1 3 2 = nI pos := by rw [h1, xw_nj (by decide)]; exact S.2.1
  rw [c1, nI_clamp (n := pos) (by omega)]
  refine ⟨vp_in_nI (by omega) (by decide), fun σ2 h2 => h σ2 ⟨fun x x1 x2 x3 x4 => ?_, ?_, fun j hj => ⟨?_, ?_⟩⟩ ⟨?_, ?_, hk, s, Nat.le_refl _, hs, ?_⟩⟩
  · rw [h2, xw_ne x1, h1, xw_ne x1]
  · rw [h2, xw_ne (by decide), h1, xw_ne (by decide)]
  · rw [h2, xw_ne (by decide), h1, xw_ne (by decide)]
  · rw [h2, xw_ne (by decide), h1, xw_ne (by decide)]
  · rw [h2, xw_nj (by decide), h1, xw_eq]
  · rw [h2, xw_eq, h1, xw_ne (by decide), f3]
  · rw [h2, xw_ne (by decide), h1, xw_ne (by decide)]; exact S.2.2
theorem sA_failF {a : Int32} {Z : xw_M → Prop} (n : ¬ σ.1 3 3 = 0) (h : Z σ) : xu_X3_fail σ a Z := ⟨fun _ => h, fun z => absurd z n⟩
theorem sA_take {k : Nat} {Z : xw_M → Prop} (hkd : ∀ j, kd j < 29) (T : a_T σ kd pl va) (S : a_st σ pos s) (g : gr_go kd pos) (hs : s ≤ 400) (hk : k < 27) (h : pc (gr_tk kd k pos) (a_Fl pl s σ Z) (fun q _ => q = pos + 1 → ∀ σ1, a_fr s σ σ1 → a_st σ1 q s → σ1.1 3 4 = σ.1 3 4 → gr_go kd q → Z σ1)) : xu_X3_take σ (nI k) Z := by
  have hp := hkd pos
  have gl := g.1
  refine sA_seen T S g ⟨fun z => ⟨fun z2 σ1 e1 => ?_, fun z2 => ?_⟩, fun z => ?_⟩
  · have e := (nI_eq (by omega) (by omega)).mp z
    rw [S.2.1] at z2
    have l := (nI_ltI (b := 400) (by omega) (by decide)).mp z2
    rw [S.2.1, nI_1] at e1
    refine pc_tk1 h e l rfl σ1 ⟨fun x x1 x2 x3 x4 => by rw [e1, xw_ne x1], by rw [e1, xw_ne (by decide)], fun j hj => ⟨by rw [e1, xw_ne (by decide)], by rw [e1, xw_ne (by decide)]⟩⟩ ⟨?_, ?_, ?_⟩ ?_ (gr_go_s g l (by omega))
    · rw [e1, xw_nj (by decide)]; exact S.1
    · rw [e1, xw_eq]
    · rw [e1, xw_ne (by decide)]; exact S.2.2
    · rw [e1, xw_nj (by decide)]
  · have e := (nI_eq (by omega) (by omega)).mp z
    rw [S.2.1] at z2
    exact sA_fail (k := 2) T S g hs (Or.inr rfl) (pc_tk2 h e (fun q => z2 (nI_lt (b := 400) q (by decide))))
  · exact sA_fail (k := 1) T S g hs (Or.inl rfl) (pc_tk0 h (fun q => z (by rw [q])))
theorem sA_takeF {k : Nat} {Z : xw_M → Prop} (n : ¬ σ.1 3 3 = 0) (hk : k < 28) (h : Z σ) : xu_X3_take σ (nI k) Z := by
  refine sA_seenF n ⟨fun z => ?_, fun _ => sA_failF n h⟩
  have := (nI_eq (a := 28) (by decide) (by omega)).mp z
  omega
theorem sA_tint {Z : Int32 → xw_M → Prop} (hkd : ∀ j, kd j < 29) (T : a_T σ kd pl va) (S : a_st σ pos s) (g : gr_go kd pos) (hs : s ≤ 400) (h : pc (gr_int kd va pos) (fun k p => ∀ v, a_Fl pl s σ (Z v) k p) (fun q v => q = pos + 1 → ∀ σ1, a_fr s σ σ1 → a_st σ1 q s → σ1.1 3 4 = σ.1 3 4 → gr_go kd q → Z v σ1)) : xu_X3_takeInt σ Z := by
  have hp := hkd pos
  have gl := g.1
  unfold gr_int at h
  rw [pc_bd] at h
  refine sA_seen T S g ⟨fun z => ?_, fun z => ?_⟩
  · exact sA_take (k := 16) hkd T S g hs (by decide) (by
      unfold gr_tk
      rw [if_neg (fun q => z (by rw [q]; rfl))]
      exact pc_tk0 h (fun q => z (by rw [q]; rfl)) 0)
  · have e := (nI_eq (b := 16) (by omega) (by decide)).mp z
    obtain ⟨sz, e1, e2, e3⟩ := id T
    rw [S.2.1, nI_clamp (n := pos) (by omega), (e3 pos g).2.2.2 e]
    refine ⟨vp_in_nI (by omega) (by decide), sA_take (k := 16) hkd T S g hs (by decide) ?_⟩
    refine pc_mono h (fun k p hh => hh _) (fun q _ hh => hh)
theorem sA_tintF {Z : Int32 → xw_M → Prop} (n : ¬ σ.1 3 3 = 0) (h : ∀ v, Z v σ) : xu_X3_takeInt σ Z :=
  sA_seenF n ⟨fun _ => sA_takeF (k := 16) n (by decide) (h 0), fun z => absurd z (by decide)⟩
/-- a step, laid -/
def a_add (σ σ1 : xw_M) (s : Nat) (a b : Int32) : Prop := a_fr s σ σ1 ∧ (∀ j, σ1.1 3 j = σ.1 3 j) ∧ σ1.1 10 10 = nI (s + 1) ∧ σ1.1 61 s = a ∧ σ1.1 63 s = b
theorem sA_add {a b : Int32} {Z : xw_M → Prop} (e : σ.1 10 10 = nI s) (hs : s < 400) (h : ∀ σ1, a_add σ σ1 s a b → Z σ1) : xu_X9_addStep σ 1 a b Z := by
  have cs : (nI s).toNatClampNeg = s := nI_clamp (by omega)
  have vs : vp_in (nI s) 400 := vp_in_nI hs (by decide)
  unfold xu_X9_addStep
  show ((400 : Int32) ≤ σ.1 10 10 → Z σ) ∧ (¬ (400 : Int32) ≤ σ.1 10 10 → (vp_in (σ.1 10 10) 400 ∧ ∀ σ1, σ1 = xw_i σ 61 (Int32.toNatClampNeg (σ.1 10 10)) a → (vp_in (σ1.1 10 10) 400 ∧ ∀ σ2, σ2 = xw_i σ1 63 (Int32.toNatClampNeg (σ1.1 10 10)) b → (∀ σ3, σ3 = xw_i σ2 10 10 ((σ2.1 10 10) + (1 : Int32)) → (Z σ3)))))
  rw [e, cs]
  refine ⟨fun z => absurd z (nI_ge (b := 400) hs (by decide)), fun _ => ⟨vs, fun σ1 e1 => ?_⟩⟩
  have k1 : σ1.1 10 10 = nI s := by rw [e1, xw_ne (by decide)]; exact e
  rw [k1, cs]
  refine ⟨vs, fun σ2 e2 σ3 e3 => ?_⟩
  have k2 : σ2.1 10 10 = nI s := by rw [e2, xw_ne (by decide)]; exact k1
  rw [k2, nI_1] at e3
  refine h σ3 ⟨⟨fun x x1 x2 x3 x4 => ?_, ?_, fun j hj => ⟨?_, ?_⟩⟩, fun j => ?_, ?_, ?_, ?_⟩
  · rw [e3, xw_ne x2, e2, xw_ne x4, e1, xw_ne x3]
  · rw [e3, xw_nj (by decide), e2, xw_ne (by decide), e1, xw_ne (by decide)]
  · rw [e3, xw_ne (by decide), e2, xw_ne (by decide), e1, xw_nj (by omega)]
  · rw [e3, xw_ne (by decide), e2, xw_nj (by omega), e1, xw_ne (by decide)]
  · rw [e3, xw_ne (by decide), e2, xw_ne (by decide), e1, xw_ne (by decide)]
  · rw [e3, xw_eq]
  · rw [e3, xw_ne (by decide), e2, xw_ne (by decide), e1, xw_eq]
  · rw [e3, xw_ne (by decide), e2, xw_eq]
theorem a_add_st {σ1 : xw_M} {a b : Int32} {q : Nat} (S : a_st σ q s) (h : a_add σ σ1 s a b) : a_st σ1 q (s + 1) := ⟨by rw [h.2.1]; exact S.1, by rw [h.2.1]; exact S.2.1, h.2.2.1⟩
/-- behind a FAULT a step may be laid or not -/
theorem sA_addF {a b : Int32} {k p : Nat} {σ0 : xw_M} {Z : xw_M → Prop} (f0 : a_fr s σ0 σ) (f : a_ft s σ pl k p) (h : ∀ σ1, a_fr s σ0 σ1 → a_ft s σ1 pl k p → Z σ1) : xu_X9_addStep σ 1 a b Z := by
  obtain ⟨g1, g2, g3, s1, l1, l2, e⟩ := id f
  by_cases q : s1 < 400
  · refine sA_add e q (fun σ1 a1 => h σ1 (a_fr_t f0 a1.1 l1 |> fun x => x) ⟨by rw [a1.2.1]; exact g1, by rw [a1.2.1]; exact g2, g3, s1 + 1, by omega, by omega, a1.2.2.1⟩)
  · unfold xu_X9_addStep
    have e' : σ.1 (9 + 1) 10 = nI s1 := e
    rw [e']
    exact ⟨fun _ => h σ f0 f, fun z => absurd (nI_le (a := 400) (by omega) (by omega)) z⟩
theorem sA_joins {lv k : Nat} {Z : Int32 → xw_M → Prop} (hlv : lv < 5) (hk : k < 29) (h1 : j_lv lv k = true → Z 1 σ) (h0 : j_lv lv k = false → Z 0 σ) : xu_X3_joins σ (nI lv) (nI k) Z := by
  have qq : ∀ d : Nat, d < 300 → (nI k = nI d ↔ k = d) := fun d hd => nI_eq (by omega) (by omega)
  rcases (show lv = 0 ∨ lv = 1 ∨ lv = 2 ∨ lv = 3 ∨ lv = 4 by omega) with rfl | rfl | rfl | rfl | rfl
  · refine ⟨fun _ => ⟨fun z => ⟨by simp, h0 ?_⟩, fun z => ⟨by simp, h1 ?_⟩⟩, fun z => absurd rfl z⟩
    · have : ¬ k = 14 := fun q => z ((qq 14 (by decide)).mpr q)
      simp [j_lv, this]
    · have : k = 14 := (qq 14 (by decide)).mp z
      simp [j_lv, this]
  · refine ⟨fun z => absurd z (by decide), fun _ => ⟨fun _ => ⟨fun z => ⟨by simp, h0 ?_⟩, fun z => ⟨by simp, h1 ?_⟩⟩, fun z => absurd rfl z⟩⟩
    · have : ¬ k = 15 := fun q => z ((qq 15 (by decide)).mpr q)
      simp [j_lv, this]
    · have : k = 15 := (qq 15 (by decide)).mp z
      simp [j_lv, this]
  · refine ⟨fun z => absurd z (by decide), fun _ => ⟨fun z => absurd z (by decide), fun _ => ⟨fun _ => ⟨fun z => ⟨by simp, h0 ?_⟩, fun z => ⟨fun z2 => ⟨by simp, h0 ?_⟩, fun z2 => ⟨by simp, h1 ?_⟩⟩⟩, fun z => absurd rfl z⟩⟩⟩
    · have : k < 21 := (nI_ltI (b := 21) (by omega) (by decide)).mp z
      have : ¬ (21 ≤ k ∧ k ≤ 24) := by omega
      simp only [j_lv]; simpa using this
    · have : 24 < k := (nI_ltI (a := 24) (by decide) (by omega)).mp z2
      have : ¬ (21 ≤ k ∧ k ≤ 24) := by omega
      simp only [j_lv]; simpa using this
    · have a1 : ¬ k < 21 := fun q => z (nI_lt (b := 21) q (by decide))
      have a2 : ¬ 24 < k := fun q => z2 (nI_lt (a := 24) q (by omega))
      have : 21 ≤ k ∧ k ≤ 24 := by omega
      simp only [j_lv]; simpa using this
  · refine ⟨fun z => absurd z (by decide), fun _ => ⟨fun z => absurd z (by decide), fun _ => ⟨fun z => absurd z (by decide), fun _ => ⟨fun _ => ⟨fun z => ⟨by simp, h1 ?_⟩, fun z => ⟨fun z2 => ⟨by simp, h0 ?_⟩, fun z2 => ⟨by simp, h1 ?_⟩⟩⟩, fun z => absurd rfl z⟩⟩⟩⟩
    · have : k = 18 := (qq 18 (by decide)).mp z
      simp [j_lv, this]
    · have a1 : ¬ k = 18 := fun q => z ((qq 18 (by decide)).mpr q)
      have a2 : ¬ k = 19 := fun q => z2 ((qq 19 (by decide)).mpr q)
      simp [j_lv, a1, a2]
    · have : k = 19 := (qq 19 (by decide)).mp z2
      simp [j_lv, this]
  · refine ⟨fun z => absurd z (by decide), fun _ => ⟨fun z => absurd z (by decide), fun _ => ⟨fun z => absurd z (by decide), fun _ => ⟨fun z => absurd z (by decide), fun _ => ⟨fun _ => ⟨fun z => ⟨by simp, h0 ?_⟩, fun z => ⟨by simp, h1 ?_⟩⟩, fun z => absurd rfl z⟩⟩⟩⟩⟩
    · have : ¬ k = 20 := fun q => z ((qq 20 (by decide)).mpr q)
      simp [j_lv, this]
    · have : k = 20 := (qq 20 (by decide)).mp z
      simp [j_lv, this]
end PA
theorem j_lv_lt {lv k : Nat} (h : j_lv lv k = true) : k < 27 := by
  unfold j_lv at h
  repeat' split at h
  all_goals (have := of_decide_eq_true h; omega)
