/-! the class's read -/
def gr_U0 : Nat → tU := fun _ => (0, 0, 0, fun _ => 0, [])
section TEXTA
variable {kd pl : Nat → Nat} {va : Nat → Int32}
theorem sA_text {K31 : xw_M → Int32 → Prop} {Z : xw_M → Prop} (hkd : ∀ j, kd j < 29) (hK : ∀ (σ : xw_M) (v1 : Int32), xb_X3_parse_31 K31 Z σ v1 → K31 σ v1) : ∀ (n nr pos s : Nat) (σ : xw_M) (F : Nat → tU), n + nr = 17 → nr ≤ 16 → a_T σ kd pl va → a_st σ pos s → σ.1 3 4 = -1 → gr_go kd pos → s ≤ pos → TA 1 σ nr s F → pc (gr_text kd va n nr pos F) (a_FQ pl σ Z) (fun _ x => ∀ σ1 s1, a_fQ σ σ1 → σ1.1 3 3 = 0 → σ1.1 3 4 = -1 → TA 1 σ1 x.1 s1 x.2 → Z σ1) → K31 σ (nI nr) := by
  intro n
  induction n with
  | zero => intro nr pos s σ F h1 h2; omega
  | succ n ih =>
    intro nr pos s σ F h1 h2 T S pe g hs hT h
    have hp := hkd pos
    simp only [gr_text] at h
    apply hK
    unfold xb_X3_parse_31
    rw [S.1]
    refine ⟨fun z => absurd ((nI_ltI (a := 16) (by decide) (by omega)).mp z) (by omega), fun _ => ⟨fun z => absurd rfl z, fun _ => sA_seen T S g ⟨fun z => ?_, fun z => ?_⟩⟩⟩
    · rw [if_pos ((nI_eq (b := 27) (by omega) (by decide)).mp z)] at h
      exact h σ s (fun _ _ _ _ _ _ _ _ _ _ _ => rfl) S.1 pe hT
    · rw [if_neg (fun y => z (by rw [y]; rfl)), pc_bd] at h
      have hr16 : ∀ x, gr_rule kd va nr pos = .inr x → nr < 16 := by
        intro x hx
        unfold gr_rule at hx
        split at hx
        · split at hx
          · assumption
          · cases hx
        · cases hx
      refine sA_rule hkd T S g hs hT ?_
      cases hr : gr_rule kd va nr pos with
      | inl e =>
        rw [hr] at h
        intro σ1 f1 e1 e2 hk
        have hz : Z σ1 := h σ1 f1 e1 e2 hk
        apply hK
        refine ⟨fun _ => hz, fun _ => ⟨fun _ => hz, fun y => ?_⟩⟩
        rw [e1] at y
        exfalso
        rcases hk with q | q <;> rw [q] at y <;> exact absurd y (by decide)
      | inr x =>
        have l16 := hr16 x hr
        rw [hr] at h
        intro σ1 s1 f1 st1 pe1 g1 l1 ls1 hT1
        rw [nI_1]
        have T1 : a_T σ1 kd pl va := by
          unfold a_T
          rw [f1 2 (by decide) (by decide) (by decide) (by decide) (by decide) (by decide) (by decide) (by decide) (by decide) (by decide), f1 25 (by decide) (by decide) (by decide) (by decide) (by decide) (by decide) (by decide) (by decide) (by decide) (by decide), f1 26 (by decide) (by decide) (by decide) (by decide) (by decide) (by decide) (by decide) (by decide) (by decide) (by decide), f1 27 (by decide) (by decide) (by decide) (by decide) (by decide) (by decide) (by decide) (by decide) (by decide) (by decide)]
          exact T
        have h' : pc (gr_text kd va n (nr + 1) x.1 (fun r => if r = nr then x.2 else F r)) (a_FQ pl σ Z) (fun _ y => ∀ σ1 s1, a_fQ σ σ1 → σ1.1 3 3 = 0 → σ1.1 3 4 = -1 → TA 1 σ1 y.1 s1 y.2 → Z σ1) := h
        refine ih (nr + 1) x.1 s1 σ1 _ (by omega) (by omega) T1 st1 (by rw [pe1, pe]) g1 ls1 hT1 (pc_mono h' (fun k p hF σ2 f2 => hF σ2 (a_fQ_t f1 f2)) (fun q y hZ σ2 s2 f2 => hZ σ2 s2 (a_fQ_t f1 f2)))
end TEXTA
def a_fP (σ σ1 : xw_M) : Prop := ∀ x, x ≠ 2 → x ≠ 3 → x ≠ 10 → x ≠ 25 → x ≠ 26 → x ≠ 27 → x ≠ 49 → x ≠ 51 → x ≠ 53 → x ≠ 55 → x ≠ 57 → x ≠ 59 → x ≠ 61 → x ≠ 63 → σ1.1 x = σ.1 x
theorem k_kd_lt {c : Nat → Nat} {n : Nat} : ∀ j, k_kd c n j < 29 := fun _ => k_kind_lt
theorem sA_parse {σ : xw_M} {c : Nat → Nat} {n : Nat} {Z : xw_M → Prop} (H : a_tp σ c n) (h : pc (gr_text (k_kd c n) (k_va c n) 17 0 0 gr_U0) (fun k p => ∀ σ1, a_fP σ σ1 → σ1.1 3 3 = nI k → σ1.1 3 4 = nI (k_st c n p) → (k = 1 ∨ k = 2) → Z σ1) (fun _ x => ∀ σ1 s1, a_fP σ σ1 → σ1.1 3 3 = 0 → σ1.1 3 4 = -1 → TA 1 σ1 x.1 s1 x.2 → Z σ1)) : xu_X3_parse σ Z := by
  intro K31 hK σ1 e1 σ2 e2 σ3 e3 σ4 e4 σ5 e5
  replace e1 : σ1 = xw_i σ 10 9 0 := e1
  replace e2 : σ2 = xw_i σ1 10 10 0 := e2
  have o : ∀ x, x ≠ 10 → x ≠ 3 → σ5.1 x = σ.1 x := by
    intro x x1 x2
    rw [e5, xw_ne x2, e4, xw_ne x2, e3, xw_ne x2, e2, xw_ne x1, e1, xw_ne x1]
  have H5 : a_tp σ5 c n := by
    unfold a_tp
    rw [o 1 (by decide) (by decide), o 24 (by decide) (by decide)]
    exact H
  refine sA_split H5 (fun σ6 sz sc => ?_)
  obtain ⟨z1, z2, z3, z4, z5, z6, z7⟩ := sc
  have c3 : σ6.1 3 = σ5.1 3 := z7 3 (by decide) (by decide) (by decide) (by decide)
  have c10 : σ6.1 10 = σ5.1 10 := z7 10 (by decide) (by decide) (by decide) (by decide)
  have v32 : σ6.1 3 2 = nI 0 := by rw [c3, e5, xw_nj (by decide), e4, xw_nj (by decide), e3, xw_eq]; rfl
  have v33 : σ6.1 3 3 = 0 := by rw [c3, e5, xw_nj (by decide), e4, xw_eq]
  have v34 : σ6.1 3 4 = -1 := by rw [c3, e5, xw_eq]
  have w9 : σ6.1 10 9 = nI 0 := by rw [c10, e5, xw_ne (by decide), e4, xw_ne (by decide), e3, xw_ne (by decide), e2, xw_nj (by decide), e1, xw_eq]; rfl
  have w10 : σ6.1 10 10 = nI 0 := by rw [c10, e5, xw_ne (by decide), e4, xw_ne (by decide), e3, xw_ne (by decide), e2, xw_eq]; rfl
  have T6 : a_T σ6 (k_kd c n) (k_st c n) (k_va c n) := by
    refine ⟨sz, z6, z2, fun pos g => ?_⟩
    have l : pos < sz := by
      rcases z5 with e | e | e
      · have := g.1; omega
      · exact Nat.not_le.mp fun q => (g.2 (sz - 1) (by omega)).1 e
      · exact Nat.not_le.mp fun q => (g.2 (sz - 1) (by omega)).2 e
    obtain ⟨a1, a2, a3⟩ := z3 pos l
    exact ⟨l, a1, a2, a3⟩
  have fr : ∀ σ', a_fQ σ6 σ' → a_fP σ σ' := by
    intro σ' f x x1 x2 x3 x4 x5 x6 x7 x8 x9 x10 x11 x12 x13 x14
    rw [f x x2 x3 x7 x8 x9 x10 x11 x12 x13 x14, z7 x x1 x4 x5 x6, o x x3 x2]
  refine sA_text k_kd_lt hK 17 0 0 0 σ6 gr_U0 rfl (by decide) T6 ⟨v33, v32, w10⟩ v34 ⟨by decide, fun j hj => absurd hj (by omega)⟩ (Nat.le_refl _) ⟨by decide, by decide, w9, w10, fun r hr => absurd hr (by omega)⟩ ?_
  exact pc_mono h (fun k p hF σ' f g1 g2 g3 => hF σ' (fr σ' f) g1 g2 g3) (fun q x hZ σ' s' f g1 g2 g3 => hZ σ' s' (fr σ' f) g1 g2 g3)
theorem xr_eq {σ : xw_M} {c : Nat} {f : Nat → Int32} : (xw_r σ c f).1 c = f := by simp [xw_r]
theorem xr_ne {σ : xw_M} {c c' : Nat} {f : Nat → Int32} (h : c' ≠ c) : (xw_r σ c f).1 c' = σ.1 c' := by simp [xw_r, h]
def r_fA (σ σ1 : xw_M) : Prop := (∀ x, x = 4 ∨ x = 5 ∨ (11 ≤ x ∧ x ≤ 24) ∨ (28 ≤ x ∧ x ≤ 47) ∨ 64 ≤ x → σ1.1 x = σ.1 x) ∧ ∀ j, j ≠ 11 → σ1.1 0 j = σ.1 0 j
theorem qA_read {σ : xw_M} {c : Nat → Nat} {n : Nat} {Z : Int32 → xw_M → Prop} (H : a_tp σ c n) (h : pc (gr_text (k_kd c n) (k_va c n) 17 0 0 gr_U0) (fun k p => ∀ σ1, r_fA σ σ1 → (∀ x, x = 9 ∨ x = 48 ∨ x = 50 ∨ x = 52 ∨ x = 54 ∨ x = 56 ∨ x = 58 ∨ x = 60 ∨ x = 62 → σ1.1 x = σ.1 x) → σ1.1 1 1 = 0 → σ1.1 0 11 = nI (k_st c n p) → (k = 1 ∨ k = 2) → Z (nI k) σ1) (fun _ x => ∀ σ1 s1, r_fA σ σ1 → σ1.1 1 1 = 0 → σ1.1 0 11 = -1 → TA 0 σ1 x.1 s1 x.2 → Z 0 σ1)) : xu_X11_read σ Z := by
  refine sA_parse H (pc_mono h (fun k p hF σ1 f1 e3 e4 hk σ2 e2 σ3 e5 => ?_) (fun q x hZ σ1 s1 f1 e3 e4 hT σ2 e2 σ3 e5 => ?_))
  · have o : ∀ x, x ≠ 0 → x ≠ 1 → σ3.1 x = σ1.1 x := fun x x1 x2 => by rw [e5, xw_ne x1, e2, xw_ne x2]
    have g3 : σ3.1 3 3 = nI k := by rw [o 3 (by decide) (by decide)]; exact e3
    rw [g3]
    have nz : ¬ nI k = 0 := by rcases hk with q | q <;> rw [q] <;> decide
    refine ⟨fun _ => hF σ3 ⟨fun x hx => ?_, fun j hj => ?_⟩ (fun x hx => ?_) ?_ ?_ hk, fun z => absurd z nz⟩
    · rw [o x (by omega) (by omega), f1 x (by omega) (by omega) (by omega) (by omega) (by omega) (by omega) (by omega) (by omega) (by omega) (by omega) (by omega) (by omega) (by omega) (by omega)]
    · rw [e5, xw_nj hj, e2, xw_ne (by decide), f1 0 (by decide) (by decide) (by decide) (by decide) (by decide) (by decide) (by decide) (by decide) (by decide) (by decide) (by decide) (by decide) (by decide) (by decide)]
    · rw [o x (by omega) (by omega), f1 x (by omega) (by omega) (by omega) (by omega) (by omega) (by omega) (by omega) (by omega) (by omega) (by omega) (by omega) (by omega) (by omega) (by omega)]
    · rw [e5, xw_ne (by decide), e2, xw_eq]
    · rw [e5, xw_eq, e2, xw_ne (by decide)]; exact e4
  · have o : ∀ x, x ≠ 0 → x ≠ 1 → σ3.1 x = σ1.1 x := fun x x1 x2 => by rw [e5, xw_ne x1, e2, xw_ne x2]
    have g3 : σ3.1 3 3 = 0 := by rw [o 3 (by decide) (by decide)]; exact e3
    have g0 : ∀ j, j ≠ 11 → σ3.1 0 j = σ.1 0 j := fun j hj => by rw [e5, xw_nj hj, e2, xw_ne (by decide), f1 0 (by decide) (by decide) (by decide) (by decide) (by decide) (by decide) (by decide) (by decide) (by decide) (by decide) (by decide) (by decide) (by decide) (by decide)]
    have g1 : σ3.1 1 1 = 0 := by rw [e5, xw_ne (by decide), e2, xw_eq]
    have g11 : σ3.1 0 11 = -1 := by rw [e5, xw_eq, e2, xw_ne (by decide)]; exact e4
    have hT3 : TA 1 σ3 x.1 s1 x.2 := TA_c hT (fun c hc => o c (by omega) (by omega))
    refine ⟨fun z => absurd g3 z, fun _ => ?_⟩
    intro a1 d1 a2 d2 a3 d3 a4 d4 a5 d5 a6 d6 a7 d7 a8 d8 a9 d9 a10 d10
    replace d1 : a1 = xw_r σ3 48 (va_cpy (σ3.1 49) (σ3.1 48) 0 0 16) := d1
    replace d2 : a2 = xw_r a1 50 (va_cpy (a1.1 51) (a1.1 50) 0 0 16) := d2
    replace d3 : a3 = xw_r a2 52 (va_cpy (a2.1 53) (a2.1 52) 0 0 16) := d3
    replace d4 : a4 = xw_r a3 54 (va_cpy (a3.1 55) (a3.1 54) 0 0 16) := d4
    replace d5 : a5 = xw_r a4 56 (va_cpy (a4.1 57) (a4.1 56) 0 0 16) := d5
    replace d6 : a6 = xw_r a5 58 (va_cpy (a5.1 59) (a5.1 58) 0 0 16) := d6
    replace d7 : a7 = xw_r a6 60 (va_cpy (a6.1 61) (a6.1 60) 0 0 400) := d7
    replace d8 : a8 = xw_r a7 62 (va_cpy (a7.1 63) (a7.1 62) 0 0 400) := d8
    replace d9 : a9 = xw_i a8 9 9 (a8.1 10 9) := d9
    replace d10 : a10 = xw_i a9 9 10 (a9.1 10 10) := d10
    have p8 : ∀ x, x ≠ 48 → x ≠ 50 → x ≠ 52 → x ≠ 54 → x ≠ 56 → x ≠ 58 → x ≠ 60 → x ≠ 62 → a8.1 x = σ3.1 x := by
      intro x x1 x2 x3 x4 x5 x6 x7 x8
      rw [d8, xr_ne x8, d7, xr_ne x7, d6, xr_ne x6, d5, xr_ne x5, d4, xr_ne x4, d3, xr_ne x3, d2, xr_ne x2, d1, xr_ne x1]
    have p10 : ∀ x, x ≠ 9 → a10.1 x = a8.1 x := fun x x1 => by rw [d10, xw_ne x1, d9, xw_ne x1]
    have w9 : a10.1 9 9 = σ3.1 10 9 := by rw [d10, xw_nj (by decide), d9, xw_eq, p8 10 (by decide) (by decide) (by decide) (by decide) (by decide) (by decide) (by decide) (by decide)]
    have w10 : a10.1 9 10 = σ3.1 10 10 := by rw [d10, xw_eq, d9, xw_ne (by decide), p8 10 (by decide) (by decide) (by decide) (by decide) (by decide) (by decide) (by decide) (by decide)]
    have cp : ∀ (f g : Nat → Int32) (m j : Nat), j < m → va_cpy f g 0 0 m j = f j := by
      intro f g m j hj
      rw [pk_cpy_in (by omega) (by omega)]
      congr 1
      omega
    have q48 : ∀ j, j < 16 → a10.1 48 j = σ3.1 49 j := fun j hj => by
      rw [p10 48 (by decide), d8, xr_ne (by decide), d7, xr_ne (by decide), d6, xr_ne (by decide), d5, xr_ne (by decide), d4, xr_ne (by decide), d3, xr_ne (by decide), d2, xr_ne (by decide), d1, xr_eq, cp _ _ _ _ hj]
    have q50 : ∀ j, j < 16 → a10.1 50 j = σ3.1 51 j := fun j hj => by
      rw [p10 50 (by decide), d8, xr_ne (by decide), d7, xr_ne (by decide), d6, xr_ne (by decide), d5, xr_ne (by decide), d4, xr_ne (by decide), d3, xr_ne (by decide), d2, xr_eq, cp _ _ _ _ hj, d1, xr_ne (by decide)]
    have q52 : ∀ j, j < 16 → a10.1 52 j = σ3.1 53 j := fun j hj => by
      rw [p10 52 (by decide), d8, xr_ne (by decide), d7, xr_ne (by decide), d6, xr_ne (by decide), d5, xr_ne (by decide), d4, xr_ne (by decide), d3, xr_eq, cp _ _ _ _ hj, d2, xr_ne (by decide), d1, xr_ne (by decide)]
    have q54 : ∀ j, j < 16 → a10.1 54 j = σ3.1 55 j := fun j hj => by
      rw [p10 54 (by decide), d8, xr_ne (by decide), d7, xr_ne (by decide), d6, xr_ne (by decide), d5, xr_ne (by decide), d4, xr_eq, cp _ _ _ _ hj, d3, xr_ne (by decide), d2, xr_ne (by decide), d1, xr_ne (by decide)]
    have q56 : ∀ j, j < 16 → a10.1 56 j = σ3.1 57 j := fun j hj => by
      rw [p10 56 (by decide), d8, xr_ne (by decide), d7, xr_ne (by decide), d6, xr_ne (by decide), d5, xr_eq, cp _ _ _ _ hj, d4, xr_ne (by decide), d3, xr_ne (by decide), d2, xr_ne (by decide), d1, xr_ne (by decide)]
    have q58 : ∀ j, j < 16 → a10.1 58 j = σ3.1 59 j := fun j hj => by
      rw [p10 58 (by decide), d8, xr_ne (by decide), d7, xr_ne (by decide), d6, xr_eq, cp _ _ _ _ hj, d5, xr_ne (by decide), d4, xr_ne (by decide), d3, xr_ne (by decide), d2, xr_ne (by decide), d1, xr_ne (by decide)]
    have q60 : ∀ j, j < 400 → a10.1 60 j = σ3.1 61 j := fun j hj => by
      rw [p10 60 (by decide), d8, xr_ne (by decide), d7, xr_eq, cp _ _ _ _ hj, d6, xr_ne (by decide), d5, xr_ne (by decide), d4, xr_ne (by decide), d3, xr_ne (by decide), d2, xr_ne (by decide), d1, xr_ne (by decide)]
    have q62 : ∀ j, j < 400 → a10.1 62 j = σ3.1 63 j := fun j hj => by
      rw [p10 62 (by decide), d8, xr_eq, cp _ _ _ _ hj, d7, xr_ne (by decide), d6, xr_ne (by decide), d5, xr_ne (by decide), d4, xr_ne (by decide), d3, xr_ne (by decide), d2, xr_ne (by decide), d1, xr_ne (by decide)]
    obtain ⟨u1, u2, u3, u4, u5⟩ := hT3
    have hh : ∀ x, x ≠ 9 → x ≠ 48 → x ≠ 50 → x ≠ 52 → x ≠ 54 → x ≠ 56 → x ≠ 58 → x ≠ 60 → x ≠ 62 → a10.1 x = σ3.1 x := fun x x0 x1 x2 x3 x4 x5 x6 x7 x8 => by rw [p10 x x0, p8 x x1 x2 x3 x4 x5 x6 x7 x8]
    have r3 : a10.1 3 3 = 0 := by rw [hh 3 (by decide) (by decide) (by decide) (by decide) (by decide) (by decide) (by decide) (by decide) (by decide)]; exact g3
    show Z (a10.1 3 3) a10
    rw [r3]
    refine hZ a10 s1 ⟨fun y hy => ?_, fun j hj => ?_⟩ ?_ ?_ ⟨u1, u2, w9.trans u3, w10.trans u4, fun r hr => ?_⟩
    · rw [hh y (by omega) (by omega) (by omega) (by omega) (by omega) (by omega) (by omega) (by omega) (by omega), o y (by omega) (by omega), f1 y (by omega) (by omega) (by omega) (by omega) (by omega) (by omega) (by omega) (by omega) (by omega) (by omega) (by omega) (by omega) (by omega) (by omega)]
    · rw [hh 0 (by decide) (by decide) (by decide) (by decide) (by decide) (by decide) (by decide) (by decide) (by decide)]; exact g0 j hj
    · rw [hh 1 (by decide) (by decide) (by decide) (by decide) (by decide) (by decide) (by decide) (by decide) (by decide)]; exact g1
    · rw [hh 0 (by decide) (by decide) (by decide) (by decide) (by decide) (by decide) (by decide) (by decide) (by decide)]; exact g11
    · exact uA_c (u5 r hr) (q48 r (by omega)) (q50 r (by omega)) (q52 r (by omega)) (q54 r (by omega)) (q56 r (by omega)) (q58 r (by omega)) (fun y hy => ⟨q60 y (by omega), q62 y (by omega)⟩) (Nat.le_refl _)
