/-! the class's parser: its levels -/
theorem a_ft_w {s s' : Nat} {σ : xw_M} {pl : Nat → Nat} {k p : Nat} (h : a_ft s' σ pl k p) (l : s ≤ s') : a_ft s σ pl k p := by
  obtain ⟨h1, h2, h3, s1, l1, l2, e⟩ := h
  exact ⟨h1, h2, h3, s1, by omega, l2, e⟩
theorem j_lv28 : ∀ lv, lv < 5 → j_lv lv 28 = false := by decide
theorem sA_lvF : ∀ (d lv o : Nat) (σ : xw_M) (Z : xw_M → Prop), lv ≤ 5 → 6 ≤ d + lv → ¬ σ.1 3 3 = 0 → Z σ → xu_X3_parseLevel d σ (nI lv) (nI o) Z
  | 0, lv, o, σ, Z, h1, h2, _, _ => by omega
  | d + 1, lv, o, σ, Z, h1, h2, hn, hz => by
    intro K40 K56 h40 h56
    have k56 : ∀ v3 v4, K56 σ v3 v4 := by
      intro v3 v4
      apply h56
      refine ⟨fun _ => hz, fun _ => sA_seenF hn ?_⟩
      by_cases q : lv < 5
      · exact sA_joins (k := 28) q (by decide) (fun z => by rw [j_lv28 lv q] at z; cases z) (fun _ => ⟨fun _ => hz, fun z => absurd rfl z⟩)
      · obtain rfl : lv = 5 := by omega
        exact ⟨fun z => absurd z (by decide), fun _ => ⟨fun z => absurd z (by decide), fun _ => ⟨fun z => absurd z (by decide), fun _ => ⟨fun z => absurd z (by decide), fun _ => ⟨fun z => absurd z (by decide), fun _ => ⟨by simp, fun _ => hz, fun z => absurd rfl z⟩⟩⟩⟩⟩⟩
    have k40 : K40 σ := h40 σ ⟨fun _ => k56 _ _, fun _ => k56 _ _⟩
    refine ⟨fun z => ?_, fun z => ?_⟩
    · have q := (nI_ltI (b := 5) (by omega) (by decide)).mp z
      rw [nI_1]
      refine sA_lvF d (lv + 1) o σ _ (by omega) (by omega) hn ⟨fun _ => k40, fun _ => sA_seenF hn ?_⟩
      exact sA_joins (lv := 2) (k := 28) (by decide) (by decide) (fun z => absurd z (by decide)) (fun _ => ⟨fun z => absurd rfl z, fun _ => sA_failF hn k40⟩)
    · intro K54 h54
      refine sA_seenF hn ⟨fun _ => ⟨fun z => absurd z (by decide), fun _ => ⟨fun _ => ?_, fun z => absurd (by decide) z⟩⟩, fun z => absurd z (by decide)⟩
      apply h54
      exact ⟨fun z => absurd z (by decide), fun _ => sA_failF hn hz⟩
section LV
variable {kd pl : Nat → Nat} {va : Nat → Int32}
theorem sA_op {U : uLv} {lv o : Nat} {u : Nat → pR tF} (hkd : ∀ j, kd j < 29) (hlv : lv = 3 ∨ lv = 4) (OK : a_OK kd pl va tA (fun Z σ => U σ (nI (lv + 1)) (nI o) Z) u) (FT : a_FT (fun Z σ => U σ (nI (lv + 1)) (nI o) Z)) : a_OK kd pl va tA (fun Z σ => xo_X3_parseLevel U σ (nI lv) (nI o) Z) (gr_lv kd lv u) := by
  intro σ pos s Z T S g hs h K40 K56 h40 h56
  have gl := g.1
  unfold gr_lv at h
  rw [pc_bd] at h
  have ne2 : ¬ nI lv = (2 : Int32) := by rcases hlv with e | e <;> rw [e] <;> decide
  have l5 : lv < 5 := by omega
  have fK : ∀ σ1 v4, ¬ σ1.1 3 3 = 0 → Z σ1 → K56 σ1 400 v4 := by
    intro σ1 v4 hn hz
    apply h56
    exact ⟨fun _ => hz, fun _ => sA_seenF hn (sA_joins (k := 28) l5 (by decide) (fun z => by rw [j_lv28 lv l5] at z; cases z) (fun _ => ⟨fun _ => hz, fun z => absurd rfl z⟩))⟩
  have key : ∀ (n i q : Nat) (f : tF) (σ' : xw_M) (s' : Nat), n + i = 400 → a_fr s σ σ' → a_st σ' q s' → σ'.1 3 4 = σ.1 3 4 → gr_go kd q → pos < q → s ≤ s' → s' + pos ≤ q + s → tA (σ'.1 61) (σ'.1 63) s s' f → pc (gr_lp kd lv u n q f) (a_Fl pl s σ Z) (a_Z kd tA pos s σ Z) → K56 σ' 400 (nI i) := by
    intro n
    induction n with
    | zero =>
      intro i q f σ' s' hi fr st pe gq lq ls lb ht hpc
      apply h56
      obtain rfl : i = 400 := by omega
      exact ⟨fun _ => hpc σ' s' fr st pe gq lq ls lb ht, fun z => absurd (by decide) z⟩
    | succ n ih =>
      intro i q f σ' s' hi fr st pe gq lq ls lb ht hpc
      have gq1 := gq.1
      have T' := a_T_fr T fr
      apply h56
      unfold xb_X3_parseLevel_56
      rw [nI_1 lv, nI_1 i]
      simp only [gr_lp] at hpc
      refine ⟨fun z => absurd z (nI_ge (b := 400) (by omega) (by decide)), fun _ => sA_seen T' st gq (sA_joins l5 (hkd q) (fun j => ⟨fun z => absurd z (by decide), fun _ => sA_seen T' st gq ?_⟩) (fun j => ⟨fun _ => ?_, fun z => absurd rfl z⟩))⟩
      · rw [if_pos j, pc_bd] at hpc
        have jl := j_lv_lt j
        have jr : 18 ≤ kd q ∧ kd q ≤ 20 := by
          unfold j_lv at j
          rcases hlv with e | e
          · rw [e] at j
            simp at j
            omega
          · rw [e] at j
            simp at j
            omega
        refine sA_take hkd T' st gq (by omega) jl (pc_mono hpc (fun k p hF σ1 f1 ft1 => ?_) (fun q1 _ hZ eq σ1 f1 st1 pe1 g1 => ?_))
        · refine FT σ1 _ (a_ft_n ft1) (sA_addF (a_fr_t fr f1 ls) (a_ft_w ft1 ls) (fun σ2 f2 ft2 => ?_))
          exact fK σ2 _ (a_ft_n ft2) (hF σ2 f2 ft2)
        · rw [pc_bd] at hZ
          refine OK σ1 q1 s' _ (a_T_fr T' f1) st1 g1 (by omega) (pc_mono hZ (fun k p hF σ2 f2 ft2 => ?_) (fun q2 gg hZ2 σ2 s2 f2 st2 pe2 g2 l2 ls2 b2 t2 => ?_))
          · refine sA_addF (a_fr_t (a_fr_t fr f1 ls) f2 ls) (a_ft_w ft2 ls) (fun σ3 f3 ft3 => ?_)
            exact fK σ3 _ (a_ft_n ft3) (hF σ3 f3 ft3)
          · have g21 := g2.1
            refine sA_add st2.2.2 (by omega) (fun σ3 a3 => ?_)
            have f23 : a_fr s' σ' σ2 := a_fr_t f1 f2 (Nat.le_refl _)
            refine ih (i + 1) q2 _ σ3 (s2 + 1) (by omega) (a_fr_t (a_fr_t fr f23 ls) a3.1 (by omega)) (a_add_st st2 a3) (by rw [a3.2.1, pe2, pe1, pe]) g2 (by omega) (by omega) (by omega) ?_ hZ2
            refine tA_op (m := s') (by omega) (tA_c ht (fun x hx => ?_)) (tA_c t2 (fun x hx => ?_)) ?_
            · exact ⟨(a3.1.2.2 x (by omega)).1.trans (f23.2.2 x hx).1, (a3.1.2.2 x (by omega)).2.trans (f23.2.2 x hx).2⟩
            · exact a3.1.2.2 x hx
            · rw [a3.2.2.2.1, show 18 + (kd q - 18) = kd q by omega]
      · rw [if_neg (by rw [j]; decide)] at hpc
        exact hpc σ' s' fr st pe gq lq ls lb ht
  refine ⟨fun _ => ?_, fun z => absurd (nI_lt (b := 5) l5 (by decide)) z⟩
  rw [nI_1]
  refine OK σ pos s _ T S g hs (pc_mono h (fun k p hF σ1 f1 ft1 => ?_) (fun q f hZ σ1 s1 f1 st1 pe1 g1 l1 ls1 b1 t1 => ?_))
  · exact ⟨fun _ => h40 σ1 ⟨fun _ => fK σ1 _ (a_ft_n ft1) (hF σ1 f1 ft1), fun z => absurd z ne2⟩, fun z => absurd z ne2⟩
  · exact ⟨fun _ => h40 σ1 ⟨fun _ => key 400 0 q f σ1 s1 (by omega) f1 st1 pe1 g1 l1 ls1 b1 t1 hZ, fun z => absurd z ne2⟩, fun z => absurd z ne2⟩
theorem sA_unit {U : uLv} {o : Nat} {P : Option (Nat → pR tF)} (hkd : ∀ j, kd j < 29) (hP : (P = none ∧ o = 6) ∨ ∃ e, P = some e ∧ o < 6 ∧ a_OK kd pl va tA (fun Z σ => U σ (nI 3) (nI (o + 1)) Z) e ∧ a_FT (fun Z σ => U σ (nI 3) (nI (o + 1)) Z)) : a_OK kd pl va tA (fun Z σ => xo_X3_parseUnit U σ (nI o) Z) (gr_unit kd va P) := by
  intro σ pos s Z T S g hs h K54 h54
  have gl := g.1
  have hp := hkd pos
  have qq : ∀ d : Nat, d < 300 → (nI (kd pos) = nI d ↔ kd pos = d) := fun d hd => nI_eq (by omega) (by omega)
  unfold gr_unit at h
  refine sA_seen T S g ⟨fun n16 => ⟨fun z => absurd z (nI_pos (by omega)), fun _ => ⟨fun z9 => ?_, fun z9 => ?_⟩⟩, fun e16 => ?_⟩
  · have h9 := (nI_leI (a := 9) (by decide) (by omega)).mp z9
    have n16' : ¬ kd pos = 16 := fun q => n16 (by rw [q]; rfl)
    rw [if_neg n16', if_neg (by omega)] at h
    apply h54
    refine ⟨fun z => ?_, fun z => ?_⟩
    · have e25 := (qq 25 (by decide)).mp z
      rw [if_pos e25] at h
      rcases hP with ⟨rfl, rfl⟩ | ⟨e, rfl, ho, OK, FT⟩
      · exact ⟨fun z => absurd z (by decide), fun _ => sA_fail (k := 2) T S g (by omega) (Or.inr rfl) h⟩
      · refine ⟨fun _ => ?_, fun z => absurd (nI_lt (b := 6) ho (by decide)) z⟩
        have h' : pc (gr_bd (gr_tk kd 25 pos) (fun q _ => gr_bd (e q) (fun q2 f => gr_bd (gr_tk kd 26 q2) (fun q3 _ => .inr (q3, f))))) (a_Fl pl s σ Z) (a_Z kd tA pos s σ Z) := h
        rw [pc_bd] at h'
        rw [nI_1]
        refine sA_take (k := 25) hkd T S g (by omega) (by decide) (pc_mono h' (fun k p hF σ1 f1 ft1 => ?_) (fun q1 _ hZ eq σ1 f1 st1 pe1 g1 => ?_))
        · exact FT σ1 _ (a_ft_n ft1) (sA_takeF (k := 26) (a_ft_n ft1) (by decide) (hF σ1 f1 ft1))
        · rw [pc_bd] at hZ
          refine OK σ1 q1 s _ (a_T_fr T f1) st1 g1 (by omega) (pc_mono hZ (fun k p hF σ2 f2 ft2 => ?_) (fun q2 ff hZ2 σ2 s2 f2 st2 pe2 g2 l2 ls2 b2 t2 => ?_))
          · exact sA_takeF (k := 26) (a_ft_n ft2) (by decide) (hF σ2 (a_fr_t f1 f2 (Nat.le_refl _)) ft2)
          · rw [pc_bd] at hZ2
            have g21 := g2.1
            have f12 : a_fr s σ σ2 := a_fr_t f1 f2 (Nat.le_refl _)
            refine sA_take (k := 26) hkd (a_T_fr T f12) st2 g2 (by omega) (by decide) (pc_mono hZ2 (fun k p hF σ3 f3 ft3 => ?_) (fun q3 _ hZ3 eq3 σ3 f3 st3 pe3 g3 => ?_))
            · exact hF σ3 (a_fr_t f12 f3 ls2) (a_ft_w ft3 ls2)
            · exact hZ3 σ3 s2 (a_fr_t f12 f3 ls2) st3 (by rw [pe3, pe2, pe1]) g3 (by omega) ls2 (by omega) (tA_c t2 (fun x hx => f3.2.2 x hx))
    · rw [if_neg (fun q => z (by rw [q]; rfl))] at h
      exact sA_fail (k := 1) T S g (by omega) (Or.inl rfl) h
  · have h9 : kd pos < 9 := Nat.not_le.mp fun q => z9 (nI_le (a := 9) q (by omega))
    rw [if_neg (by omega), if_pos h9, pc_bd] at h
    refine sA_take hkd T S g (by omega) (by omega) (pc_mono h (fun k p hF σ1 f1 ft1 => ?_) (fun q1 _ hZ eq σ1 f1 st1 pe1 g1 => ?_))
    · exact sA_addF f1 ft1 hF
    · have g11 := g1.1
      refine sA_add st1.2.2 (by omega) (fun σ2 a2 => hZ σ2 (s + 1) (a_fr_t f1 a2.1 (Nat.le_refl _)) (a_add_st st1 a2) (by rw [a2.2.1, pe1]) g1 (by omega) (by omega) (by omega) (tA_var h9 a2.2.2.2.1))
  · have e16' := (qq 16 (by decide)).mp e16
    rw [if_pos e16', pc_bd] at h
    refine sA_tint hkd T S g (by omega) ?_
    unfold gr_int
    rw [pc_bd]
    refine pc_mono h (fun k p hF v σ1 f1 ft1 => sA_addF f1 ft1 hF) (fun q1 _ hZ eq σ1 f1 st1 pe1 g1 => ?_)
    have g11 := g1.1
    refine sA_add st1.2.2 (by omega) (fun σ2 a2 => hZ σ2 (s + 1) (a_fr_t f1 a2.1 (Nat.le_refl _)) (a_add_st st1 a2) (by rw [a2.2.1, pe1]) g1 (by omega) (by omega) (by omega) ?_)
    have := tA_int (nu := σ2.1 63) a2.2.2.2.1
    rw [a2.2.2.2.2] at this
    exact this
theorem sA_E (hkd : ∀ j, kd j < 29) : ∀ (b o d : Nat), o + b = 6 → 3 + 3 * b ≤ d → a_OK kd pl va tA (fun Z σ => xu_X3_parseLevel d σ (nI 3) (nI o) Z) (gr_E kd (gr_un kd va b)) := by
  intro b
  induction b with
  | zero =>
    intro o d ho hd
    obtain ⟨d', rfl⟩ : ∃ d', d = d' + 1 + 1 + 1 := ⟨d - 3, by omega⟩
    refine sA_op hkd (Or.inl rfl) (sA_op hkd (Or.inr rfl) ?_ (fun σ Z n z => sA_lvF (d' + 1) 5 o σ Z (by omega) (by omega) n z)) (fun σ Z n z => sA_lvF (d' + 1 + 1) 4 o σ Z (by omega) (by omega) n z)
    have u := sA_unit (U := xu_X3_parseLevel d') (P := none) (va := va) (pl := pl) hkd (Or.inl ⟨rfl, (by omega : o = 6)⟩)
    intro σ pos s Z T S g hs h K40 K56 h40 h56
    exact ⟨fun z => absurd z (by decide), fun _ => u σ pos s Z T S g hs h⟩
  | succ b ih =>
    intro o d ho hd
    obtain ⟨d', rfl⟩ : ∃ d', d = d' + 1 + 1 + 1 := ⟨d - 3, by omega⟩
    refine sA_op hkd (Or.inl rfl) (sA_op hkd (Or.inr rfl) ?_ (fun σ Z n z => sA_lvF (d' + 1) 5 o σ Z (by omega) (by omega) n z)) (fun σ Z n z => sA_lvF (d' + 1 + 1) 4 o σ Z (by omega) (by omega) n z)
    have u := sA_unit (U := xu_X3_parseLevel d') (P := some (gr_E kd (gr_un kd va b))) (va := va) (pl := pl) hkd (Or.inr ⟨_, rfl, by omega, ih (o + 1) d' (by omega) (by omega), fun σ Z n z => sA_lvF d' 3 (o + 1) σ Z (by omega) (by omega) n z⟩)
    intro σ pos s Z T S g hs h K40 K56 h40 h56
    exact ⟨fun z => absurd z (by decide), fun _ => u σ pos s Z T S g hs h⟩
theorem sA_rel (hkd : ∀ j, kd j < 29) {d : Nat} (hd : 21 ≤ d) : a_OK kd pl va tAr (fun Z σ => xu_X3_parseLevel (d + 1) σ (nI 2) (nI 0) Z) (gr_rel kd va) := by
  have OK : a_OK kd pl va tA (fun Z σ => xu_X3_parseLevel d σ (nI 3) (nI 0) Z) (gr_ex kd va) := sA_E hkd 6 0 d (by decide) (by omega)
  have FT : a_FT (fun Z σ => xu_X3_parseLevel d σ (nI 3) (nI 0) Z) := fun σ Z n z => sA_lvF d 3 0 σ Z (by omega) (by omega) n z
  intro σ pos s Z T S g hs h K40 K56 h40 h56
  have gl := g.1
  unfold gr_rel at h
  rw [pc_bd] at h
  have fK : ∀ σ1, ¬ σ1.1 3 3 = 0 → Z σ1 → K40 σ1 := by
    intro σ1 hn hz
    apply h40
    refine ⟨fun z => absurd rfl z, fun _ => ?_⟩
    apply h56
    exact ⟨fun _ => hz, fun _ => sA_seenF hn (sA_joins (lv := 2) (k := 28) (by decide) (by decide) (fun z => absurd z (by decide)) (fun _ => ⟨fun _ => hz, fun z => absurd rfl z⟩))⟩
  have e56 : ∀ σ1, Z σ1 → K56 σ1 1 1 := fun σ1 z => h56 _ _ _ ⟨fun _ => z, fun q => absurd (by decide) q⟩
  refine ⟨fun _ => ?_, fun z => absurd (by decide) z⟩
  refine OK σ pos s _ T S g hs (pc_mono h (fun k p hF σ1 f1 ft1 => ?_) (fun q f hZ σ1 s1 f1 st1 pe1 g1 l1 ls1 b1 t1 => ?_))
  · refine ⟨fun z => absurd rfl z, fun _ => sA_seenF (a_ft_n ft1) (sA_joins (lv := 2) (k := 28) (by decide) (by decide) (fun z => absurd z (by decide)) (fun _ => ⟨fun z => absurd rfl z, fun _ => sA_failF (a_ft_n ft1) (fK σ1 (a_ft_n ft1) (hF σ1 f1 ft1))⟩))⟩
  · have T1 := a_T_fr T f1
    have g11 := g1.1
    refine ⟨fun z => absurd rfl z, fun _ => sA_seen T1 st1 g1 (sA_joins (lv := 2) (by decide) (hkd q) (fun j => ⟨fun _ => ?_, fun z => absurd z (by decide)⟩) (fun j => ⟨fun z => absurd rfl z, fun _ => ?_⟩))⟩
    · rw [if_pos j, pc_bd] at hZ
      have jl := j_lv_lt j
      have jr : 21 ≤ kd q ∧ kd q ≤ 24 := by simpa [j_lv] using j
      apply h40
      refine ⟨fun z => absurd rfl z, fun _ => ?_⟩
      apply h56
      refine ⟨fun z => absurd z (by decide), fun _ => sA_seen T1 st1 g1 (sA_joins (lv := 2) (by decide) (hkd q) (fun _ => ⟨fun z => absurd z (by decide), fun _ => sA_seen T1 st1 g1 ?_⟩) (fun z => by rw [j] at z; cases z))⟩
      refine sA_take hkd T1 st1 g1 (by omega) jl (pc_mono hZ (fun k p hF σ2 f2 ft2 => ?_) (fun q2 _ hZ2 eq σ2 f2 st2 pe2 g2 => ?_))
      · refine FT σ2 _ (a_ft_n ft2) (sA_addF (a_fr_t f1 f2 ls1) (a_ft_w ft2 ls1) (fun σ3 f3 ft3 => ?_))
        exact e56 σ3 (hF σ3 f3 ft3)
      · rw [pc_bd] at hZ2
        refine OK σ2 q2 s1 _ (a_T_fr T1 f2) st2 g2 (by omega) (pc_mono hZ2 (fun k p hF σ3 f3 ft3 => ?_) (fun q3 gg hZ3 σ3 s3 f3 st3 pe3 g3 l3 ls3 b3 t3 => ?_))
        · refine sA_addF (a_fr_t (a_fr_t f1 f2 ls1) f3 ls1) (a_ft_w ft3 ls1) (fun σ4 f4 ft4 => ?_)
          exact e56 σ4 (hF σ4 f4 ft4)
        · have g31 := g3.1
          refine sA_add st3.2.2 (by omega) (fun σ4 a4 => e56 σ4 ?_)
          have f23 : a_fr s1 σ1 σ3 := a_fr_t f2 f3 (Nat.le_refl _)
          refine hZ3 σ4 (s3 + 1) (a_fr_t (a_fr_t f1 f23 ls1) a4.1 (by omega)) (a_add_st st3 a4) (by rw [a4.2.1, pe3, pe2, pe1]) g3 (by omega) (by omega) (by omega) ?_
          refine ⟨s1, s3, kd q - 21, f, gg, by omega, tA_c t1 (fun x hx => ?_), tA_c t3 (fun x hx => a4.1.2.2 x hx), ?_, rfl, rfl⟩
          · exact ⟨(a4.1.2.2 x (by omega)).1.trans (f23.2.2 x hx).1, (a4.1.2.2 x (by omega)).2.trans (f23.2.2 x hx).2⟩
          · rw [a4.2.2.2.1, show 21 + (kd q - 21) = kd q by omega]
    · rw [if_neg (by rw [j]; decide)] at hZ
      refine sA_fail (k := 1) T1 st1 g1 (by omega) (Or.inl rfl) (fun σ2 f2 ft2 => fK σ2 (a_ft_n ft2) (hZ σ2 (a_fr_t f1 f2 ls1) (a_ft_w ft2 ls1)))
theorem sA_sep {α : Type} {U : uLv} {lv o : Nat} {r : Nat → pR α} {V : (Nat → Int32) → (Nat → Int32) → Nat → Nat → α → Prop} {W V2 : (Nat → Int32) → (Nat → Int32) → Nat → Nat → List α → Prop} {sg : Int32} (hkd : ∀ j, kd j < 29) (hlv : lv < 2) (hsg : ∀ k, j_lv lv k = true → nI k = sg)
    (W0 : ∀ st nu i, W st nu i i []) (Wc : ∀ st nu i m j x l, V st nu i m x → st m = sg → W st nu (m + 1) j l → W st nu i j (x :: l)) (VW : ∀ st nu i m j x l, V st nu i m x → W st nu m j l → V2 st nu i j (x :: l)) (Vc : ∀ st nu st' nu' i j x, V st nu i j x → (∀ y, y < j → st' y = st y ∧ nu' y = nu y) → V st' nu' i j x)
    (OK : a_OK kd pl va V (fun Z σ => U σ (nI (lv + 1)) (nI o) Z) r) (FT : a_FT (fun Z σ => U σ (nI (lv + 1)) (nI o) Z)) : a_OK kd pl va V2 (fun Z σ => xo_X3_parseLevel U σ (nI lv) (nI o) Z) (gr_sep kd lv r) := by
  intro σ pos s Z T S g hs h K40 K56 h40 h56
  have gl := g.1
  unfold gr_sep at h
  rw [pc_bd] at h
  have ne2 : ¬ nI lv = (2 : Int32) := by rcases (show lv = 0 ∨ lv = 1 by omega) with e | e <;> rw [e] <;> decide
  have l5 : lv < 5 := by omega
  have fK : ∀ σ1 v4, ¬ σ1.1 3 3 = 0 → Z σ1 → K56 σ1 400 v4 := by
    intro σ1 v4 hn hz
    apply h56
    exact ⟨fun _ => hz, fun _ => sA_seenF hn (sA_joins (k := 28) l5 (by decide) (fun z => by rw [j_lv28 lv l5] at z; cases z) (fun _ => ⟨fun _ => hz, fun z => absurd rfl z⟩))⟩
  have key : ∀ (n i q : Nat) (σ' : xw_M) (m : Nat), n + i = 400 → a_T σ' kd pl va → a_st σ' q m → gr_go kd q → m ≤ q → pc (gr_lst kd lv r n q) (a_Fl pl m σ' Z) (fun q2 l => ∀ σ2 s2, a_fr m σ' σ2 → a_st σ2 q2 s2 → σ2.1 3 4 = σ'.1 3 4 → gr_go kd q2 → q ≤ q2 → m ≤ s2 → s2 + q ≤ q2 + m → W (σ2.1 61) (σ2.1 63) m s2 l → Z σ2) → K56 σ' 400 (nI i) := by
    intro n
    induction n with
    | zero =>
      intro i q σ' m hi T' st gq lm hpc
      apply h56
      obtain rfl : i = 400 := by omega
      exact ⟨fun _ => hpc σ' m a_fr_0 st rfl gq (Nat.le_refl _) (Nat.le_refl _) (by omega) (W0 _ _ _), fun z => absurd (by decide) z⟩
    | succ n ih =>
      intro i q σ' m hi T' st gq lm hpc
      have gq1 := gq.1
      apply h56
      unfold xb_X3_parseLevel_56
      rw [nI_1 lv, nI_1 i]
      simp only [gr_lst] at hpc
      refine ⟨fun z => absurd z (nI_ge (b := 400) (by omega) (by decide)), fun _ => sA_seen T' st gq (sA_joins l5 (hkd q) (fun j => ⟨fun z => absurd z (by decide), fun _ => sA_seen T' st gq ?_⟩) (fun j => ⟨fun _ => ?_, fun z => absurd rfl z⟩))⟩
      · rw [if_pos j, pc_bd] at hpc
        have jl := j_lv_lt j
        refine sA_take hkd T' st gq (by omega) jl (pc_mono hpc (fun k p hF σ1 f1 ft1 => ?_) (fun q1 _ hZ eq σ1 f1 st1 pe1 g1 => ?_))
        · refine FT σ1 _ (a_ft_n ft1) (sA_addF f1 ft1 (fun σ2 f2 ft2 => ?_))
          exact fK σ2 _ (a_ft_n ft2) (hF σ2 f2 ft2)
        · rw [pc_bd] at hZ
          refine OK σ1 q1 m _ (a_T_fr T' f1) st1 g1 (by omega) (pc_mono hZ (fun k p hF σ2 f2 ft2 => ?_) (fun q2 x hZ2 σ2 s2 f2 st2 pe2 g2 l2 ls2 b2 t2 => ?_))
          · refine sA_addF (a_fr_t f1 f2 (Nat.le_refl _)) ft2 (fun σ3 f3 ft3 => ?_)
            exact fK σ3 _ (a_ft_n ft3) (hF σ3 f3 ft3)
          · have g21 := g2.1
            rw [pc_bd] at hZ2
            refine sA_add st2.2.2 (by omega) (fun σ3 a3 => ?_)
            have f13 : a_fr m σ' σ3 := a_fr_t (a_fr_t f1 f2 (Nat.le_refl _)) a3.1 ls2
            refine ih (i + 1) q2 σ3 (s2 + 1) (by omega) (a_T_fr T' f13) (a_add_st st2 a3) g2 (by omega) (pc_mono hZ2 (fun k p hF σ4 f4 ft4 => ?_) (fun q4 l hZ4 σ4 s4 f4 st4 pe4 g4 l4 ls4 b4 t4 => ?_))
            · exact hF σ4 (a_fr_t f13 f4 (by omega)) (a_ft_w ft4 (by omega))
            · refine hZ4 σ4 s4 (a_fr_t f13 f4 (by omega)) st4 (by rw [pe4, a3.2.1, pe2, pe1]) g4 (by omega) (by omega) (by omega) ?_
              refine Wc _ _ _ s2 _ _ _ (Vc _ _ _ _ _ _ _ t2 (fun y hy => ?_)) ?_ t4
              · exact ⟨(f4.2.2 y (by omega)).1.trans (a3.1.2.2 y hy).1, (f4.2.2 y (by omega)).2.trans (a3.1.2.2 y hy).2⟩
              · rw [(f4.2.2 s2 (by omega)).1, a3.2.2.2.1]
                exact hsg _ j
      · rw [if_neg (by rw [j]; decide)] at hpc
        exact hpc σ' m a_fr_0 st rfl gq (Nat.le_refl _) (Nat.le_refl _) (by omega) (W0 _ _ _)
  refine ⟨fun _ => ?_, fun z => absurd (nI_lt (b := 5) l5 (by decide)) z⟩
  rw [nI_1]
  refine OK σ pos s _ T S g hs (pc_mono h (fun k p hF σ1 f1 ft1 => ?_) (fun q x hZ σ1 s1 f1 st1 pe1 g1 l1 ls1 b1 t1 => ?_))
  · exact ⟨fun _ => h40 σ1 ⟨fun _ => fK σ1 _ (a_ft_n ft1) (hF σ1 f1 ft1), fun z => absurd z ne2⟩, fun z => absurd z ne2⟩
  · rw [pc_bd] at hZ
    refine ⟨fun _ => h40 σ1 ⟨fun _ => key 400 0 q σ1 s1 (by omega) (a_T_fr T f1) st1 g1 (by omega) (pc_mono hZ (fun k p hF σ2 f2 ft2 => hF σ2 (a_fr_t f1 f2 ls1) (a_ft_w ft2 ls1)) (fun q2 l hZ2 σ2 s2 f2 st2 pe2 g2 l2 ls2 b2 t2 => ?_)), fun z => absurd z ne2⟩, fun z => absurd z ne2⟩
    exact hZ2 σ2 s2 (a_fr_t f1 f2 ls1) st2 (by rw [pe2, pe1]) g2 (by omega) (by omega) (by omega) (VW _ _ _ s1 _ _ _ (Vc _ _ _ _ _ _ _ t1 (fun y hy => f2.2.2 y hy)) t2)
theorem j_lv1 {k : Nat} (h : j_lv 1 k = true) : nI k = 15 := by
  have : k = 15 := by simpa [j_lv] using h
  rw [this]; rfl
theorem j_lv0 {k : Nat} (h : j_lv 0 k = true) : nI k = 14 := by
  have : k = 14 := by simpa [j_lv] using h
  rw [this]; rfl
theorem sA_all (hkd : ∀ j, kd j < 29) {d : Nat} (hd : 21 ≤ d) : a_OK kd pl va (fun st nu i j l => tAall st nu l i j) (fun Z σ => xu_X3_parseLevel (d + 1 + 1) σ (nI 1) (nI 0) Z) (gr_all kd va) :=
  sA_sep (lv := 1) (V := tAr) (W := fun st nu i j l => tAand st nu l i j) (sg := 15) hkd (by decide) (fun _ h => j_lv1 h) (fun _ _ _ => rfl) (fun _ _ _ m _ _ _ a b c => ⟨m, a, b, c⟩) (fun _ _ _ m _ _ _ a b => ⟨m, a, b⟩) (fun _ _ _ _ _ _ _ a b => tAr_c a b) (sA_rel hkd hd) (fun σ Z n z => sA_lvF (d + 1) 2 0 σ Z (by omega) (by omega) n z)
theorem sA_cond (hkd : ∀ j, kd j < 29) {d : Nat} (hd : 21 ≤ d) : a_OK kd pl va (fun st nu i j l => tAcond st nu l i j) (fun Z σ => xu_X3_parseLevel (d + 1 + 1 + 1) σ (nI 0) (nI 0) Z) (gr_cond kd va) :=
  sA_sep (lv := 0) (V := fun st nu i j l => tAall st nu l i j) (W := fun st nu i j l => tAors st nu l i j) (sg := 14) hkd (by decide) (fun _ h => j_lv0 h) (fun _ _ _ => rfl) (fun _ _ _ m _ _ _ a b c => ⟨m, a, b, c⟩) (fun _ _ _ m _ _ _ a b => ⟨m, a, b⟩) (fun _ _ _ _ _ _ _ a b => tAall_c a b) (sA_all hkd hd) (fun σ Z n z => sA_lvF (d + 1 + 1) 1 0 σ Z (by omega) (by omega) n z)
end LV
