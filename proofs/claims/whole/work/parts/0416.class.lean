/-! CLASSES and BARS -/
def t_agr (va vb : Nat → Int32) : Prop := ∀ k, k < 9 → va k = vb k
theorem tA_agr {st nu : Nat → Int32} {i j : Nat} {f : tF} (h : tA st nu i j f) {va vb : Nat → Int32} (g : t_agr va vb) : f va = f vb := by
  refine h (fun _ _ f => f va = f vb) (fun _ _ => rfl) (fun i k hk _ => g k hk) (fun i m n k f1 g1 _ _ _ e1 e2 _ => ?_)
  show t_op k (f1 va) (g1 va) = t_op k (f1 vb) (g1 vb)
  rw [e1, e2]
theorem tAr_agr {st nu : Nat → Int32} {i j : Nat} {R : tG} (h : tAr st nu i j R) {va vb : Nat → Int32} (g : t_agr va vb) : R va = R vb := by
  obtain ⟨m, n, s, f1, g1, _, h1, h2, _, _, rfl⟩ := h
  show t_rel s (f1 va) (g1 va) = t_rel s (f1 vb) (g1 vb)
  rw [tA_agr h1 g, tA_agr h2 g]
theorem tAand_agr {st nu : Nat → Int32} {va vb : Nat → Int32} (g : t_agr va vb) : ∀ {l : List tG} {i j : Nat}, tAand st nu l i j → t_all va l = t_all vb l
  | [], _, _, _ => rfl
  | R :: l, i, j, ⟨n, h1, _, h2⟩ => by
    have e1 := tAr_agr h1 g
    have e2 := tAand_agr g h2
    simp only [t_all, List.all_cons] at *
    rw [e1, e2]
theorem tAall_agr {st nu : Nat → Int32} {va vb : Nat → Int32} (g : t_agr va vb) : ∀ {l : List tG} {i j : Nat}, tAall st nu l i j → t_all va l = t_all vb l
  | [], _, _, h => h.elim
  | R :: l, i, j, ⟨n, h1, h2⟩ => by
    have e1 := tAr_agr h1 g
    have e2 := tAand_agr g h2
    simp only [t_all, List.all_cons] at *
    rw [e1, e2]
theorem tAors_agr {st nu : Nat → Int32} {va vb : Nat → Int32} (g : t_agr va vb) : ∀ {l : List (List tG)} {i j : Nat}, tAors st nu l i j → t_cond va l = t_cond vb l
  | [], _, _, _ => rfl
  | R :: l, i, j, ⟨n, h1, _, h2⟩ => by
    have e1 := tAall_agr g h1
    have e2 := tAors_agr g h2
    simp only [t_cond, List.any_cons] at *
    rw [e1, e2]
theorem tAcond_agr {st nu : Nat → Int32} {va vb : Nat → Int32} (g : t_agr va vb) : ∀ {l : List (List tG)} {i j : Nat}, tAcond st nu l i j → t_cond va l = t_cond vb l
  | [], _, _, _ => rfl
  | R :: l, i, j, ⟨n, h1, h2⟩ => by
    have e1 := tAall_agr g h1
    have e2 := tAors_agr g h2
    simp only [t_cond, List.any_cons] at *
    rw [e1, e2]
theorem l_find_cong {P Q : Nat → Bool} : ∀ {k i : Nat}, (∀ r, i ≤ r → r < i + k → P r = Q r) → l_find P k i = l_find Q k i
  | 0, _, _ => rfl
  | k + 1, i, h => by
    simp only [l_find]
    rw [h i (Nat.le_refl i) (by omega), l_find_cong (fun r h1 h2 => h r (by omega) (by omega))]
theorem t_first_agr {o nr sz k : Nat} {σ : xw_M} {F : Nat → tU} (hT : TA o σ nr sz F) {va vb : Nat → Int32} (g : t_agr va vb) : t_first F nr k va = t_first F nr k vb := by
  refine l_find_cong (fun r _ hr => ?_)
  obtain ⟨_, _, _, _, p, q, u, _, _, _, _, _, _, _, h⟩ := hT.2.2.2.2 r (by omega)
  unfold t_holds
  rw [tAcond_agr g h]
/-- all that the calls behind a plan or a result look at -/
def m_C (σ τ : xw_M) (nb nd ns nf live nr sz : Nat) (F : Nat → tU) : Prop :=
  r_kin (σ.1 28) (τ.1 25) ∧ r_permits (σ.1 29) (τ.1 26) ∧ r_rings (σ.1 0 10) (τ.1 0 41) ∧
  r_breeds nb (σ.1 4 11) (τ.1 0 42) (σ.1 30) (σ.1 31) (σ.1 32) (σ.1 33) (τ.1 27) (τ.1 28) (τ.1 29) (τ.1 30) ∧
  r_dogs nb nd (σ.1 4 12) (τ.1 0 47) (σ.1 34) (σ.1 35) (σ.1 36) (σ.1 37) (σ.1 38) (τ.1 31) (τ.1 32) (τ.1 33) (τ.1 34) (τ.1 35) ∧
  r_shows ns nd (σ.1 0 9) (τ.1 0 53) (fun i => σ.1 (11 + i)) (τ.1 36) (τ.1 37) ∧
  r_facts nf ns nd (σ.1 5 6) (τ.1 0 56) (σ.1 39) (σ.1 40) (σ.1 41) (σ.1 42) (σ.1 43) (τ.1 38) (τ.1 39) (τ.1 40) (τ.1 41) ∧
  r_plan nb (fun i => σ.1 (66 + i)) (τ.1 44) (τ.1 45) (τ.1 46) (τ.1 47) ∧ TA 0 σ nr sz F ∧ τ.1 0 18 = nI live ∧ TB τ live nr F
def fA (σ σ1 : xw_M) : Prop := ∀ c, c ≠ 44 → c ≠ 64 → σ1.1 c = σ.1 c
def fB (τ τ1 : xw_M) : Prop := (∀ c, c ≠ 42 → c ≠ 43 → τ1.1 c = τ.1 c) ∧ τ1.2 = τ.2
theorem fA_0 {σ : xw_M} : fA σ σ := fun _ _ _ => rfl
theorem fB_0 {τ : xw_M} : fB τ τ := ⟨fun _ _ _ => rfl, rfl⟩
theorem fA_t {a b c : xw_M} (h1 : fA a b) (h2 : fA b c) : fA a c := fun x y z => (h2 x y z).trans (h1 x y z)
theorem fB_t {a b c : xw_M} (h1 : fB a b) (h2 : fB b c) : fB a c := ⟨fun x y z => (h2.1 x y z).trans (h1.1 x y z), h2.2.trans h1.2⟩
theorem fA_v {σ σ1 : xw_M} {j : Nat} {v : Int32} (h : fA σ σ1) : fA σ (xw_i σ1 44 j v) := fun c h1 h2 => (xw_ne h1).trans (h c h1 h2)
theorem fB_v {τ τ1 : xw_M} {j : Nat} {v : Int32} (h : fB τ τ1) : fB τ (xw_i τ1 42 j v) := ⟨fun c h1 h2 => (xw_ne h1).trans (h.1 c h1 h2), h.2⟩
theorem fA_F {σ σ1 σ2 : xw_M} (h : fA σ σ1) (h2 : vA_F σ1 σ2) : fA σ σ2 := fun c a b => (h2 c b).trans (h c a b)
theorem fB_F {τ τ1 τ2 : xw_M} (h : fB τ τ1) (h2 : vB_F τ1 τ2) : fB τ τ2 := ⟨fun c a b => (h2.1 c b).trans (h.1 c a b), h2.2.trans h.2⟩
theorem r_R_C {σ τ : xw_M} (h : r_R tX σ τ) : ∃ nb nd ns nf live nr sz F, m_C σ τ nb nd ns nf live nr sz F := by
  obtain ⟨nt, nb, nd, ns, nf, h1, h2, h3, h4, h5, h6, h7, h8, h9, h10, _, live, nr, sz, F, t1, t2, t3⟩ := h
  exact ⟨nb, nd, ns, nf, live, nr, sz, F, h2, h3, h4, h6, h7, h8, h9, h10, t1, t2, t3 τ tSd_0⟩
theorem r_R_f {σ τ σ1 τ1 : xw_M} (h : r_R tX σ τ) (f : fA σ σ1) (g : fB τ τ1) : r_R tX σ1 τ1 := by
  obtain ⟨nt, nb, nd, ns, nf, h1, h2, h3, h4, h5, h6, h7, h8, h9, h10, h11⟩ := h
  have a : ∀ c, c ≠ 44 → c ≠ 64 → σ1.1 c = σ.1 c := f
  have b := g.1
  have D : ∀ n : Nat, n ≠ n + 1 := by intro n; omega
  refine ⟨nt, nb, nd, ns, nf, ?_, ?_, ?_, ?_, ?_, ?_, ?_, ?_, ?_, ?_, tX_ok _ _ _ _ h11 (by rw [g.2]) (fun c hc => f c (by omega) (by omega)) (by rw [b 0 (by decide) (by decide)]) (fun c c1 c2 => b c (by omega) (by omega))⟩
  · rw [a 1 (by decide) (by decide), b 0 (by decide) (by decide), a 24 (by decide) (by decide), b 1 (by decide) (by decide)]; exact h1
  · rw [a 28 (by decide) (by decide), b 25 (by decide) (by decide)]; exact h2
  · rw [a 29 (by decide) (by decide), b 26 (by decide) (by decide)]; exact h3
  · rw [a 0 (by decide) (by decide), b 0 (by decide) (by decide)]; exact h4
  · rw [a 0 (by decide) (by decide), b 0 (by decide) (by decide)]; exact h5
  · rw [a 4 (by decide) (by decide), b 0 (by decide) (by decide), a 30 (by decide) (by decide), a 31 (by decide) (by decide), a 32 (by decide) (by decide), a 33 (by decide) (by decide), b 27 (by decide) (by decide), b 28 (by decide) (by decide), b 29 (by decide) (by decide), b 30 (by decide) (by decide)]; exact h6
  · rw [a 4 (by decide) (by decide), b 0 (by decide) (by decide), a 34 (by decide) (by decide), a 35 (by decide) (by decide), a 36 (by decide) (by decide), a 37 (by decide) (by decide), a 38 (by decide) (by decide), b 31 (by decide) (by decide), b 32 (by decide) (by decide), b 33 (by decide) (by decide), b 34 (by decide) (by decide), b 35 (by decide) (by decide)]; exact h7
  · rw [a 0 (by decide) (by decide), b 0 (by decide) (by decide), b 36 (by decide) (by decide), b 37 (by decide) (by decide)]
    exact r_shows_c h8 (fun i hi => a _ (by omega) (by omega))
  · rw [a 5 (by decide) (by decide), b 0 (by decide) (by decide), a 39 (by decide) (by decide), a 40 (by decide) (by decide), a 41 (by decide) (by decide), a 42 (by decide) (by decide), a 43 (by decide) (by decide), b 38 (by decide) (by decide), b 39 (by decide) (by decide), b 40 (by decide) (by decide), b 41 (by decide) (by decide)]; exact h9
  · rw [b 44 (by decide) (by decide), b 45 (by decide) (by decide), b 46 (by decide) (by decide), b 47 (by decide) (by decide)]
    exact r_plan_c h10 (fun i hi => a _ (by omega) (by omega))
def m_br (σ : xw_M) (d : Nat) : Nat := (σ.1 34 d).toNatClampNeg
def m_day (σ : xw_M) (s : Nat) : Int32 := σ.1 (11 + s) 2
def m_cV (σ : xw_M) (s d k : Nat) : Int32 := if k = 0 then (if (0 : Int32) < m_day σ s - σ.1 35 d then m_day σ s - σ.1 35 d else 0) else if k = 1 then σ.1 36 d else if k = 2 then σ.1 34 d else if k = 3 then σ.1 30 (m_br σ d) else 0
def m_cls (σ : xw_M) (F : Nat → tU) (nr s d : Nat) : Int32 := match t_first F nr 1 (m_cV σ s d) with
  | none => -1
  | some r => (F r).2.1
section CLASS
variable {σ0 τ0 : xw_M} {nb nd ns nf live nr sz : Nat} {F : Nat → tU}
theorem m_brk (H : m_C σ0 τ0 nb nd ns nf live nr sz F) {d : Nat} (hd : d < nd) : m_br σ0 d < nb ∧ σ0.1 34 d = nI (m_br σ0 d) ∧ τ0.1 31 d = nI (m_br σ0 d) := by
  obtain ⟨-, -, -, ⟨b1, -⟩, ⟨q1, q2, q3, q4⟩, -⟩ := H
  obtain ⟨g1, _, _, _, _, ⟨k, hk, ek⟩, _⟩ := q4 d hd
  have : m_br σ0 d = k := by unfold m_br; rw [ek]; exact nI_clamp (by omega)
  rw [this]
  exact ⟨hk, ek, g1.symm.trans ek⟩
theorem qA_vars {σ : xw_M} {s d : Nat} {Z : Int32 → xw_M → Prop} (H : m_C σ0 τ0 nb nd ns nf live nr sz F) (hF : fA σ0 σ) (hs : s < ns) (hd : d < nd) (h : ∀ σ1, fA σ0 σ1 → t_agr (σ1.1 44) (m_cV σ0 s d) → Z (m_cls σ0 F nr s d) σ1) : xu_X0_classOf σ s (nI d) Z := by
  obtain ⟨m1, m2, m3⟩ := m_brk H hd
  obtain ⟨-, -, -, ⟨b1, b2, b3, b4⟩, ⟨q1, q2, q3, q4⟩, ⟨p1, p2, p3, p4, p5, p6⟩, -, -, hT, -, -⟩ := id H
  intro K2 K123 h2 h123
  have cd : (nI d).toNatClampNeg = d := nI_clamp (by omega)
  have vd : vp_in (nI d) 20 := vp_in_nI (by omega) (by decide)
  have key : ∀ (k i : Nat) (σ' : xw_M), i + k = 9 → fA σ0 σ' → (∀ j, j < i → σ'.1 44 j = 0) → K2 σ' (nI i) := by
    intro k
    induction k with
    | zero =>
      intro i σ' hi hF' hz
      obtain rfl : i = 9 := by omega
      apply h2
      refine ⟨fun _ => ?_, fun g => absurd (by decide) g⟩
      have e12 : (σ'.1 4 12 - 1).toInt = (nd : Int) - 1 := by
        rw [hF' 4 (by decide) (by decide), q2, i_sub (by rw [i_nI (by omega), i_1]; omega) (by rw [i_nI (by omega), i_1]; omega), i_nI (by omega), i_1]
      refine pA_within (fun _ _ => ⟨fun _ => ⟨vd, vd, vp_in_nI (n := 0) (by decide) (by decide), fun σ3 e3 => ⟨vd, vp_in_nI (n := 1) (by decide) (by decide), fun σ4 e4 => ⟨vp_in_nI (n := 2) (by decide) (by decide), fun σ5 e5 => ?_⟩⟩⟩, fun g => absurd g (by decide)⟩) (fun g => absurd ⟨by rw [i_0, i_nI (by omega)]; omega, by rw [e12, i_nI (by omega)]; omega⟩ g)
      rw [cd, hF' 35 (by decide) (by decide), hF' (11 + s) (by omega) (by omega)] at e3
      rw [cd] at e4 e5
      change σ3 = xw_i σ' 44 0 _ at e3
      change σ4 = xw_i σ3 44 1 _ at e4
      change σ5 = xw_i σ4 44 2 _ at e5
      rw [show σ3.1 36 = σ0.1 36 by rw [e3, xw_ne (by decide)]; exact hF' 36 (by decide) (by decide)] at e4
      rw [show σ'.1 34 d = nI (m_br σ0 d) by rw [hF' 34 (by decide) (by decide)]; exact m2] at e5
      rw [cd, show σ'.1 34 d = nI (m_br σ0 d) by rw [hF' 34 (by decide) (by decide)]; exact m2]
      have f5 : fA σ0 σ5 := by rw [e5, e4, e3]; exact fA_v (fA_v (fA_v hF'))
      have v5 : ∀ j, j < 9 → j ≠ 3 → σ5.1 44 j = m_cV σ0 s d j := by
        intro j hj h3
        rw [e5, e4, e3]
        rcases (show j = 0 ∨ j = 1 ∨ j = 2 ∨ 3 < j by omega) with rfl | rfl | rfl | hj3
        · rw [xw_nj (by decide), xw_nj (by decide), xw_eq]; rfl
        · simp [xw_i, m_cV]
        · simp [xw_i, m_cV, m2]
        · rw [xw_nj (by omega), xw_nj (by omega), xw_nj (by omega), hz j hj]
          unfold m_cV
          rw [if_neg (by omega), if_neg (by omega), if_neg (by omega), if_neg (by omega)]
      have cb : (nI (m_br σ0 d)).toNatClampNeg = m_br σ0 d := nI_clamp (by omega)
      refine pA_within (fun _ _ => ⟨fun g => absurd g (by decide), fun _ => ⟨vp_in_nI (by omega) (by decide), ?_⟩⟩) (fun g => absurd ⟨by rw [i_0, i_nI (by omega)]; omega, by rw [i_5, i_nI (by omega)]; omega⟩ g)
      apply h123
      refine ⟨vp_in_nI (n := 3) (by decide) (by decide), fun σ9 e9 => ?_⟩
      rw [cb] at e9
      change σ9 = xw_i σ5 44 3 _ at e9
      rw [f5 30 (by decide) (by decide)] at e9
      have f9 : fA σ0 σ9 := by rw [e9]; exact fA_v f5
      have v9 : t_agr (σ9.1 44) (m_cV σ0 s d) := by
        intro j hj
        rw [e9]
        by_cases h3 : j = 3
        · subst h3; simp [xw_i, m_cV]
        · rw [xw_nj h3]; exact v5 j hj h3
      have hT9 : TA 0 σ9 nr sz F := TA_c hT (fun c hc => f9 c (by omega) (by omega))
      refine qA_first (kd := 1) (by decide) hT9 (fun σ10 F10 => ?_)
      have f10 : fA σ0 σ10 := fA_F f9 F10
      have v10 : t_agr (σ10.1 44) (m_cV σ0 s d) := by rw [F10 44 (by decide)]; exact v9
      have fin := h σ10 f10 v10
      unfold m_cls at fin
      rw [t_first_agr hT9 v9]
      cases hq : t_first F nr 1 (m_cV σ0 s d) with
      | none =>
        rw [hq] at fin
        exact pA_within (fun g _ => absurd g (by decide)) (fun _ => ⟨fun _ => fin, fun g => absurd rfl g⟩)
      | some r =>
        rw [hq] at fin
        have hr := l_find_some hq
        have nr16 := hT.1
        have cr : (nI r).toNatClampNeg = r := nI_clamp (by omega)
        refine pA_within (fun _ _ => ⟨fun g => absurd g (by decide), fun _ => ⟨vp_in_nI (by omega) (by decide), ?_⟩⟩) (fun g => absurd ⟨by show (0 : Int32).toInt ≤ (nI r).toInt; rw [i_0, i_nI (by omega)]; omega, by show (nI r).toInt ≤ (nI 15).toInt; rw [i_nI (by omega), i_nI (by decide)]; omega⟩ g)
        show Z (σ10.1 50 (nI r).toNatClampNeg) σ10
        rw [cr, f10 50 (by decide) (by decide), (hT.2.2.2.2 r (by omega)).2.2.1]
        exact fin
    | succ k ih =>
      intro i σ' hi hF' hz
      apply h2
      have ci : (nI i).toNatClampNeg = i := nI_clamp (by omega)
      refine ⟨fun g => absurd g (nI_ge (b := 9) (by omega) (by decide)), fun _ => ⟨vp_in_nI (by omega) (by decide), fun σ8 e8 => ?_⟩⟩
      rw [ci] at e8
      rw [nI_1, e8]
      refine ih (i + 1) _ (by omega) (fA_v hF') (fun j hj => ?_)
      by_cases hji : j = i
      · subst hji; exact xw_eq
      · rw [xw_nj hji]; exact hz j (by omega)
  exact key 9 0 σ (by omega) hF (fun j hj => absurd hj (by omega))
theorem qB_asks {τ : xw_M} {s d : Nat} {Z : xw_M → Prop} (H : m_C σ0 τ0 nb nd ns nf live nr sz F) (hF : fB τ0 τ) (hs : s < ns) (hd : d < nd) (h : ∀ τ1, fB τ0 τ1 → t_agr (τ1.1 42) (m_cV σ0 s d) → Z τ1) : xu_X12_asks τ (nI s) (nI d) Z := by
  obtain ⟨m1, m2, m3⟩ := m_brk H hd
  obtain ⟨-, -, -, ⟨b1, b2, b3, b4⟩, ⟨q1, q2, q3, q4⟩, ⟨p1, p2, p3, p4, p5, p6⟩, -, -, hT, -, -⟩ := id H
  obtain ⟨d1, d2, d3, d4, d5, d6, d7, d8, d9, d10, d11, d12⟩ := q4 d hd
  obtain ⟨y1, y2, y3⟩ := p5 s hs
  intro K2 K58 h2 h58
  have cd : (nI d).toNatClampNeg = d := nI_clamp (by omega)
  have cs : (nI s).toNatClampNeg = s := nI_clamp (by omega)
  have vd : vp_in (nI d) 20 := vp_in_nI (by omega) (by decide)
  have vs : vp_in (nI s) 5 := vp_in_nI (by omega) (by decide)
  have ey : m_day σ0 s = τ0.1 36 s := y1
  have key : ∀ (k i : Nat) (τ' : xw_M), i + k = 9 → fB τ0 τ' → (∀ j, j < i → τ'.1 42 j = 0) → K2 τ' (nI i) := by
    intro k
    induction k with
    | zero =>
      intro i τ' hi hF' hz
      obtain rfl : i = 9 := by omega
      apply h2
      have step : ∀ v : Int32, v = m_cV σ0 s d 0 → K58 τ' 0 v := by
        intro v hv
        apply h58
        refine ⟨vp_in_nI (n := 0) (by decide) (by decide), fun σ2 e2 => ⟨vd, vp_in_nI (n := 1) (by decide) (by decide), fun σ3 e3 => ⟨vd, vp_in_nI (n := 2) (by decide) (by decide), fun σ4 e4 => ?_⟩⟩⟩
        rw [cd] at e3 e4 ⊢
        change σ2 = xw_i τ' 42 0 _ at e2
        change σ3 = xw_i σ2 42 1 _ at e3
        change σ4 = xw_i σ3 42 2 _ at e4
        have f2 : fB τ0 σ2 := by rw [e2]; exact fB_v hF'
        have f3 : fB τ0 σ3 := by rw [e3]; exact fB_v f2
        have f4 : fB τ0 σ4 := by rw [e4]; exact fB_v f3
        have e31 : σ4.1 31 d = nI (m_br σ0 d) := by rw [f4.1 31 (by decide) (by decide)]; exact m3
        have cb : (nI (m_br σ0 d)).toNatClampNeg = m_br σ0 d := nI_clamp (by omega)
        rw [e31]
        refine ⟨vd, vp_in_nI (by omega) (by decide), vp_in_nI (n := 3) (by decide) (by decide), fun σ5 e5 => ?_⟩
        rw [cb, f4.1 27 (by decide) (by decide)] at e5
        change σ5 = xw_i σ4 42 3 _ at e5
        refine h σ5 (by rw [e5]; exact fB_v f4) (fun j hj => ?_)
        rw [f2.1 33 (by decide) (by decide), ← d3] at e3
        rw [f3.1 31 (by decide) (by decide), ← d1] at e4
        rw [← (b4 _ m1).1] at e5
        rw [e5, e4, e3, e2, hv]
        rcases (show j = 0 ∨ j = 1 ∨ j = 2 ∨ j = 3 ∨ 3 < j by omega) with rfl | rfl | rfl | rfl | hj3
        · simp [xw_i]
        · simp [xw_i, m_cV]
        · simp [xw_i, m_cV]
        · simp [xw_i, m_cV]
        · rw [xw_nj (by omega), xw_nj (by omega), xw_nj (by omega), xw_nj (by omega), hz j hj]
          unfold m_cV
          rw [if_neg (by omega), if_neg (by omega), if_neg (by omega), if_neg (by omega)]
      have vv : (m_day σ0 s - σ0.1 35 d).toInt = (τ0.1 36 s).toInt - (σ0.1 35 d).toInt := by
        rw [ey]
        exact i_sub (by omega) (by omega)
      refine ⟨fun _ => ⟨vs, vd, ?_⟩, fun g => absurd (by decide) g⟩
      rw [cs, cd, hF'.1 36 (by decide) (by decide), hF'.1 32 (by decide) (by decide), ← d2]
      refine ⟨fun g => step 0 ?_, fun g => ⟨vs, vd, step _ ?_⟩⟩
      · unfold m_cV
        rw [if_pos rfl, if_neg]
        rw [i_lt, vv, i_0]
        rw [i_le] at g
        omega
      · unfold m_cV
        rw [if_pos rfl, if_pos, ey]
        rw [i_lt, vv, i_0]
        rw [i_le] at g
        omega
    | succ k ih =>
      intro i τ' hi hF' hz
      apply h2
      have ci : (nI i).toNatClampNeg = i := nI_clamp (by omega)
      refine ⟨fun g => absurd g (nI_ge (b := 9) (by omega) (by decide)), fun _ => ⟨vp_in_nI (by omega) (by decide), fun σ8 e8 => ?_⟩⟩
      rw [ci] at e8
      rw [nI_1, e8]
      refine ih (i + 1) _ (by omega) (fB_v hF') (fun j hj => ?_)
      by_cases hji : j = i
      · subst hji; exact xw_eq
      · rw [xw_nj hji]; exact hz j (by omega)
  exact key 9 0 τ (by omega) hF (fun j hj => absurd hj (by omega))
theorem m_kd (H : m_C σ0 τ0 nb nd ns nf live nr sz F) : ∀ r, r < nr → (F r).1 < 4 := fun r hr => (H.2.2.2.2.2.2.2.2.1.2.2.2.2 r hr).1
theorem qB_first {τ : xw_M} {kd : Nat} {va : Nat → Int32} {Z : Int32 → xw_M → Prop} (H : m_C σ0 τ0 nb nd ns nf live nr sz F) (hkd : kd < 4) (hF : fB τ0 τ) (hv : t_agr (τ.1 42) va) (h : ∀ τ1, fB τ0 τ1 → t_agr (τ1.1 42) va → Z (o_ix (t_first F nr kd va)) τ1) : xu_X12_ruleOf τ (nI kd) Z := by
  have hk := m_kd H
  obtain ⟨-, -, -, -, -, -, -, -, hT, hl, hB⟩ := H
  refine qB_rule hkd (by rw [hF.1 0 (by decide) (by decide)]; exact hl) (TB_c hB (fun c _ _ => hF.1 c (by omega) (by omega))) hk hT.1 (fun τ1 F1 => ?_)
  rw [t_first_agr hT hv]
  exact h τ1 (fB_F hF F1) (by rw [F1.1 42 (by decide)]; exact hv)
theorem qB_class {τ : xw_M} {s d : Nat} {Z : Int32 → xw_M → Prop} (H : m_C σ0 τ0 nb nd ns nf live nr sz F) (hF : fB τ0 τ) (hs : s < ns) (hd : d < nd) (h : ∀ τ1, fB τ0 τ1 → Z (m_cls σ0 F nr s d) τ1) : xu_X12_classOf τ (nI s) (nI d) Z := by
  refine qB_asks H hF hs hd (fun τ1 F1 v1 => ?_)
  refine qB_first (kd := 1) H (by decide) F1 v1 (fun τ2 F2 _ => ?_)
  have fin := h τ2 F2
  unfold m_cls at fin
  obtain ⟨-, -, -, -, -, -, -, -, hT, hl, hB⟩ := id H
  have n16 := hT.1
  have l1 := hB.1
  cases hq : t_first F nr 1 (m_cV σ0 s d) with
  | none =>
    rw [hq] at fin
    exact ⟨fun g => absurd rfl g, fun _ => fin⟩
  | some r =>
    rw [hq] at fin
    have hr := l_find_some hq
    have ex : (16 : Int32) * τ2.1 0 18 + o_ix (some r) = nI (16 * live + r) := by
      rw [F2.1 0 (by decide) (by decide), hl]
      show (16 : Int32) * nI live + nI r = _
      rw [show (16 : Int32) = nI 16 from rfl, pk_mul, nI_add]
    refine ⟨fun _ => ?_, fun g => absurd g (by show ¬ nI r = -1; rw [i_eq, i_nI (by omega), i_m1]; omega)⟩
    rw [ex, nI_clamp (by omega), F2.1 10 (by decide) (by decide), (hB.2.2 r (by omega)).2.1]
    exact ⟨vp_in_nI (by omega) (by decide), fin⟩
end CLASS
