/-! PARTED -/
theorem q_sale_none {ka da ya : Nat → Int32} {d day day' : Int32} (hle : day' ≤ day) : ∀ {n : Nat}, q_sale ka da ya d day n = none → q_sale ka da ya d day' n = none := by
  intro n
  induction n with
  | zero => intro _; rfl
  | succ n ih =>
    intro h
    simp only [q_sale] at h ⊢
    cases hq : q_sale ka da ya d day n with
    | none =>
      rw [hq] at h
      rw [ih hq]
      simp only at h ⊢
      by_cases c : ka n = 4 ∧ da n = d ∧ ya n ≤ day
      · rw [if_pos c] at h; cases h
      · rw [if_neg (fun z => c ⟨z.1, z.2.1, by have := z.2.2; rw [i_le] at *; omega⟩)]
    | some k =>
      rw [hq] at h
      simp only at h
      split at h <;> cases h
theorem q_sale_same {ka da ya : Nat → Int32} {d day day' : Int32} (hle : day' ≤ day) : ∀ {n m : Nat}, q_sale ka da ya d day n = some m → ya m ≤ day' → q_sale ka da ya d day' n = some m := by
  intro n
  induction n with
  | zero => intro m h; cases h
  | succ n ih =>
    intro m h hm
    simp only [q_sale] at h ⊢
    cases hq : q_sale ka da ya d day n with
    | none =>
      rw [hq] at h
      rw [q_sale_none hle hq]
      simp only at h ⊢
      by_cases c : ka n = 4 ∧ da n = d ∧ ya n ≤ day
      · rw [if_pos c] at h
        cases h
        rw [if_pos ⟨c.1, c.2.1, hm⟩]
      · rw [if_neg c] at h; cases h
    | some k =>
      rw [hq] at h
      simp only at h
      by_cases c : ka n = 4 ∧ da n = d ∧ ya n ≤ day ∧ ya k ≤ ya n
      · rw [if_pos c] at h
        cases h
        rw [ih hq (by have := c.2.2.2; rw [i_le] at *; omega)]
        simp only
        rw [if_pos ⟨c.1, c.2.1, hm, c.2.2.2⟩]
      · rw [if_neg c] at h
        cases h
        rw [ih hq hm]
        simp only
        rw [if_neg (fun z => c ⟨z.1, z.2.1, by have := z.2.2.1; rw [i_le] at *; omega, z.2.2.2⟩)]
def q_back (S : Int32 → Option Nat) (own : Option Nat → Int32) (y : Nat → Int32) (p w : Int32) : Nat → Int32 → Int32
  | 0, _ => -1
  | f + 1, t => if t < 0 then -1 else if own (S t) = p then w - t else match S t with
    | none => -1
    | some m => q_back S own y p w f (y m - 1)
/-- how many sales there are up to a DAY -/
def q_mu (ka da ya : Nat → Int32) (d : Int32) (n : Nat) (t : Int32) : Nat := fb_ct (fun i => decide (ka i = 4 ∧ da i = d ∧ (ya i).toInt ≤ t.toInt)) n
theorem q_mu_le {ka da ya : Nat → Int32} {d : Int32} {n : Nat} {t : Int32} : q_mu ka da ya d n t ≤ n := fb_ct_le _ n
theorem q_prev {y : Int32} (h : 0 ≤ y.toInt) : (y - 1).toInt = y.toInt - 1 := by
  have := i_rg y
  rw [i_sub (by rw [i_1]; omega) (by rw [i_1]; omega), i_1]
theorem q_mu_lt {ka da ya : Nat → Int32} {d : Int32} {n m : Nat} {t : Int32} (hm : q_sale ka da ya d t n = some m) (hy : 0 ≤ (ya m).toInt) : q_mu ka da ya d n (ya m - 1) < q_mu ka da ya d n t := by
  obtain ⟨h1, h2, h3, h4⟩ := q_sale_some hm
  rw [i_le] at h4
  unfold q_mu
  have hu := fb_ct_upd (fun i => decide (ka i = 4 ∧ da i = d ∧ (ya i).toInt ≤ t.toInt)) false h1
  have hp : decide (ka m = 4 ∧ da m = d ∧ (ya m).toInt ≤ t.toInt) = true := by simp [h2, h3, h4]
  simp only [hp, if_true] at hu
  have hs : fb_ct (fun i => decide (ka i = 4 ∧ da i = d ∧ (ya i).toInt ≤ (ya m - 1).toInt)) n ≤ fb_ct (fun k => if k = m then false else decide (ka k = 4 ∧ da k = d ∧ (ya k).toInt ≤ t.toInt)) n := by
    apply fb_ct_sub
    intro k hk hpk
    have hpk := of_decide_eq_true hpk
    rw [q_prev hy] at hpk
    by_cases e : k = m
    · subst e; omega
    · simp only [e, if_false]
      exact decide_eq_true ⟨hpk.1, hpk.2.1, by omega⟩
  have hu2 : fb_ct (fun k => if k = m then false else decide (ka k = 4 ∧ da k = d ∧ (ya k).toInt ≤ t.toInt)) n + 1 = fb_ct (fun i => decide (ka i = 4 ∧ da i = d ∧ (ya i).toInt ≤ t.toInt)) n := hu
  omega
theorem q_back_fuel {ka da ya : Nat → Int32} {d : Int32} {n : Nat} {own : Option Nat → Int32} {p w : Int32} (hy : ∀ i, i < n → ka i = 4 → 0 ≤ (ya i).toInt) : ∀ (f g : Nat) (t : Int32), q_mu ka da ya d n t < f → q_mu ka da ya d n t < g → q_back (fun t => q_sale ka da ya d t n) own ya p w f t = q_back (fun t => q_sale ka da ya d t n) own ya p w g t := by
  intro f
  induction f with
  | zero => intro g t h; omega
  | succ f ih =>
    intro g t h1 h2
    obtain ⟨g, rfl⟩ : ∃ k, g = k + 1 := ⟨g - 1, by omega⟩
    simp only [q_back]
    cases hq : q_sale ka da ya d t n with
    | none => rfl
    | some m =>
      have hm := q_sale_some hq
      have := q_mu_lt hq (hy m hm.1 hm.2.1)
      simp only
      rw [ih g (ya m - 1) (by omega) (by omega)]
theorem q_back_first {ka da ya : Nat → Int32} {d : Int32} {n f : Nat} {own : Option Nat → Int32} {p w : Int32} (hn : n < f) (hy : ∀ i, i < n → ka i = 4 → 0 ≤ (ya i).toInt) (hw : 0 ≤ w.toInt) (hne : ¬ own (q_sale ka da ya d w n) = p) : q_back (fun t => q_sale ka da ya d t n) own ya p w (f + 1) w = q_back (fun t => q_sale ka da ya d t n) own ya p w (f + 1) (w - 1) := by
  have hw0 : ¬ w < 0 := by rw [i_lt, i_0]; omega
  have ew := q_prev hw
  have hle : w - 1 ≤ w := by rw [i_le, ew]; omega
  simp only [q_back, if_neg hw0, if_neg hne]
  cases hq : q_sale ka da ya d w n with
  | none =>
    rw [hq] at hne
    rw [q_sale_none hle hq]
    simp only
    rw [if_neg hne]
    split <;> rfl
  | some m =>
    have hm := q_sale_some hq
    have hy0 := hy m hm.1 hm.2.1
    have h4 := hm.2.2.2
    rw [i_le] at h4
    rw [hq] at hne
    simp only
    by_cases e : (ya m).toInt = w.toInt
    · have e2 : ya m = w := i_eq.mpr e
      rw [e2]
      have hf := q_back_fuel (da := da) (d := d) (own := own) (p := p) (w := w) hy f (f + 1) (w - 1) (by have := q_mu_le (ka := ka) (da := da) (ya := ya) (d := d) (n := n) (t := w - 1); omega) (by have := q_mu_le (ka := ka) (da := da) (ya := ya) (d := d) (n := n) (t := w - 1); omega)
      rw [hf]
      simp only [q_back]
    · have hs := q_sale_same (day' := w - 1) hle hq (by rw [i_le, ew]; omega)
      rw [hs]
      simp only
      rw [if_neg (by rw [i_lt, ew, i_0]; omega), if_neg hne]
theorem qA_back {σ : xw_M} {nf n nd d : Nat} {p w : Int32} {Z : Int32 → xw_M → Prop} {K : xw_M → Int32 → Int32 → Prop} (hs : σ.1 5 6 = nI nf) (hnf : nf ≤ 200) (hn : n ≤ nf) (hy : ∀ i, i < nf → σ.1 39 i = 4 → 0 ≤ (σ.1 43 i).toInt) (hd : σ.1 4 12 = nI nd) (hnd : nd ≤ 20) (hdd : d < nd)
    (hK : ∀ (σ : xw_M) (v5 v6 : Int32), xb_X1_daysSinceOwned_22 p (nI d) w (nI n) K Z σ v5 v6 → K σ v5 v6) : ∀ (f i : Nat) (t : Int32), q_mu (σ.1 39) (σ.1 41) (σ.1 43) (nI d) n t < f → i + q_mu (σ.1 39) (σ.1 41) (σ.1 43) (nI d) n t ≤ 200 → Z (q_back (fun t => q_sale (σ.1 39) (σ.1 41) (σ.1 43) (nI d) t n) (q_own (σ.1 37) (σ.1 42) d) (σ.1 43) p w f t) σ → K σ t (nI i) := by
  intro f
  induction f with
  | zero => intro i t h; omega
  | succ f ih =>
    intro i t h1 h2 h
    apply hK
    refine ⟨fun g => absurd g (by rw [i_lt, i_nI (by omega), i_200]; omega), fun _ => ⟨fun g => ?_, fun g => ?_⟩⟩
    · simp only [q_back, if_pos g] at h
      exact h
    · simp only [q_back, if_neg g] at h
      refine qA_sale hs hnf hn hy ?_
      refine qA_buyer hs hnf hd hnd hdd (fun m hm => by have := (q_sale_some hm).1; omega) ?_
      refine ⟨fun c => ?_, fun c => ?_⟩
      · rw [if_neg c] at h
        have e1 : (σ.1 5 6 - 1).toInt = (nf : Int) - 1 := by rw [hs, i_sub (by rw [i_nI (by omega), i_1]; omega) (by rw [i_nI (by omega), i_1]; omega), i_nI (by omega), i_1]
        cases hq : q_sale (σ.1 39) (σ.1 41) (σ.1 43) (nI d) t n with
        | none =>
          rw [hq] at h
          refine pA_within (fun z => absurd z (by show ¬ (0 : Int32).toInt ≤ (-1 : Int32).toInt; decide)) (fun _ => ⟨fun _ => ?_, fun z => absurd rfl z⟩)
          apply hK
          exact ⟨fun _ => h, fun _ => ⟨fun _ => h, fun z => absurd (by decide) z⟩⟩
        | some m =>
          rw [hq] at h
          have hm := q_sale_some hq
          have em : (nI m).toInt = m := i_nI (by omega)
          have hlt := q_mu_lt hq (hy m (by omega) hm.2.1)
          refine pA_within (fun _ _ => ⟨fun z => absurd z (by decide), fun _ => ⟨(show vp_in (nI m) 200 from vp_in_nI (by omega) (by decide)), fun x hx => ?_⟩⟩) (fun z => absurd (show (0 : Int32).toInt ≤ (nI m).toInt ∧ (nI m).toInt ≤ (σ.1 5 6 - 1).toInt from ⟨by rw [em, i_0]; omega, by rw [em, e1]; omega⟩) z)
          have hx : x = σ.1 43 m - 1 := by rw [hx]; show σ.1 43 (nI m).toNatClampNeg - 1 = _; rw [nI_clamp (by omega)]
          subst hx
          rw [nI_1]
          exact ih (i + 1) _ (by omega) (by omega) h
      · rw [if_pos c] at h
        exact h
theorem qA_parted {σ : xw_M} {nf n nd d : Nat} {p w : Int32} {Z : Int32 → xw_M → Prop} (hs : σ.1 5 6 = nI nf) (hnf : nf ≤ 200) (hn : n ≤ nf) (hy : ∀ i, i < nf → σ.1 39 i = 4 → 0 ≤ (σ.1 43 i).toInt) (hd : σ.1 4 12 = nI nd) (hnd : nd ≤ 20) (hdd : d < nd) (hw : 0 ≤ w.toInt)
    (h : Z (if q_own (σ.1 37) (σ.1 42) d (q_sale (σ.1 39) (σ.1 41) (σ.1 43) (nI d) w n) = p then -1 else q_back (fun t => q_sale (σ.1 39) (σ.1 41) (σ.1 43) (nI d) t n) (q_own (σ.1 37) (σ.1 42) d) (σ.1 43) p w 202 w) σ) : xu_X1_daysSinceOwned σ p (nI d) w (nI n) Z := by
  intro K hK
  refine qA_owner hs hnf hn hy hd hnd hdd ⟨fun c => ?_, fun c => ?_⟩
  · rw [if_neg c, q_back_first (f := 201) (by omega) (fun i hi => hy i (by omega)) hw c] at h
    have hle := q_mu_le (ka := σ.1 39) (da := σ.1 41) (ya := σ.1 43) (d := nI d) (n := n) (t := w - 1)
    exact qA_back hs hnf hn hy hd hnd hdd hK 202 0 (w - 1) (by omega) (by omega) h
  · rw [if_pos c] at h
    exact h
theorem qB_back {τ : xw_M} {n d : Nat} {p w : Int32} {Z : Int32 → xw_M → Prop} {K : xw_M → Int32 → Prop} (hn : n ≤ 200) (hdd : d < 20) (hy : ∀ i, i < n → τ.1 38 i = 4 → 0 ≤ (τ.1 39 i).toInt)
    (hK : ∀ (σ : xw_M) (v5 : Int32), xb_X12_partedOf_17 p (nI d) w (nI n) K Z σ v5 → K σ v5) : ∀ (f : Nat) (t : Int32), q_mu (τ.1 38) (τ.1 40) (τ.1 39) (nI d) n t < f → Z (q_back (fun t => q_sale (τ.1 38) (τ.1 40) (τ.1 39) (nI d) t n) (q_own (τ.1 34) (τ.1 41) d) (τ.1 39) p w f t) τ → K τ t := by
  intro f
  induction f with
  | zero => intro t h; omega
  | succ f ih =>
    intro t h1 h
    apply hK
    refine ⟨fun g => ?_, fun g => ?_⟩
    · simp only [q_back, if_pos g] at h
      exact h
    · simp only [q_back, if_neg g] at h
      refine qB_sale hn (qB_owner hn hdd ⟨fun c => ?_, fun c => ?_⟩)
      · rw [if_neg c] at h
        cases hq : q_sale (τ.1 38) (τ.1 40) (τ.1 39) (nI d) t n with
        | none =>
          rw [hq] at h
          refine ⟨fun z => absurd rfl z, fun _ => ?_⟩
          apply hK
          exact ⟨fun _ => h, fun z => absurd (by decide) z⟩
        | some m =>
          rw [hq] at h
          have hm := q_sale_some hq
          have hlt := q_mu_lt hq (hy m hm.1 hm.2.1)
          refine ⟨fun _ => ⟨(show vp_in (nI m) 200 from vp_in_nI (by omega) (by decide)), fun x hx => ?_⟩, fun z => absurd z (by show ¬ nI m = -1; rw [i_eq, i_nI (by omega), i_m1]; omega)⟩
          have hx : x = τ.1 39 m - 1 := by rw [hx]; show τ.1 39 (nI m).toNatClampNeg - 1 = _; rw [nI_clamp (by omega)]
          subst hx
          exact ih _ (by omega) h
      · rw [if_pos c] at h
        exact h
theorem qB_parted {τ : xw_M} {n d : Nat} {p w : Int32} {Z : Int32 → xw_M → Prop} (hn : n ≤ 200) (hdd : d < 20) (hy : ∀ i, i < n → τ.1 38 i = 4 → 0 ≤ (τ.1 39 i).toInt)
    (h : Z (if q_own (τ.1 34) (τ.1 41) d (q_sale (τ.1 38) (τ.1 40) (τ.1 39) (nI d) w n) = p then -1 else q_back (fun t => q_sale (τ.1 38) (τ.1 40) (τ.1 39) (nI d) t n) (q_own (τ.1 34) (τ.1 41) d) (τ.1 39) p w 202 w) τ) : xu_X12_partedOf τ p (nI d) w (nI n) Z := by
  intro K hK
  refine qB_owner hn hdd ⟨fun c => ?_, fun c => ?_⟩
  · rw [if_neg c] at h
    have hle := q_mu_le (ka := τ.1 38) (da := τ.1 40) (ya := τ.1 39) (d := nI d) (n := n) (t := w)
    exact qB_back hn hdd hy hK 202 w (by omega) h
  · rw [if_pos c] at h
    exact h
/-- the two PARTED are one -/
theorem q_back_cong {S S' : Int32 → Option Nat} {own own' : Option Nat → Int32} {y y' : Nat → Int32} {p w : Int32} (hS : ∀ t, S t = S' t) (ho : ∀ t, own (S t) = own' (S t)) (hy : ∀ t m, S t = some m → y m = y' m) : ∀ (f : Nat) (t : Int32), q_back S own y p w f t = q_back S' own' y' p w f t := by
  intro f
  induction f with
  | zero => intro t; rfl
  | succ f ih =>
    intro t
    simp only [q_back]
    rw [← hS t, ← ho t]
    cases hq : S t with
    | none => rfl
    | some m =>
      simp only
      rw [hy t m hq, ih]
section PARTED
variable {tx : xw_M → xw_M → Prop}
theorem q_parted_eq {σ τ : xw_M} {nf ns nd nb n d : Nat} {p w : Int32} (h7 : r_dogs nb nd (σ.1 4 12) (τ.1 0 47) (σ.1 34) (σ.1 35) (σ.1 36) (σ.1 37) (σ.1 38) (τ.1 31) (τ.1 32) (τ.1 33) (τ.1 34) (τ.1 35)) (h9 : r_facts nf ns nd (σ.1 5 6) (τ.1 0 56) (σ.1 39) (σ.1 40) (σ.1 41) (σ.1 42) (σ.1 43) (τ.1 38) (τ.1 39) (τ.1 40) (τ.1 41)) (hn : n ≤ nf) (hd : d < nd) :
    (if q_own (σ.1 37) (σ.1 42) d (q_sale (σ.1 39) (σ.1 41) (σ.1 43) (nI d) w n) = p then -1 else q_back (fun t => q_sale (σ.1 39) (σ.1 41) (σ.1 43) (nI d) t n) (q_own (σ.1 37) (σ.1 42) d) (σ.1 43) p w 202 w) = (if q_own (τ.1 34) (τ.1 41) d (q_sale (τ.1 38) (τ.1 40) (τ.1 39) (nI d) w n) = p then -1 else q_back (fun t => q_sale (τ.1 38) (τ.1 40) (τ.1 39) (nI d) t n) (q_own (τ.1 34) (τ.1 41) d) (τ.1 39) p w 202 w) := by
  have e := fun t => q_own_eq (dd := nI d) (day := t) h7 h9 hn hd
  rw [(e w).2.1]
  congr 1
  apply q_back_cong
  · intro t; exact (e t).1
  · intro t; rw [(e t).2.1, (e t).1]
  · intro t m hm
    have hm2 := q_sale_some hm
    obtain ⟨g1, g2, g3, g4, g5⟩ := h9.2.2.2 m (by omega)
    rcases g5 with g | g
    · exact g.2.2.1
    · rw [hm2.2.1] at g
      rcases g.1 with z | z | z | z <;> exact absurd z (by decide)
theorem q_daysB {σ τ : xw_M} {nf ns nd : Nat} (h9 : r_facts nf ns nd (σ.1 5 6) (τ.1 0 56) (σ.1 39) (σ.1 40) (σ.1 41) (σ.1 42) (σ.1 43) (τ.1 38) (τ.1 39) (τ.1 40) (τ.1 41)) : ∀ i, i < nf → τ.1 38 i = 4 → 0 ≤ (τ.1 39 i).toInt := by
  intro i hi h4
  obtain ⟨g1, g2, g3, g4, g5⟩ := h9.2.2.2 i hi
  rw [← g1] at h4
  rcases g5 with g | g
  · rw [← g.2.2.1]; exact g.2.2.2.1
  · rw [h4] at g
    rcases g.1 with z | z | z | z <;> exact absurd z (by decide)
theorem s_parted : ∀ σ τ, r_R tx σ τ → ∀ a0 a1 a2 a3 : Int32, xu_X11_parted σ a0 a1 a2 a3 (fun r σ1 => xu_X12_parted τ a0 a1 a2 a3 (fun r2 τ1 => r = r2 ∧ r_R tx σ1 τ1)) := by
  intro σ τ hR p a b c
  obtain ⟨nt, nb, nd, ns, nf, h1, h2, h3, h4, h5, h6, h7, h8, h9, h10, h11⟩ := id hR
  obtain ⟨q1, q2, q3, q4⟩ := id h7
  obtain ⟨w1, w2, w3, w4⟩ := id h9
  refine pA_person (fun p1 p2 => ⟨fun g => absurd g (by decide), fun _ => ?_⟩) (fun g => ⟨fun _ => pB_person (fun z1 z2 => absurd ⟨z1, z2⟩ g) (fun _ => ⟨fun _ => ⟨rfl, hR⟩, fun z => absurd rfl z⟩), fun g2 => absurd rfl g2⟩)
  refine pA_dog q2 (by omega) (fun a1 a2 => ⟨fun g => absurd g (by decide), fun _ => ?_⟩) (fun g => ⟨fun _ => pB_person (fun _ _ => ⟨fun z => absurd z (by decide), fun _ => pB_dog q3 (by omega) (fun z1 z2 => absurd ⟨z1, z2⟩ g) (fun _ => ⟨fun _ => ⟨rfl, hR⟩, fun z => absurd rfl z⟩)⟩) (fun z => absurd ⟨p1, p2⟩ z), fun g2 => absurd rfl g2⟩)
  refine pA_day (fun b1 b2 => ⟨fun g => absurd g (by decide), fun _ => ?_⟩) (fun g => ⟨fun _ => pB_person (fun _ _ => ⟨fun z => absurd z (by decide), fun _ => pB_dog q3 (by omega) (fun _ _ => ⟨fun z => absurd z (by decide), fun _ => pB_day (fun z1 z2 => absurd ⟨z1, z2⟩ g) (fun _ => ⟨fun _ => ⟨rfl, hR⟩, fun z => absurd rfl z⟩)⟩) (fun z => absurd ⟨a1, a2⟩ z)⟩) (fun z => absurd ⟨p1, p2⟩ z), fun g2 => absurd rfl g2⟩)
  refine pA_known w2 (by omega) (fun c1 c2 => ⟨fun _ => ?_, fun g => absurd g (by decide)⟩) (fun g => ⟨fun g2 => absurd rfl g2, fun _ => pB_person (fun _ _ => ⟨fun z => absurd z (by decide), fun _ => pB_dog q3 (by omega) (fun _ _ => ⟨fun z => absurd z (by decide), fun _ => pB_day (fun _ _ => ⟨fun z => absurd z (by decide), fun _ => pB_known w3 (by omega) (fun z1 z2 => absurd ⟨z1, z2⟩ g) (fun _ => ⟨fun _ => ⟨rfl, hR⟩, fun z => absurd rfl z⟩)⟩) (fun z => absurd ⟨b1, b2⟩ z)⟩) (fun z => absurd ⟨a1, a2⟩ z)⟩) (fun z => absurd ⟨p1, p2⟩ z)⟩)
  obtain ⟨d, hd, rfl, -⟩ := i_of (n := nd) a1 a2
  obtain ⟨n, hn, rfl, -⟩ := i_of (n := nf + 1) c1 (by omega)
  refine qA_parted w2 w1 (by omega) (fun i hi h => (q_days h9 i hi h).1) q2 q1 hd b1 ?_
  refine pB_person (fun _ _ => ⟨fun z => absurd z (by decide), fun _ => pB_dog q3 (by omega) (fun _ _ => ⟨fun z => absurd z (by decide), fun _ => pB_day (fun _ _ => ⟨fun z => absurd z (by decide), fun _ => pB_known w3 (by omega) (fun _ _ => ⟨fun z => absurd z (by decide), fun _ => ?_⟩) (fun z => absurd ⟨c1, c2⟩ z)⟩) (fun z => absurd ⟨b1, b2⟩ z)⟩) (fun z => absurd ⟨a1, a2⟩ z)⟩) (fun z => absurd ⟨p1, p2⟩ z)
  refine qB_parted (by omega) (by omega) (fun i hi => q_daysB h9 i (by omega)) ⟨?_, hR⟩
  exact q_parted_eq h7 h9 (by omega) hd
end PARTED
