/-! sales -/
def q_sale (ka da ya : Nat → Int32) (d day : Int32) : Nat → Option Nat
  | 0 => none
  | n + 1 => match q_sale ka da ya d day n with
    | none => if ka n = 4 ∧ da n = d ∧ ya n ≤ day then some n else none
    | some m => if ka n = 4 ∧ da n = d ∧ ya n ≤ day ∧ ya m ≤ ya n then some n else some m
def q_ix : Option Nat → Int32
  | none => -1
  | some m => nI m
theorem q_sale_some {ka da ya : Nat → Int32} {d day : Int32} : ∀ {n m : Nat}, q_sale ka da ya d day n = some m → m < n ∧ ka m = 4 ∧ da m = d ∧ ya m ≤ day := by
  intro n
  induction n with
  | zero => intro m h; cases h
  | succ n ih =>
    intro m h
    simp only [q_sale] at h
    cases hq : q_sale ka da ya d day n with
    | none =>
      rw [hq] at h
      by_cases c : ka n = 4 ∧ da n = d ∧ ya n ≤ day
      · simp only [c, and_self, if_true] at h
        cases h
        exact ⟨Nat.lt_succ_self _, c⟩
      · simp only [c, if_false] at h
        cases h
    | some k =>
      rw [hq] at h
      by_cases c : ka n = 4 ∧ da n = d ∧ ya n ≤ day ∧ ya k ≤ ya n
      · simp only [c, and_self, if_true] at h
        cases h
        exact ⟨Nat.lt_succ_self _, c.1, c.2.1, c.2.2.1⟩
      · simp only [c, if_false] at h
        cases h
        have := ih hq
        exact ⟨Nat.lt_succ_of_lt this.1, this.2⟩
theorem q_sale_cong {ka da ya kb db yb : Nat → Int32} {d day : Int32} : ∀ {n : Nat}, (∀ i, i < n → ka i = kb i ∧ da i = db i ∧ (ka i = 4 → ya i = yb i)) → q_sale ka da ya d day n = q_sale kb db yb d day n := by
  intro n
  induction n with
  | zero => intro _; rfl
  | succ n ih =>
    intro h
    have e := ih (fun i hi => h i (by omega))
    obtain ⟨h1, h2, h3⟩ := h n (Nat.lt_succ_self n)
    simp only [q_sale]
    rw [← e]
    cases hq : q_sale ka da ya d day n with
    | none =>
      simp only
      by_cases c4 : ka n = 4
      · rw [← h1, ← h2, ← h3 c4]
      · rw [if_neg (fun z => c4 z.1), if_neg (fun z => c4 (h1.trans z.1))]
    | some m =>
      have hm := q_sale_some hq
      have em := (h m (by omega)).2.2 hm.2.1
      simp only
      by_cases c4 : ka n = 4
      · rw [← h1, ← h2, ← h3 c4, ← em]
      · rw [if_neg (fun z => c4 z.1), if_neg (fun z => c4 (h1.trans z.1))]
theorem qA_sale {σ : xw_M} {nf n : Nat} {d day : Int32} {Z : Int32 → xw_M → Prop} (hs : σ.1 5 6 = nI nf) (hnf : nf ≤ 200) (hn : n ≤ nf) (hy : ∀ i, i < nf → σ.1 39 i = 4 → 0 ≤ (σ.1 43 i).toInt) (h : Z (q_ix (q_sale (σ.1 39) (σ.1 41) (σ.1 43) d day n)) σ) : xu_X1_saleBy σ d day (nI n) Z := by
  intro K9 K51 h9 h51
  have key : ∀ (k i : Nat) (v5 : Int32), i + k = n → (v5 = match q_sale (σ.1 39) (σ.1 41) (σ.1 43) d day i with | none => -1 | some m => σ.1 43 m) → K9 σ (q_ix (q_sale (σ.1 39) (σ.1 41) (σ.1 43) d day i)) v5 (nI i) := by
    intro k
    induction k with
    | zero =>
      intro i v5 hik hv
      have : i = n := by omega
      subst this
      apply h9
      exact ⟨fun _ => h, fun g => absurd (nI_le (Nat.le_refl i) (by omega)) g⟩
    | succ k ih =>
      intro i v5 hik hv
      have hlt : i < n := by omega
      have hin : vp_in (nI i) 200 := vp_in_nI (by omega) (by decide)
      have ec : (nI i).toNatClampNeg = i := nI_clamp (by omega)
      apply h9
      refine ⟨fun g => absurd g (nI_ge hlt (by omega)), fun _ => ⟨fun g => absurd g (by rw [hs]; exact nI_ge (by omega) (by omega)), fun _ => ⟨hin, ?_⟩⟩⟩
      rw [ec]
      have next := ih (i + 1)
      rw [← nI_1] at next
      have no : ¬ (σ.1 39 i = 4 ∧ σ.1 41 i = d) → K51 σ 0 (q_ix (q_sale (σ.1 39) (σ.1 41) (σ.1 43) d day i)) v5 (nI i) := by
        intro c
        apply h51
        refine ⟨fun _ => ?_, fun g => absurd rfl g⟩
        have e : q_sale (σ.1 39) (σ.1 41) (σ.1 43) d day (i + 1) = q_sale (σ.1 39) (σ.1 41) (σ.1 43) d day i := by
          simp only [q_sale]
          cases hq : q_sale (σ.1 39) (σ.1 41) (σ.1 43) d day i with
          | none => simp only; rw [if_neg (fun z => c ⟨z.1, z.2.1⟩)]
          | some m => simp only; rw [if_neg (fun z => c ⟨z.1, z.2.1⟩)]
        rw [e] at next
        exact next v5 (by omega) hv
      refine ⟨fun c => no (fun z => c z.1), fun c1 => ⟨hin, ?_⟩⟩
      refine ⟨fun c => no (fun z => c z.2), fun c2 => ?_⟩
      apply h51
      refine ⟨fun g => absurd g (by decide), fun _ => ⟨hin, ?_⟩⟩
      rw [ec]
      refine ⟨fun g => ?_, fun g => ⟨hin, fun g2 => ?_, fun g2 => ⟨hin, ?_⟩⟩⟩
      · have e : q_sale (σ.1 39) (σ.1 41) (σ.1 43) d day (i + 1) = q_sale (σ.1 39) (σ.1 41) (σ.1 43) d day i := by
          have c3 : ¬ σ.1 43 i ≤ day := by rw [i_le]; rw [i_lt] at g; omega
          simp only [q_sale]
          cases hq : q_sale (σ.1 39) (σ.1 41) (σ.1 43) d day i with
          | none => simp only; rw [if_neg (fun z => c3 z.2.2)]
          | some m => simp only; rw [if_neg (fun z => c3 z.2.2.1)]
        rw [e] at next
        exact next v5 (by omega) hv
      · have e : q_sale (σ.1 39) (σ.1 41) (σ.1 43) d day (i + 1) = q_sale (σ.1 39) (σ.1 41) (σ.1 43) d day i := by
          simp only [q_sale]
          cases hq : q_sale (σ.1 39) (σ.1 41) (σ.1 43) d day i with
          | none =>
            rw [hq] at hv
            have := hy i (by omega) c1
            simp only at hv
            rw [hv, i_lt, i_m1] at g2
            omega
          | some m =>
            rw [hq] at hv
            simp only at hv
            simp only
            rw [if_neg (fun z => by have := z.2.2.2; rw [hv, i_lt] at g2; rw [i_le] at this; omega)]
        rw [e] at next
        exact next v5 (by omega) hv
      · have c3 : σ.1 43 i ≤ day := by rw [i_le]; rw [i_lt] at g; omega
        have e : q_sale (σ.1 39) (σ.1 41) (σ.1 43) d day (i + 1) = some i := by
          simp only [q_sale]
          cases hq : q_sale (σ.1 39) (σ.1 41) (σ.1 43) d day i with
          | none => simp only; rw [if_pos ⟨c1, c2, c3⟩]
          | some m =>
            rw [hq] at hv
            simp only at hv
            simp only
            rw [if_pos ⟨c1, c2, c3, by rw [hv, i_lt] at g2; rw [i_le]; omega⟩]
        rw [e] at next
        exact next (σ.1 43 i) (by omega) rfl
  exact key n 0 (-1) (by omega) rfl
theorem qB_sale {τ : xw_M} {n : Nat} {d day : Int32} {Z : Int32 → xw_M → Prop} (hn : n ≤ 200) (h : Z (q_ix (q_sale (τ.1 38) (τ.1 40) (τ.1 39) d day n)) τ) : xu_X12_ownedBy τ d day (nI n) Z := by
  intro K hK
  have key : ∀ (k i : Nat), i + k = n → K τ (q_ix (q_sale (τ.1 38) (τ.1 40) (τ.1 39) d day i)) (nI i) := by
    intro k
    induction k with
    | zero =>
      intro i hik
      have : i = n := by omega
      subst this
      apply hK
      exact ⟨fun _ => h, fun g => absurd (nI_le (Nat.le_refl i) (by omega)) g⟩
    | succ k ih =>
      intro i hik
      have hlt : i < n := by omega
      have hin : vp_in (nI i) 200 := vp_in_nI (by omega) (by decide)
      have ec : (nI i).toNatClampNeg = i := nI_clamp (by omega)
      have next := ih (i + 1) (by omega)
      rw [← nI_1] at next
      have no : ¬ (τ.1 38 i = 4 ∧ τ.1 40 i = d ∧ τ.1 39 i ≤ day) → K τ (q_ix (q_sale (τ.1 38) (τ.1 40) (τ.1 39) d day i)) (nI i + 1) := by
        intro c
        have e : q_sale (τ.1 38) (τ.1 40) (τ.1 39) d day (i + 1) = q_sale (τ.1 38) (τ.1 40) (τ.1 39) d day i := by
          simp only [q_sale]
          cases hq : q_sale (τ.1 38) (τ.1 40) (τ.1 39) d day i with
          | none => simp only; rw [if_neg c]
          | some m => simp only; rw [if_neg (fun z => c ⟨z.1, z.2.1, z.2.2.1⟩)]
        rw [e] at next
        exact next
      apply hK
      refine ⟨fun g => absurd g (nI_ge hlt (by omega)), fun _ => ⟨hin, ?_⟩⟩
      rw [ec]
      refine ⟨fun c => no (fun z => c z.1), fun c1 => ⟨hin, fun c => no (fun z => c z.2.1), fun c2 => ⟨hin, fun c => no (fun z => by have := z.2.2; rw [i_lt] at c; rw [i_le] at this; omega), fun c3 => ?_⟩⟩⟩
      have c3 : τ.1 39 i ≤ day := by rw [i_le]; rw [i_lt] at c3; omega
      cases hq : q_sale (τ.1 38) (τ.1 40) (τ.1 39) d day i with
      | none =>
        have e : q_sale (τ.1 38) (τ.1 40) (τ.1 39) d day (i + 1) = some i := by
          simp only [q_sale, hq]
          rw [if_pos ⟨c1, c2, c3⟩]
        rw [e] at next
        exact ⟨fun _ => next, fun g => absurd rfl g⟩
      | some m =>
        have hm := q_sale_some hq
        have em : (nI m).toNatClampNeg = m := nI_clamp (by omega)
        refine ⟨fun g => absurd g (by show ¬ nI m = -1; rw [i_eq, i_nI (by omega), i_m1]; omega), fun _ => ⟨hin, (show vp_in (nI m) 200 from vp_in_nI (by omega) (by decide)), fun g => ?_, fun g => ?_⟩⟩
        · have g : τ.1 39 i < τ.1 39 m := by rw [← em]; exact g
          have e : q_sale (τ.1 38) (τ.1 40) (τ.1 39) d day (i + 1) = some m := by
            simp only [q_sale, hq]
            rw [if_neg (fun z => by have := z.2.2.2; rw [i_lt] at g; rw [i_le] at this; omega)]
          rw [e] at next
          exact next
        · have g : ¬ τ.1 39 i < τ.1 39 m := by rw [← em]; exact g
          have e : q_sale (τ.1 38) (τ.1 40) (τ.1 39) d day (i + 1) = some i := by
            simp only [q_sale, hq]
            rw [if_pos ⟨c1, c2, c3, by rw [i_lt] at g; rw [i_le]; omega⟩]
          rw [e] at next
          exact next
  exact key n 0 (by omega)
def q_own (fo va : Nat → Int32) (d : Nat) : Option Nat → Int32
  | none => fo d
  | some m => va m
theorem qA_buyer {σ : xw_M} {nf nd d : Nat} {o : Option Nat} {Z : Int32 → xw_M → Prop} (hs : σ.1 5 6 = nI nf) (hnf : nf ≤ 200) (hd : σ.1 4 12 = nI nd) (hnd : nd ≤ 20) (hdd : d < nd) (ho : ∀ m, o = some m → m < nf) (h : Z (q_own (σ.1 37) (σ.1 42) d o) σ) : xu_X1_buyer σ (nI d) (q_ix o) Z := by
  intro K hK
  cases o with
  | none =>
    refine ⟨fun _ => hK _ ?_, fun g => absurd (by decide) g⟩
    refine ⟨fun g => absurd g (nI_pos (by omega)), fun _ => ⟨fun g => absurd g (by rw [hd]; exact nI_ge hdd (by omega)), fun _ => ⟨vp_in_nI (by omega) (by decide), ?_⟩⟩⟩
    rw [nI_clamp (by omega)]
    exact h
  | some m =>
    have hm := ho m rfl
    refine ⟨fun g => absurd g (nI_pos (by omega)), fun _ => ⟨fun g => absurd g (by rw [hs]; exact nI_ge hm (by omega)), fun _ => ⟨vp_in_nI (by omega) (by decide), ?_⟩⟩⟩
    show Z (σ.1 42 (nI m).toNatClampNeg) σ
    rw [nI_clamp (by omega)]
    exact h
theorem qA_owner {σ : xw_M} {nf n nd d : Nat} {day : Int32} {Z : Int32 → xw_M → Prop} (hs : σ.1 5 6 = nI nf) (hnf : nf ≤ 200) (hn : n ≤ nf) (hy : ∀ i, i < nf → σ.1 39 i = 4 → 0 ≤ (σ.1 43 i).toInt) (hd : σ.1 4 12 = nI nd) (hnd : nd ≤ 20) (hdd : d < nd) (h : Z (q_own (σ.1 37) (σ.1 42) d (q_sale (σ.1 39) (σ.1 41) (σ.1 43) (nI d) day n)) σ) : xu_X1_ownerOn σ (nI d) day (nI n) Z := by
  refine qA_sale hs hnf hn hy ?_
  exact qA_buyer hs hnf hd hnd hdd (fun m hm => by have := (q_sale_some hm).1; omega) h
theorem qB_owner {τ : xw_M} {n d : Nat} {day : Int32} {Z : Int32 → xw_M → Prop} (hn : n ≤ 200) (hdd : d < 20) (h : Z (q_own (τ.1 34) (τ.1 41) d (q_sale (τ.1 38) (τ.1 40) (τ.1 39) (nI d) day n)) τ) : xu_X12_ownerOf τ (nI d) day (nI n) Z := by
  refine qB_sale hn ?_
  cases hq : q_sale (τ.1 38) (τ.1 40) (τ.1 39) (nI d) day n with
  | none =>
    rw [hq] at h
    refine ⟨fun g => absurd rfl g, fun _ => ⟨vp_in_nI hdd (by decide), ?_⟩⟩
    rw [nI_clamp (by omega)]
    exact h
  | some m =>
    have hm := (q_sale_some hq).1
    rw [hq] at h
    refine ⟨fun _ => ⟨(show vp_in (nI m) 200 from vp_in_nI (by omega) (by decide)), ?_⟩, fun g => absurd g (by show ¬ nI m = -1; rw [i_eq, i_nI (by omega), i_m1]; omega)⟩
    show Z (τ.1 41 (nI m).toNatClampNeg) τ
    rw [nI_clamp (by omega)]
    exact h
section SALE
variable {tx : xw_M → xw_M → Prop}
theorem q_own_eq {σ τ : xw_M} {nf ns nd nb n d : Nat} {dd day : Int32} (h7 : r_dogs nb nd (σ.1 4 12) (τ.1 0 47) (σ.1 34) (σ.1 35) (σ.1 36) (σ.1 37) (σ.1 38) (τ.1 31) (τ.1 32) (τ.1 33) (τ.1 34) (τ.1 35)) (h9 : r_facts nf ns nd (σ.1 5 6) (τ.1 0 56) (σ.1 39) (σ.1 40) (σ.1 41) (σ.1 42) (σ.1 43) (τ.1 38) (τ.1 39) (τ.1 40) (τ.1 41)) (hn : n ≤ nf) (hd : d < nd) : q_sale (σ.1 39) (σ.1 41) (σ.1 43) dd day n = q_sale (τ.1 38) (τ.1 40) (τ.1 39) dd day n ∧ q_own (σ.1 37) (σ.1 42) d (q_sale (σ.1 39) (σ.1 41) (σ.1 43) dd day n) = q_own (τ.1 34) (τ.1 41) d (q_sale (τ.1 38) (τ.1 40) (τ.1 39) dd day n) ∧ ∃ k : Nat, k < 12 ∧ q_own (σ.1 37) (σ.1 42) d (q_sale (σ.1 39) (σ.1 41) (σ.1 43) dd day n) = nI k := by
  obtain ⟨w1, w2, w3, w4⟩ := h9
  have e : q_sale (σ.1 39) (σ.1 41) (σ.1 43) dd day n = q_sale (τ.1 38) (τ.1 40) (τ.1 39) dd day n := by
    apply q_sale_cong
    intro i hi
    obtain ⟨g1, g2, g3, g4, g5⟩ := w4 i (by omega)
    refine ⟨g1, g2, fun h4 => ?_⟩
    rcases g5 with g | g
    · exact g.2.2.1
    · rw [h4] at g
      rcases g.1 with z | z | z | z <;> exact absurd z (by decide)
  refine ⟨e, ?_, ?_⟩
  · rw [e]
    cases hq : q_sale (τ.1 38) (τ.1 40) (τ.1 39) dd day n with
    | none => exact (h7.2.2.2 d hd).2.2.2.1
    | some m =>
      have hm := (q_sale_some hq).1
      exact (w4 m (by omega)).2.2.1
  · cases hq : q_sale (σ.1 39) (σ.1 41) (σ.1 43) dd day n with
    | none => exact (h7.2.2.2 d hd).2.2.2.2.2.2.2.2.2.2.1
    | some m =>
      have hm := q_sale_some hq
      obtain ⟨g1, g2, g3, g4, g5⟩ := w4 m (by omega)
      rcases g5 with g | g
      · exact g.2.2.2.2.2
      · rw [hm.2.1] at g
        rcases g.1 with z | z | z | z <;> exact absurd z (by decide)
theorem q_days {σ τ : xw_M} {nf ns nd : Nat} (h9 : r_facts nf ns nd (σ.1 5 6) (τ.1 0 56) (σ.1 39) (σ.1 40) (σ.1 41) (σ.1 42) (σ.1 43) (τ.1 38) (τ.1 39) (τ.1 40) (τ.1 41)) : ∀ i, i < nf → σ.1 39 i = 4 → 0 ≤ (σ.1 43 i).toInt ∧ (σ.1 43 i).toInt < 10000 := by
  intro i hi h4
  obtain ⟨g1, g2, g3, g4, g5⟩ := h9.2.2.2 i hi
  rcases g5 with g | g
  · exact ⟨g.2.2.2.1, g.2.2.2.2.1⟩
  · rw [h4] at g
    rcases g.1 with z | z | z | z <;> exact absurd z (by decide)
theorem s_owner : ∀ σ τ, r_R tx σ τ → ∀ a0 a1 a2 : Int32, xu_X11_owner σ a0 a1 a2 (fun r σ1 => xu_X12_owner τ a0 a1 a2 (fun r2 τ1 => r = r2 ∧ r_R tx σ1 τ1)) := by
  intro σ τ hR a b c
  obtain ⟨nt, nb, nd, ns, nf, h1, h2, h3, h4, h5, h6, h7, h8, h9, h10, h11⟩ := id hR
  obtain ⟨q1, q2, q3, q4⟩ := id h7
  obtain ⟨w1, w2, w3, w4⟩ := id h9
  refine pA_dog q2 (by omega) (fun a1 a2 => ⟨fun g => absurd g (by decide), fun _ => ?_⟩) (fun g => ⟨fun _ => pB_dog q3 (by omega) (fun z1 z2 => absurd ⟨z1, z2⟩ g) (fun _ => ⟨fun _ => ⟨rfl, hR⟩, fun z => absurd rfl z⟩), fun g2 => absurd rfl g2⟩)
  refine pA_day (fun b1 b2 => ⟨fun g => absurd g (by decide), fun _ => ?_⟩) (fun g => ⟨fun _ => pB_dog q3 (by omega) (fun _ _ => ⟨fun z => absurd z (by decide), fun _ => pB_day (fun z1 z2 => absurd ⟨z1, z2⟩ g) (fun _ => ⟨fun _ => ⟨rfl, hR⟩, fun z => absurd rfl z⟩)⟩) (fun z => absurd ⟨a1, a2⟩ z), fun g2 => absurd rfl g2⟩)
  refine pA_known w2 (by omega) (fun c1 c2 => ⟨fun _ => ?_, fun g => absurd g (by decide)⟩) (fun g => ⟨fun g2 => absurd rfl g2, fun _ => pB_dog q3 (by omega) (fun _ _ => ⟨fun z => absurd z (by decide), fun _ => pB_day (fun _ _ => ⟨fun z => absurd z (by decide), fun _ => pB_known w3 (by omega) (fun z1 z2 => absurd ⟨z1, z2⟩ g) (fun _ => ⟨fun _ => ⟨rfl, hR⟩, fun z => absurd rfl z⟩)⟩) (fun z => absurd ⟨b1, b2⟩ z)⟩) (fun z => absurd ⟨a1, a2⟩ z)⟩)
  obtain ⟨d, hd, rfl, -⟩ := i_of (n := nd) a1 a2
  obtain ⟨n, hn, rfl, -⟩ := i_of (n := nf + 1) c1 (by omega)
  refine qA_owner w2 w1 (by omega) (fun i hi h => (q_days h9 i hi h).1) q2 q1 hd ?_
  refine pB_dog q3 (by omega) (fun _ _ => ⟨fun z => absurd z (by decide), fun _ => pB_day (fun _ _ => ⟨fun z => absurd z (by decide), fun _ => pB_known w3 (by omega) (fun _ _ => ⟨fun z => absurd z (by decide), fun _ => ?_⟩) (fun z => absurd ⟨c1, c2⟩ z)⟩) (fun z => absurd ⟨b1, b2⟩ z)⟩) (fun z => absurd ⟨a1, a2⟩ z)
  refine qB_owner (by omega) (by omega) ⟨?_, hR⟩
  exact (q_own_eq h7 h9 (by omega) hd).2.1
end SALE
