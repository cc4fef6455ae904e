/-! the class tries all orders -/
def a_tab (V : pV) (row : Nat → Int32) (acc : List pE) : Prop := ∀ o, o < 6 → (∃ p, p ∈ acc ∧ p.1 = o ∧ row (4 * o) = nI p.2.1 ∧ row (4 * o + 1) = nI p.2.2.1 ∧ row (4 * o + 2) = nI p.2.2.2 ∧ row (4 * o + 3) = nI (p_end V p)) ∨ ((∀ p, p ∈ acc → p.1 ≠ o) ∧ ∀ w, w < 4 → row (4 * o + w) = -1)
def a_best (V : pV) (σ : xw_M) : Option pT → Prop
  | none => σ.1 7 8 = 1000000 ∧ σ.1 7 9 = 1000000
  | some t => t.1 ≤ 100000 ∧ t.2.1 ≤ 100000 ∧ σ.1 7 8 = nI t.1 ∧ σ.1 7 9 = nI t.2.1 ∧ a_tab V (σ.1 (66 + 6)) t.2.2
def a_oth (σ : xw_M) (acc : List pE) (l : List Nat) : Prop := ∀ o, o < 6 → (∀ p, p ∈ acc → p.1 ≠ o) → ¬ o ∈ l → ∀ w, w < 4 → σ.1 (66 + 5) (4 * o + w) = -1
def a_F (σ σ1 : xw_M) : Prop := (∀ c, c ≠ 7 → c ≠ 66 + 5 → c ≠ 66 + 6 → σ1.1 c = σ.1 c) ∧ σ1.1 7 7 = σ.1 7 7
theorem a_F0 {σ : xw_M} : a_F σ σ := ⟨fun _ _ _ _ => rfl, rfl⟩
theorem a_Ft {a b c : xw_M} (h1 : a_F a b) (h2 : a_F b c) : a_F a c := ⟨fun x p q r => (h2.1 x p q r).trans (h1.1 x p q r), h2.2.trans h1.2⟩
theorem a_S_F {V : pV} {nb : Nat} {σ σ1 : xw_M} {P : Int32} {acc : List pE} (H : a_S V nb σ P acc) (f : a_F σ σ1) (rel : a_rel V σ1 acc) : a_S V nb σ1 P acc := by
  obtain ⟨hV, n6, l6, ok, ⟨en, er⟩, _, msk⟩ := H
  refine ⟨hV, n6, l6, ok, ⟨fun b hb => ?_, f.2.trans er⟩, rel, msk⟩
  rw [f.1 45 (by decide) (by decide) (by decide), f.1 46 (by decide) (by decide) (by decide), f.1 47 (by decide) (by decide) (by decide)]
  exact en b hb
theorem a_put_F {V : pV} {σ : xw_M} {b : Nat} {e : Nat × Nat × Nat} : a_F σ (a_put V σ b e) := by
  unfold a_put
  refine ⟨fun c h1 h2 h3 => ?_, ?_⟩
  · rw [xw_ne h2, xw_ne h2, xw_ne h2, xw_ne h2]
  · rw [xw_ne (by decide), xw_ne (by decide), xw_ne (by decide), xw_ne (by decide)]
theorem a_put_at {V : pV} {σ : xw_M} {b : Nat} {e : Nat × Nat × Nat} : (a_put V σ b e).1 (66 + 5) (4 * b) = nI e.1 ∧ (a_put V σ b e).1 (66 + 5) (4 * b + 1) = nI e.2.1 ∧ (a_put V σ b e).1 (66 + 5) (4 * b + 2) = nI e.2.2 ∧ (a_put V σ b e).1 (66 + 5) (4 * b + 3) = nI (e.2.2 + V.1 b) := by
  unfold a_put
  refine ⟨?_, ?_, ?_, xw_eq⟩
  · rw [xw_nj (by omega), xw_nj (by omega), xw_nj (by omega), xw_eq]
  · rw [xw_nj (by omega), xw_nj (by omega), xw_eq]
  · rw [xw_nj (by omega), xw_eq]
theorem a_put_ne {V : pV} {σ : xw_M} {b o w : Nat} {e : Nat × Nat × Nat} (ho : o ≠ b) (hw : w < 4) : (a_put V σ b e).1 (66 + 5) (4 * o + w) = σ.1 (66 + 5) (4 * o + w) := by
  unfold a_put
  rw [xw_nj (by omega), xw_nj (by omega), xw_nj (by omega), xw_nj (by omega)]
theorem a_best_c {V : pV} {σ σ1 : xw_M} (h8 : σ1.1 7 8 = σ.1 7 8) (h9 : σ1.1 7 9 = σ.1 7 9) (h : σ1.1 (66 + 6) = σ.1 (66 + 6)) : ∀ {B : Option pT}, a_best V σ B → a_best V σ1 B
  | none, g => by unfold a_best at g ⊢; rw [h8, h9]; exact g
  | some t, g => by unfold a_best at g ⊢; rw [h8, h9, h]; exact g
theorem a_entry {V : pV} {U : xw_M → Int32 → Int32 → Int32 → Int32 → (xw_M → Prop) → Prop} {a1 a2 : Int32} {K26 : xw_M → Prop} {K56 : xw_M → Int32 → Prop} {Z : xw_M → Prop} {σ : xw_M} {acc : List pE} {B : Option pT} (hb : a_best V σ B) (hl : p_last V acc ≤ 100000) (hs : p_sum V acc ≤ 100000) (h1 : (∀ t, B = some t → p_last V acc < t.1 ∨ (p_last V acc = t.1 ∧ p_sum V acc < t.2.1)) → K26 σ) (h0 : ∀ t, B = some t → (t.1 < p_last V acc ∨ t.1 = p_last V acc ∧ t.2.1 ≤ p_sum V acc) → Z σ) : xb_X4_tryOrders_e U a1 a2 (nI (p_last V acc)) (nI (p_sum V acc)) K26 K56 Z σ := by
  unfold xb_X4_tryOrders_e
  cases B with
  | none =>
    obtain ⟨e8, e9⟩ := hb
    rw [e8, e9, show (1000000 : Int32) = nI 1000000 from rfl]
    refine ⟨fun z => absurd z (nI_nlt (by omega) (by omega)), fun _ => ⟨fun _ => h1 (fun t ht => by cases ht), fun z => ?_⟩⟩
    have := (nI_eq (by omega) (by omega)).mp z
    omega
  | some t =>
    obtain ⟨g1, g2, e8, e9, _⟩ := hb
    rw [e8, e9]
    refine ⟨fun z => h0 t rfl (Or.inl ((nI_ltI (by omega) (by omega)).mp z)), fun z => ⟨fun z1 => h1 (fun t' ht => ?_), fun z1 => ⟨fun z2 => h1 (fun t' ht => ?_), fun z2 => h0 t rfl (Or.inr ⟨?_, ?_⟩)⟩⟩⟩
    · cases ht
      have a1 : ¬ t.1 < p_last V acc := fun q => z (nI_lt q (by omega))
      have a2 : ¬ p_last V acc = t.1 := fun q => z1 (by rw [q])
      omega
    · cases ht
      have a2 := (nI_eq (by omega) (by omega)).mp z1
      have a3 := (nI_ltI (by omega) (by omega)).mp z2
      exact Or.inr ⟨a2, a3⟩
    · exact ((nI_eq (by omega) (by omega)).mp z1).symm
    · exact Nat.not_lt.mp fun q => z2 (nI_lt q (by omega))
theorem p_upd_bet {V : pV} {B : Option pT} {acc : List pE} (h : ∀ t, B = some t → p_last V acc < t.1 ∨ (p_last V acc = t.1 ∧ p_sum V acc < t.2.1)) : p_upd V B acc = some (p_last V acc, p_sum V acc, acc) := by
  cases B with
  | none => rfl
  | some t => simp only [p_upd]; rw [if_pos (h t rfl)]
theorem a_try {V : pV} {nb : Nat} : ∀ (n d : Nat) (acc : List pE) (l : List Nat) (P Q : Int32) (B : Option pT) (σ : xw_M) (Z : xw_M → Prop), n < d → acc.length + n ≤ 6 → l.length = n → l = (List.range 6).filter (fun x => bt Q x) → (∀ i, 6 ≤ i → i < 32 → bt Q i = false) → (∀ x, x ∈ l → x < nb ∧ p_B V x ∧ ∀ p, p ∈ acc → p.1 ≠ x) → a_S V nb σ P acc → a_oth σ acc l → a_best V σ B → (∀ σ1, a_F σ σ1 → a_rel V σ1 acc → a_oth σ1 acc l → a_best V σ1 (p_dfs V n acc l B) → Z σ1) → xu_X4_tryOrders d σ Q P (nI (p_last V acc)) (nI (p_sum V acc)) Z := by
  intro n
  induction n with
  | zero =>
    intro d acc l P Q B σ Z hd hlen hl hq hQ hx H ho hb hz
    obtain ⟨d, rfl⟩ : ∃ k, d = k + 1 := ⟨d - 1, by omega⟩
    obtain ⟨hV, n6, l6, ok, ⟨en, er⟩, rel, msk⟩ := id H
    obtain rfl : l = [] := List.eq_nil_of_length_eq_zero hl
    intro K26 K56 h26 h56
    have Q0 : Q = 0 := by
      apply b_ext
      intro i hi
      rw [b_0]
      by_cases c : i < 6
      · cases hb : bt Q i
        · rfl
        · have : i ∈ (List.range 6).filter (fun x => bt Q x) := List.mem_filter.mpr ⟨List.mem_range.mpr c, hb⟩
          rw [← hq] at this
          cases this
      · exact hQ i (by omega) hi
    have k1 := ok.1
    have k2 := ok.2.1
    refine a_entry hb (by omega) (by omega) (fun bet => ?_) (fun t ht no => ?_)
    · apply h26
      refine ⟨fun z => absurd Q0 z, fun _ σ1 e1 σ2 e2 σ3 e3 => ?_⟩
      have d8 : σ3.1 7 8 = nI (p_last V acc) := by rw [e3, e2, e1]; rfl
      have d9 : σ3.1 7 9 = nI (p_sum V acc) := by rw [e3, e2, e1]; rfl
      have d7 : σ3.1 7 7 = σ.1 7 7 := by rw [e3, e2, e1]; rfl
      have dr : σ3.1 (66 + 6) = va_cpy (σ.1 (66 + 5)) (σ.1 (66 + 6)) 0 0 24 := by rw [e3, e2, e1]; rfl
      have d5 : σ3.1 (66 + 5) = σ.1 (66 + 5) := by rw [e3, e2, e1]; rfl
      have dc : ∀ c, c ≠ 7 → c ≠ 66 + 6 → σ3.1 c = σ.1 c := by
        intro c c1 c2
        rw [e3, e2, e1]
        show (if c = 66 + 6 then _ else (xw_i (xw_i σ 7 8 _) 7 9 _).1 c) = σ.1 c
        rw [if_neg c2, xw_ne c1, xw_ne c1]
      clear e1 e2 e3
      refine hz σ3 ⟨fun c c1 c2 c3 => dc c c1 c3, d7⟩ (by unfold a_rel; rw [d5]; exact rel) (by unfold a_oth; rw [d5]; exact ho) ?_
      show a_best V σ3 (p_upd V B acc)
      rw [p_upd_bet bet]
      refine ⟨by show p_last V acc ≤ 100000; omega, by show p_sum V acc ≤ 100000; omega, d8, d9, ?_⟩
      rw [dr]
      have cp : ∀ j, j < 24 → va_cpy (σ.1 (66 + 5)) (σ.1 (66 + 6)) 0 0 24 j = σ.1 (66 + 5) j := by
        intro j hj
        rw [pk_cpy_in (Nat.zero_le j) (by omega), Nat.sub_zero, Nat.zero_add]
      intro o ho6
      by_cases c : ∃ p, p ∈ acc ∧ p.1 = o
      · obtain ⟨p, p1, p2⟩ := c
        refine Or.inl ⟨p, p1, p2, ?_⟩
        rw [cp _ (by omega), cp _ (by omega), cp _ (by omega), cp _ (by omega), ← p2]
        exact rel p p1
      · have c' : ∀ p, p ∈ acc → p.1 ≠ o := fun p p1 p2 => c ⟨p, p1, p2⟩
        refine Or.inr ⟨c', fun w hw => ?_⟩
        rw [cp _ (by omega)]
        exact ho o ho6 c' (by simp) w hw
    · refine hz σ a_F0 rel ho ?_
      subst ht
      rw [p_dfs_no 0 acc [] no]
      exact hb
  | succ n ihn =>
    intro d acc l P Q B σ Z hd hlen hl hq hQ hx H ho hb hz
    obtain ⟨d, rfl⟩ : ∃ k, d = k + 1 := ⟨d - 1, by omega⟩
    obtain ⟨hV, n6, l6, ok, ⟨en, er⟩, rel, msk⟩ := id H
    intro K26 K56 h26 h56
    have Q0 : ¬ Q = 0 := by
      intro z
      rw [z] at hq
      have : l = [] := by
        rw [hq]
        apply List.filter_eq_nil_iff.mpr
        intro a _
        simp [b_0]
      rw [this] at hl
      simp at hl
    have k1 := ok.1
    have k2 := ok.2.1
    refine a_entry hb (by omega) (by omega) (fun bet => ?_) (fun t ht no => ?_)
    · apply h26
      refine ⟨fun _ => ?_, fun z => absurd z Q0⟩
      have key : ∀ (k o : Nat) (σ' : xw_M) (B' : Option pT), o + k = 6 → a_F σ σ' → a_rel V σ' acc → a_oth σ' acc l → a_best V σ' B' → ((List.range' o k).filter (fun x => bt Q x)).foldl (fun B b => p_dfs V n (p_pl V acc b :: acc) (l.filter (fun x => x != b)) B) B' = p_dfs V (n + 1) acc l B → K56 σ' (nI o) := by
        intro k
        induction k with
        | zero =>
          intro o σ' B' hok f' rel' ho' hb' e
          obtain rfl : o = 6 := by omega
          apply h56
          refine ⟨fun _ => hz σ' f' rel' ho' ?_, fun z => absurd (by decide) z⟩
          rw [← e]
          exact hb'
        | succ k ih =>
          intro o σ' B' hok f' rel' ho' hb' e
          have H' := a_S_F H f' rel'
          apply h56
          unfold xb_X4_tryOrders_56
          rw [nI_1]
          rw [List.range'_succ, List.filter_cons] at e
          have tb : (Q &&& ((1 : Int32) <<< (nI o &&& 31)) = 0) ↔ bt Q o = false := by
            constructor
            · intro z
              have := congrArg (fun q => bt q o) z
              simp only [b_and, b_0] at this
              rw [b_shl o (by omega) 1 (by omega), Nat.sub_self, bt_1 0 (by decide)] at this
              simpa using this
            · intro z
              apply b_ext
              intro i hi
              rw [b_and, b_0, b_shl o (by omega) 1 hi, bt_1 _ (by omega)]
              by_cases c : i = o
              · subst c; rw [z]; rfl
              · by_cases c2 : o ≤ i
                · simp [show ¬ i - o = 0 by omega]
                · simp [c2]
          refine ⟨fun z => absurd z (nI_ge (b := 6) (by omega) (by decide)), fun _ => ⟨fun z => ?_, fun z => ?_⟩⟩
          · rw [if_neg (by rw [tb.mp z]; decide)] at e
            exact ih (o + 1) σ' B' (by omega) f' rel' ho' hb' e
          · have qo : bt Q o = true := by
              cases hq2 : bt Q o
              · exact absurd (tb.mpr hq2) z
              · rfl
            rw [if_pos qo, List.foldl_cons] at e
            have ol : o ∈ l := by rw [hq]; exact List.mem_filter.mpr ⟨List.mem_range.mpr (by omega), qo⟩
            obtain ⟨x1, x2, x3⟩ := hx o ol
            have is := p_pl_is (acc := acc) hV x2
            refine a_place H' x1 x2 is ?_
            have pa := a_put_at (V := V) (σ := σ') (b := o) (e := (p_pl V acc o).2)
            have pn := fun (o' : Nat) (w : Nat) (h : o' ≠ o) (hw : w < 4) => a_put_ne (V := V) (σ := σ') (e := (p_pl V acc o).2) h hw
            have pf := a_put_F (V := V) (σ := σ') (b := o) (e := (p_pl V acc o).2)
            have pb : a_best V (a_put V σ' o (p_pl V acc o).2) B' := a_best_c rfl rfl rfl hb'
            generalize a_put V σ' o (p_pl V acc o).2 = σ4 at *
            refine pA_at (w := 3) (by omega) (by decide) ?_
            rw [pa.2.2.2]
            have ok' := p_ok_cons hV x2 x1 (by omega) ok
            have relc : a_rel V σ4 (p_pl V acc o :: acc) := by
              intro p hp
              rcases List.mem_cons.mp hp with rfl | hp
              · exact pa
              · have hne := x3 p hp
                have r := rel' p hp
                refine ⟨?_, ?_, ?_, ?_⟩
                · rw [show 4 * p.1 = 4 * p.1 + 0 from rfl, pn p.1 0 hne (by decide)]; exact r.1
                · rw [pn p.1 1 hne (by decide)]; exact r.2.1
                · rw [pn p.1 2 hne (by decide)]; exact r.2.2.1
                · rw [pn p.1 3 hne (by decide)]; exact r.2.2.2
            have f4 := a_Ft f' pf
            have S4 : a_S V nb σ4 (P ||| ((1 : Int32) <<< (nI o &&& 31))) (p_pl V acc o :: acc) := by
              have base := a_S_F H' pf (fun p hp => relc p (List.mem_cons_of_mem _ hp))
              obtain ⟨_, _, _, _, env4, _, _⟩ := base
              refine ⟨hV, n6, by rw [List.length_cons]; omega, ok', env4, relc, fun o' ho' => ?_⟩
              rw [bt_set P (by omega) (by omega), Bool.or_eq_true, decide_eq_true_iff, msk o' ho']
              constructor
              · rintro (⟨p, p1, p2⟩ | rfl)
                · exact ⟨p, List.mem_cons_of_mem _ p1, p2⟩
                · exact ⟨_, List.mem_cons_self .., rfl⟩
              · rintro ⟨p, p1, p2⟩
                rcases List.mem_cons.mp p1 with rfl | p1
                · exact Or.inr p2.symm
                · exact Or.inl ⟨p, p1, p2⟩
            have bits : ∀ i, i < 32 → bt (Q &&& (((1 : Int32) <<< (nI o &&& 31)) ^^^ (-1))) i = (bt Q i && decide (i ≠ o)) := by
              intro i hi
              rw [b_and, b_xor, b_m1 i hi, b_shl o (by omega) 1 hi, bt_1 _ (by omega)]
              by_cases c : i = o
              · subst c; simp
              · by_cases c2 : o ≤ i
                · simp [c, show ¬ i - o = 0 by omega]
                · simp [c, c2]
            have elast : (if nI (p_last V acc) < nI ((p_pl V acc o).2.2.2 + V.1 o) then nI ((p_pl V acc o).2.2.2 + V.1 o) else nI (p_last V acc)) = nI (p_last V (p_pl V acc o :: acc)) := by
              have en : p_end V (p_pl V acc o) = (p_pl V acc o).2.2.2 + V.1 o := rfl
              have le := p_is_le hV x2 is
              have tk := hV.2.2.1 o
              simp only [p_last]
              rw [en]
              by_cases c : p_last V acc < (p_pl V acc o).2.2.2 + V.1 o
              · rw [if_pos c, if_pos (nI_lt c (by omega))]
              · rw [if_neg c, if_neg (nI_nlt (by omega) (by omega))]
            have esum : nI (p_sum V acc) + nI ((p_pl V acc o).2.2.2 + V.1 o) = nI (p_sum V (p_pl V acc o :: acc)) := by
              rw [nI_add]; rfl
            rw [elast, esum]
            have filt : l.filter (fun x => x != o) = (List.range 6).filter (fun x => bt (Q &&& (((1 : Int32) <<< (nI o &&& 31)) ^^^ (-1))) x) := by
              rw [hq, List.filter_filter]
              apply List.filter_congr
              intro x hx6
              rw [bits x (by have := List.mem_range.mp hx6; omega), Bool.and_comm]
              congr 1
              by_cases c : x = o <;> simp [c]
            have nod : l.Nodup := by rw [hq]; exact List.Pairwise.filter _ List.nodup_range
            have len : (l.filter (fun x => x != o)).length = n := by
              have := nod.erase_eq_filter o
              rw [← this, List.length_erase_of_mem ol, hl]
              rfl
            refine ihn d (p_pl V acc o :: acc) (l.filter (fun x => x != o)) _ _ B' σ4 _ (by omega) (by rw [List.length_cons]; omega) len filt (fun i i1 i2 => by rw [bits i i2, hQ i i1 i2]; rfl) (fun x hxl => ?_) S4 (fun o' h6 hp hnl w hw => ?_) pb (fun σ5 f5 rel5 ho5 hb5 => ?_)
            · obtain ⟨y1, y2⟩ := List.mem_filter.mp hxl
              obtain ⟨z1, z2, z3⟩ := hx x y1
              refine ⟨z1, z2, fun p hp => ?_⟩
              rcases List.mem_cons.mp hp with rfl | hp
              · show o ≠ x
                intro c
                subst c
                simp at y2
              · exact z3 p hp
            · have c1 : o' ≠ o := fun c => hp _ (List.mem_cons_self ..) (by show o = o'; omega)
              rw [pn o' w c1 hw]
              refine ho' o' h6 (fun p p1 => hp p (List.mem_cons_of_mem _ p1)) (fun c => hnl ?_) w hw
              exact List.mem_filter.mpr ⟨c, by simp [c1]⟩
            · refine ih (o + 1) σ5 _ (by omega) (a_Ft f4 f5) (fun p hp => rel5 p (List.mem_cons_of_mem _ hp)) (fun o' h6 hp hnl w hw => ?_) hb5 e
              refine ho5 o' h6 (fun p p1 => ?_) (fun c => hnl (List.mem_filter.mp c).1) w hw
              rcases List.mem_cons.mp p1 with rfl | p1
              · show o ≠ o'
                intro c
                subst c
                exact hnl ol
              · exact hp p p1
      refine key 6 0 σ B (by omega) a_F0 rel ho hb ?_
      rw [← List.range_eq_range', ← hq]
      rfl
    · refine hz σ a_F0 rel ho ?_
      subst ht
      rw [p_dfs_no (n + 1) acc l no]
      exact hb
