/-! plan: both together -/
theorem p_run_ok {V : pV} {nb : Nat} (hV : p_V V) : ∀ (o : List Nat) (acc : List pE), (∀ x, x ∈ o → x < nb ∧ p_B V x) → acc.length + o.length ≤ 6 → p_ok V nb acc → p_ok V nb (p_run V acc o) ∧ (p_run V acc o).length = acc.length + o.length ∧ ∀ x, (∃ p, p ∈ p_run V acc o ∧ p.1 = x) ↔ (∃ p, p ∈ acc ∧ p.1 = x) ∨ x ∈ o
  | [], acc, _, _, ok => ⟨ok, rfl, fun x => by simp [p_run]⟩
  | b :: r, acc, hx, hl, ok => by
    obtain ⟨h1, h2⟩ := hx b (List.mem_cons_self ..)
    rw [List.length_cons] at hl
    have ok' := p_ok_cons hV h2 h1 (by omega) ok
    obtain ⟨y1, y2, y3⟩ := p_run_ok hV r (p_pl V acc b :: acc) (fun x h => hx x (List.mem_cons_of_mem _ h)) (by rw [List.length_cons]; omega) ok'
    refine ⟨y1, ?_, fun x => ?_⟩
    · show (p_run V (p_pl V acc b :: acc) r).length = _
      rw [y2, List.length_cons, List.length_cons]
      omega
    · show (∃ p, p ∈ p_run V (p_pl V acc b :: acc) r ∧ p.1 = x) ↔ _
      rw [y3 x]
      constructor
      · rintro (⟨p, p1, p2⟩ | h)
        · rcases List.mem_cons.mp p1 with rfl | p1
          · exact Or.inr (List.mem_cons.mpr (Or.inl p2.symm))
          · exact Or.inl ⟨p, p1, p2⟩
        · exact Or.inr (List.mem_cons_of_mem _ h)
      · rintro (⟨p, p1, p2⟩ | h)
        · exact Or.inl ⟨p, List.mem_cons_of_mem _ p1, p2⟩
        · rcases List.mem_cons.mp h with rfl | h
          · exact Or.inl ⟨_, List.mem_cons_self .., rfl⟩
          · exact Or.inr h
def p_good (V : pV) (nb : Nat) (l : List Nat) (t : pT) : Prop := p_ok V nb t.2.2 ∧ t.2.2.length ≤ 6 ∧ ∀ x, (∃ p, p ∈ t.2.2 ∧ p.1 = x) ↔ x ∈ l
theorem p_fold_good {V : pV} {nb : Nat} {l : List Nat} (hV : p_V V) (l6 : l.length ≤ 6) (hl : ∀ x, x ∈ l → x < nb ∧ p_B V x) : ∀ (os : List (List Nat)) (B : Option pT), (∀ o, o ∈ os → b_good l o) → (∀ t, B = some t → p_good V nb l t) → ∀ t, os.foldl (fun B o => p_upd V B (p_run V [] o)) B = some t → p_good V nb l t
  | [], B, _, hB, t, e => hB t e
  | o :: r, B, ho, hB, t, e => by
    rw [List.foldl_cons] at e
    refine p_fold_good hV l6 hl r _ (fun x hx => ho x (List.mem_cons_of_mem _ hx)) (fun t' e' => ?_) t e
    obtain ⟨g1, g2, g3⟩ := ho o (List.mem_cons_self ..)
    obtain ⟨y1, y2, y3⟩ := p_run_ok hV o [] (fun x hx => hl x ((g2 x).mp hx)) (by rw [List.length_nil]; omega) ⟨Nat.zero_le _, Nat.zero_le _, fun p hp => by cases hp⟩
    have good : p_good V nb l (p_last V (p_run V [] o), p_sum V (p_run V [] o), p_run V [] o) := by
      refine ⟨y1, ?_, fun x => ?_⟩
      · show (p_run V [] o).length ≤ 6
        rw [y2, List.length_nil]; omega
      · show (∃ p, p ∈ p_run V [] o ∧ p.1 = x) ↔ _
        rw [y3 x, ← g2 x]
        constructor
        · rintro (⟨p, hp, _⟩ | h)
          · cases hp
          · exact h
        · exact Or.inr
    cases B with
    | none =>
      simp only [p_upd] at e'
      cases e'
      exact good
    | some t0 =>
      simp only [p_upd] at e'
      split at e'
      · cases e'; exact good
      · cases e'; exact hB _ rfl
theorem p_upd_some {V : pV} {B : Option pT} {acc : List pE} : ∃ t, p_upd V B acc = some t := by
  cases B with
  | none => exact ⟨_, rfl⟩
  | some t =>
    simp only [p_upd]
    split
    · exact ⟨_, rfl⟩
    · exact ⟨_, rfl⟩
theorem p_fold_some {V : pV} : ∀ (os : List (List Nat)) (B : Option pT), (∃ t, B = some t) → ∃ t, os.foldl (fun B o => p_upd V B (p_run V [] o)) B = some t
  | [], B, h => h
  | o :: r, B, _ => by
    rw [List.foldl_cons]
    exact p_fold_some r _ p_upd_some
theorem n_bool : ∀ a b c d e f : Bool, ∃ m, m < 64 ∧ (m.testBit 0 = a ∧ m.testBit 1 = b ∧ m.testBit 2 = c ∧ m.testBit 3 = d ∧ m.testBit 4 = e ∧ m.testBit 5 = f) := by
  intro a b c d e f
  refine ⟨a.toNat + 2 * b.toNat + 4 * c.toNat + 8 * d.toNat + 16 * e.toNat + 32 * f.toNat, ?_⟩
  cases a <;> cases b <;> cases c <;> cases d <;> cases e <;> cases f <;> decide
theorem n_ex (q : Nat → Bool) : ∃ m, m < 64 ∧ (List.range 6).filter q = n_set m := by
  obtain ⟨m, hm, e0, e1, e2, e3, e4, e5⟩ := n_bool (q 0) (q 1) (q 2) (q 3) (q 4) (q 5)
  refine ⟨m, hm, List.filter_congr (fun x hx => ?_)⟩
  have := List.mem_range.mp hx
  rcases (show x = 0 ∨ x = 1 ∨ x = 2 ∨ x = 3 ∨ x = 4 ∨ x = 5 by omega) with rfl | rfl | rfl | rfl | rfl | rfl
  · exact e0.symm
  · exact e1.symm
  · exact e2.symm
  · exact e3.symm
  · exact e4.symm
  · exact e5.symm
theorem n_seq (V : pV) : ∃ rest, p_lex (m_l V).length (m_l V) = m_l V :: rest ∧ n_ch (m_l V :: rest) = true ∧ ∀ o, o ∈ m_l V :: rest → b_good (m_l V) o := by
  obtain ⟨m, hm, em⟩ := n_ex (fun b => decide (V.1 b ≠ 0))
  have em : m_l V = n_set m := em
  have c := n_all m hm
  unfold n_chk at c
  rw [← em, Bool.and_eq_true, Bool.and_eq_true, decide_eq_true_iff] at c
  obtain ⟨c1, c2, c3⟩ := c
  cases hp : p_lex (m_l V).length (m_l V) with
  | nil => rw [hp] at c1; cases c1
  | cons o rest =>
    rw [hp] at c1 c2 c3
    have e : o = m_l V := by simpa using c1
    subst e
    exact ⟨rest, rfl, c2, fun o ho => b_good_of (List.all_eq_true.mp c3 o ho)⟩
theorem n_cut {q : Nat → Bool} {nb : Nat} (h : ∀ x, nb ≤ x → q x = false) : ∀ k, (List.range (nb + k)).filter q = (List.range nb).filter q
  | 0 => rfl
  | k + 1 => by
    rw [← Nat.add_assoc, List.range_succ, List.filter_append, n_cut h k]
    simp [h (nb + k) (by omega)]
theorem n_f_a1 {L : List Nat} {b j : Nat} (h : j < L.length) : n_f (L ++ [b]) j = n_f L j := by
  unfold n_f
  rw [List.getD_eq_getElem?_getD, List.getD_eq_getElem?_getD, List.getElem?_append_left h]
theorem n_f_a2 {L : List Nat} {b : Nat} : n_f (L ++ [b]) L.length = b := by
  unfold n_f
  rw [List.getD_eq_getElem?_getD, List.getElem?_append_right (Nat.le_refl _), Nat.sub_self]
  rfl
theorem xw_oj {σ : xw_M} {c c' j j' : Nat} {v : Int32} (h : j ≠ j') : (xw_i σ c' j' v).1 c j = σ.1 c j := by simp [xw_i, h]
section PLAN2
variable {σ0 τ0 : xw_M} {nb nd ns nf live nr sz : Nat} {F : Nat → tU}
/-- what the reference's plan leaves behind -/
def b_left (V : pV) (τ τ1 : xw_M) (nb s : Nat) (t : pT) : Prop := (∀ c, c ≠ 42 → c ≠ 43 → c < 44 ∨ 57 < c → τ1.1 c = τ.1 c) ∧ τ1.2 = τ.2 ∧ (∀ c j, 44 ≤ c → c ≤ 47 → j < 6 * s ∨ 6 * s + nb ≤ j → τ1.1 c j = τ.1 c j) ∧ (∀ b, b < nb → V.1 b = 0 → τ1.1 45 (6 * s + b) = -1) ∧ ∀ p, p ∈ t.2.2 → τ1.1 44 (6 * s + p.1) = nI p.2.1 ∧ τ1.1 45 (6 * s + p.1) = nI p.2.2.1 ∧ τ1.1 46 (6 * s + p.1) = nI p.2.2.2 ∧ τ1.1 47 (6 * s + p.1) = nI (p_end V p)
theorem qB_plan {s n : Nat} {X : Int32 → xw_M → Prop} (H : m_C σ0 τ0 nb nd ns nf live nr sz F) (hs : s < ns) (hn : n ≤ nf)
    (x1 : (∀ b, b < nb → (m_V σ0 F nr nb nd s n).1 b ≠ 0 → p_B (m_V σ0 F nr nb nd s n) b) → ∀ τ1 t, p_dfs (m_V σ0 F nr nb nd s n) (m_l (m_V σ0 F nr nb nd s n)).length [] (m_l (m_V σ0 F nr nb nd s n)) none = some t → p_good (m_V σ0 F nr nb nd s n) nb (m_l (m_V σ0 F nr nb nd s n)) t → b_left (m_V σ0 F nr nb nd s n) τ0 τ1 nb s t → X (nI t.1) τ1)
    (x0 : (∃ b, b < nb ∧ (m_V σ0 F nr nb nd s n).1 b ≠ 0 ∧ ¬ p_B (m_V σ0 F nr nb nd s n) b) → ∀ τ1, gB τ0 τ1 → X (-2) τ1) : xu_X12_plan τ0 (nI s) (nI n) X := by
  obtain ⟨hV, -, eR⟩ := m_V_ok H (s := s) (n := n)
  obtain ⟨-, -, -, ⟨b1, b2, b3, b4⟩, ⟨q1, q2, q3, q4⟩, ⟨p1, p2, p3, p4, p5, p6⟩, ⟨w1, w2, w3, w4⟩, -⟩ := id H
  have vt : ∀ b, b < nb → (m_V σ0 F nr nb nd s n).1 b = m_tk σ0 s nd b := fun b hb => if_pos hb
  have vt0 : ∀ b, ¬ b < nb → (m_V σ0 F nr nb nd s n).1 b = 0 := fun b hb => if_neg hb
  have vpb := fun b hb ht => m_pB H (s := s) (n := n) (b := b) hb ht
  have vj0 : ∀ b, b < nb → m_tk σ0 s nd b = 0 → (m_V σ0 F nr nb nd s n).2.1 b = 0 := fun b hb h => if_neg (fun q => q.2 h)
  have vh : ∀ b, (m_V σ0 F nr nb nd s n).2.2.1 b = m_han σ0 s b nd := fun b => rfl
  generalize m_V σ0 F nr nb nd s n = V at *
  intro K29 K90 K104 K205 K275 K320 h29 h90 h104 h205 h275 h320
  refine pB_show p3 (by omega) (fun _ _ => ⟨fun z => absurd z (by decide), fun _ => ?_⟩) (fun z => absurd ⟨by rw [i_nI (by omega)]; omega, by rw [i_nI (by omega)]; omega⟩ z)
  refine pB_known w3 (by omega) (fun _ _ => ⟨fun _ => ?_, fun z => absurd z (by decide)⟩) (fun z => absurd ⟨by rw [i_nI (by omega)]; omega, by rw [i_nI (by omega)]; omega⟩ z)
  refine qB_gathers H hs hn (fun τ1 g1 hg => ?_)
  have nbe : τ1.1 0 42 = nI nb := by rw [gB_d g1 (c := 0) (by omega)]; exact b3
  have e48 : ∀ b, b < nb → τ1.1 48 b = nI (V.1 b) := fun b hb => by rw [(hg b hb).1, vt b hb]
  have env : b_env V nb τ1 := by
    refine ⟨fun b hb => ⟨e48 b hb, fun pb => ?_, by rw [(hg b hb).2.2, vh]⟩, by rw [gB_d g1 (c := 0) (by omega)]; exact eR⟩
    by_cases c : m_tk σ0 s nd b = 0
    · obtain ⟨i, i1, i2⟩ := pb
      rw [vj0 b hb c, b_0] at i2
      exact absurd i2 (by decide)
    · rw [(vpb b hb c).1]; exact (hg b hb).2.1
  have l6 : (m_l V).length ≤ 6 := by
    have := List.length_filter_le (fun b => decide (V.1 b ≠ 0)) (List.range 6)
    rw [List.length_range] at this
    exact this
  have lmem : ∀ x, x ∈ m_l V ↔ x < nb ∧ V.1 x ≠ 0 := by
    intro x
    unfold m_l
    rw [List.mem_filter, List.mem_range, decide_eq_true_iff]
    constructor
    · rintro ⟨y1, y2⟩
      exact ⟨Nat.not_le.mp fun c => y2 (vt0 x (by omega)), y2⟩
    · rintro ⟨y1, y2⟩
      exact ⟨by omega, y2⟩
  have goOn : (∀ b, b < nb → V.1 b ≠ 0 → p_B V b) → ∀ τ, b_F τ1 τ → b_ord τ (m_l V) → K90 τ (nI (m_l V).length) (-1) 0 1 := by
    intro allB τ f ord
    have hl : ∀ x, x ∈ m_l V → x < nb ∧ p_B V x := fun x hx => ⟨((lmem x).mp hx).1, allB x ((lmem x).mp hx).1 ((lmem x).mp hx).2⟩
    obtain ⟨rest, er, ch, good⟩ := n_seq V
    refine b_main hV b1 l6 hl h90 h104 h205 env nbe rest (m_l V) none (-1) 0 τ ch good f ord rfl (fun τ2 v4 v5 f2 hb2 => ?_)
    have ed := p_dfs_eq V (m_l V).length [] (m_l V) none
    rw [er] at ed
    rw [← ed] at hb2
    obtain ⟨t, et⟩ : ∃ t, p_dfs V (m_l V).length [] (m_l V) none = some t := by
      rw [ed, List.foldl_cons]
      exact p_fold_some rest _ p_upd_some
    have pg : p_good V nb (m_l V) t := p_fold_good hV l6 hl (m_l V :: rest) none good (fun t h => by cases h) t (by rw [← ed]; exact et)
    rw [et] at hb2
    obtain ⟨k1, k2, k3, k4, k5⟩ := hb2
    rw [k1]
    have nb2 : ∀ τ' : xw_M, (∀ c, c ≠ 44 → c ≠ 45 → c ≠ 46 → c ≠ 47 → τ'.1 c = τ2.1 c) → τ'.1 0 42 = nI nb := fun τ' h => by rw [h 0 (by decide) (by decide) (by decide) (by decide), f2.1 0 (by omega)]; exact nbe
    have t48 : ∀ τ' : xw_M, (∀ c, c ≠ 44 → c ≠ 45 → c ≠ 46 → c ≠ 47 → τ'.1 c = τ2.1 c) → ∀ b, b < nb → τ'.1 48 b = nI (V.1 b) := fun τ' h b hb => by rw [h 48 (by decide) (by decide) (by decide) (by decide), f2.1 48 (by omega)]; exact e48 b hb
    have key : ∀ (k b : Nat) (τ' : xw_M), b + k = nb → (∀ c, c ≠ 44 → c ≠ 45 → c ≠ 46 → c ≠ 47 → τ'.1 c = τ2.1 c) → τ'.2 = τ2.2 → (∀ c j, j < 6 * s ∨ 6 * s + b ≤ j → τ'.1 c j = τ2.1 c j) → (∀ x, x < b → τ'.1 45 (6 * s + x) = (if V.1 x = 0 then -1 else τ2.1 56 x) ∧ τ'.1 44 (6 * s + x) = τ2.1 55 x ∧ τ'.1 46 (6 * s + x) = τ2.1 57 x ∧ τ'.1 47 (6 * s + x) = τ2.1 57 x + nI (V.1 x)) → K275 τ' (nI t.1) (nI b) := by
      intro k
      induction k with
      | zero =>
        intro b τ' hbk hc h2 hj hx
        obtain rfl : b = nb := by omega
        apply h275
        unfold xb_X12_plan_275
        rw [nb2 τ' hc]
        refine ⟨fun _ => x1 allB τ' t et pg ⟨fun c c1 c2 c3 => ?_, ?_, fun c j c1 c2 hjj => ?_, fun x hxb h0 => ?_, fun p hp => ?_⟩, fun z => absurd (nI_le (Nat.le_refl b) (by omega)) z⟩
        · rw [hc c (by omega) (by omega) (by omega) (by omega), f2.1 c (by omega)]
          exact g1.1 c c1 c2 (by omega)
        · exact h2.trans (f2.2.trans g1.2)
        · rw [hj c j hjj, f2.1 c (by omega)]
          rw [gB_d g1 (by omega)]
        · rw [(hx x hxb).1, if_pos h0]
        · obtain ⟨y1, y2, y3, y4⟩ := k5 p hp
          have pv : V.1 p.1 ≠ 0 := ((lmem p.1).mp ((pg.2.2 p.1).mp ⟨p, hp, rfl⟩)).2
          obtain ⟨z1, z2, z3, z4⟩ := hx p.1 y1
          rw [z1, z2, z3, z4, if_neg pv, y2, y3, y4, nI_add]
          exact ⟨rfl, rfl, rfl, rfl⟩
      | succ k ih =>
        intro b τ' hbk hc h2 hj hx
        have vb : vp_in (nI b) 6 := vp_in_nI (by omega) (by decide)
        have cb : (nI b).toNatClampNeg = b := nI_clamp (by omega)
        have vi : vp_in (nI (6 * s + b)) 30 := vp_in_nI (by omega) (by decide)
        have ci : (nI (6 * s + b)).toNatClampNeg = 6 * s + b := nI_clamp (by omega)
        have s55 : τ'.1 55 = τ2.1 55 := hc 55 (by decide) (by decide) (by decide) (by decide)
        have s56 : τ'.1 56 = τ2.1 56 := hc 56 (by decide) (by decide) (by decide) (by decide)
        have s57 : τ'.1 57 = τ2.1 57 := hc 57 (by decide) (by decide) (by decide) (by decide)
        have s48 := t48 τ' hc b (by omega)
        have wr : ∀ v : Int32, v = (if V.1 b = 0 then -1 else τ2.1 56 b) → K320 τ' (nI (6 * s + b)) v (nI t.1) (nI b) (nI (6 * s + b)) := by
          intro v hv
          apply h320
          unfold xb_X12_plan_320
          rw [ci, cb, nI_1]
          refine ⟨vi, fun τ18 e18 => ⟨vb, vi, fun τ19 e19 => ⟨vb, vi, fun τ20 e20 => ⟨vb, vb, vi, fun τ21 e21 => ?_⟩⟩⟩⟩
          rw [show τ18.1 55 = τ2.1 55 by rw [e18, xw_ne (by decide)]; exact s55] at e19
          rw [show τ19.1 57 = τ2.1 57 by rw [e19, e18, xw_ne (by decide), xw_ne (by decide)]; exact s57] at e20
          rw [show τ20.1 57 = τ2.1 57 by rw [e20, e19, e18, xw_ne (by decide), xw_ne (by decide), xw_ne (by decide)]; exact s57, show τ20.1 48 b = nI (V.1 b) by rw [e20, e19, e18, xw_ne (by decide), xw_ne (by decide), xw_ne (by decide)]; exact s48] at e21
          refine ih (b + 1) τ21 (by omega) (fun c c1 c2 c3 c4 => ?_) ?_ (fun c j hjj => ?_) (fun x hxb => ?_)
          · rw [e21, e20, e19, e18, xw_ne c4, xw_ne c3, xw_ne c1, xw_ne c2]; exact hc c c1 c2 c3 c4
          · rw [e21, e20, e19, e18]; exact h2
          · rw [e21, e20, e19, e18, xw_oj (by omega), xw_oj (by omega), xw_oj (by omega), xw_oj (by omega)]; exact hj c j (by omega)
          · by_cases c : x = b
            · subst c
              rw [e21, e20, e19, e18]
              refine ⟨?_, ?_, ?_, ?_⟩
              · rw [xw_ne (by decide), xw_ne (by decide), xw_ne (by decide), xw_eq, hv]
              · rw [xw_ne (by decide), xw_ne (by decide), xw_eq]
              · rw [xw_ne (by decide), xw_eq]
              · rw [xw_eq]
            · rw [e21, e20, e19, e18]
              simp only [xw_oj (show 6 * s + x ≠ 6 * s + b by omega)]
              exact hx x (by omega)
        apply h275
        unfold xb_X12_plan_275
        rw [nb2 τ' hc, cb, ix6, s48, s56]
        refine ⟨fun z => absurd z (nI_ge (by omega) (by omega)), fun _ => ⟨vb, fun z => ⟨vb, wr _ ?_⟩, fun z => wr _ ?_⟩⟩
        · rw [if_neg (fun q => z (by rw [q]; rfl))]
        · have := hV.2.2.1 b
          rw [if_pos ((nI_eq (b := 0) (by omega) (by decide)).mp z)]
    exact key nb 0 τ2 (by omega) (fun _ _ _ _ _ => rfl) rfl (fun _ _ _ => rfl) (fun x hx => absurd hx (by omega))
  have key : ∀ (k b : Nat) (τ : xw_M), b + k = nb → b_F τ1 τ → b_ord τ ((List.range b).filter (fun b => decide (V.1 b ≠ 0))) → (∀ x, x < b → V.1 x ≠ 0 → p_B V x) → K29 τ (nI ((List.range b).filter (fun b => decide (V.1 b ≠ 0))).length) (nI b) := by
    intro k
    induction k with
    | zero =>
      intro b τ hbk f ord hB
      obtain rfl : b = nb := by omega
      have el : (List.range b).filter (fun b => decide (V.1 b ≠ 0)) = m_l V := by
        unfold m_l
        rw [← n_cut (q := fun b => decide (V.1 b ≠ 0)) (nb := b) (fun x hx => by simp [vt0 x (by omega)]) (6 - b), show b + (6 - b) = 6 by omega]
      rw [el] at ord ⊢
      apply h29
      unfold xb_X12_plan_29
      rw [f.1 0 (by omega), nbe]
      exact ⟨fun _ => goOn hB τ f ord, fun z => absurd (nI_le (Nat.le_refl b) (by omega)) z⟩
    | succ k ih =>
      intro b τ hbk f ord hB
      have hbn : b < nb := by omega
      have vb : vp_in (nI b) 6 := vp_in_nI (by omega) (by decide)
      have cb : (nI b).toNatClampNeg = b := nI_clamp (by omega)
      have lb : ((List.range b).filter (fun b => decide (V.1 b ≠ 0))).length ≤ b := by
        have := List.length_filter_le (fun b => decide (V.1 b ≠ 0)) (List.range b)
        rw [List.length_range] at this
        exact this
      have nx := fun τ' => ih (b + 1) τ' (by omega)
      rw [List.range_succ, List.filter_append] at nx
      have tk := hV.2.2.1 b
      apply h29
      unfold xb_X12_plan_29
      rw [f.1 0 (by omega), nbe, cb, f.1 48 (by omega), f.1 49 (by omega), e48 b hbn, (hg b hbn).2.1, nI_1 b]
      refine ⟨fun z => absurd z (nI_ge hbn (by omega)), fun _ => ⟨vb, fun z => ⟨vb, fun z2 => ⟨vp_in_nI (by omega) (by decide), fun τ6 e6 => ?_⟩, fun z2 => ?_⟩, fun z => ?_⟩⟩
      · have v0 : V.1 b ≠ 0 := fun q => z (by rw [q]; rfl)
        have ef : (List.filter (fun b => decide (V.1 b ≠ 0)) [b]) = [b] := by simp [v0]
        rw [ef] at nx
        rw [nI_clamp (by omega)] at e6
        rw [nI_1]
        have := nx τ6 ⟨fun c hc => by rw [e6, xw_ne (by omega)]; exact f.1 c hc, by rw [e6]; exact f.2⟩ (fun j hj => ?_) (fun x hx hv => ?_)
        · rw [List.length_append] at this
          exact this
        · rw [List.length_append, List.length_singleton] at hj
          rw [e6]
          by_cases c : j = ((List.range b).filter (fun b => decide (V.1 b ≠ 0))).length
          · subst c; rw [xw_eq, n_f_a2]
          · rw [xw_nj c, n_f_a1 (by omega)]
            exact ord j (by omega)
        · by_cases c : x = b
          · subst c
            rw [vt x hbn] at v0
            exact (vpb x hbn v0).2.mpr z2
          · exact hB x (by omega) hv
      · have v0 : V.1 b ≠ 0 := fun q => z (by rw [q]; rfl)
        have v1 := v0
        rw [vt b hbn] at v0
        exact x0 ⟨b, hbn, v1, fun pb => (vpb b hbn v0).2.mp pb z2⟩ τ (gB_t g1 ⟨fun c _ _ hc => f.1 c (by omega), f.2⟩)
      · have v0 : V.1 b = 0 := (nI_eq (b := 0) (by omega) (by decide)).mp z
        have ef : (List.filter (fun b => decide (V.1 b ≠ 0)) [b]) = [] := by simp [v0]
        rw [ef, List.append_nil] at nx
        refine nx τ f ord (fun x hx hv => ?_)
        by_cases c : x = b
        · subst c; exact absurd v0 hv
        · exact hB x (by omega) hv
  exact key nb 0 τ1 (by omega) ⟨fun _ _ => rfl, rfl⟩ (fun j hj => by simp at hj) (fun x hx => absurd hx (by omega))
end PLAN2
theorem r_R_p {σ τ σ1 τ1 : xw_M} (h : r_R tX σ τ) (a : ∀ c, c < 7 ∨ (7 < c ∧ c < 44) ∨ (47 < c ∧ c < 64) ∨ c = 65 → σ1.1 c = σ.1 c) (b : ∀ c, c ≠ 42 → c ≠ 43 → c < 44 ∨ 57 < c → τ1.1 c = τ.1 c) (b2 : τ1.2 = τ.2) (hp : ∀ nb, σ.1 4 11 = nI nb → nb ≤ 6 → r_plan nb (fun i => σ.1 (66 + i)) (τ.1 44) (τ.1 45) (τ.1 46) (τ.1 47) → r_plan nb (fun i => σ1.1 (66 + i)) (τ1.1 44) (τ1.1 45) (τ1.1 46) (τ1.1 47)) : r_R tX σ1 τ1 := by
  obtain ⟨nt, nb, nd, ns, nf, h1, h2, h3, h4, h5, h6, h7, h8, h9, h10, h11⟩ := h
  have bb : ∀ c, c < 42 ∨ 57 < c → τ1.1 c = τ.1 c := fun c hc => b c (by omega) (by omega) (by omega)
  refine ⟨nt, nb, nd, ns, nf, ?_, ?_, ?_, ?_, ?_, ?_, ?_, ?_, ?_, hp nb h6.2.1 h6.1 h10, tX_ok _ _ _ _ h11 (by rw [b2]) (fun c hc => a c (by omega)) (by rw [bb 0 (by omega)]) (fun c c1 c2 => bb c (by omega))⟩
  · rw [a 1 (by omega), bb 0 (by omega), a 24 (by omega), bb 1 (by omega)]; exact h1
  · rw [a 28 (by omega), bb 25 (by omega)]; exact h2
  · rw [a 29 (by omega), bb 26 (by omega)]; exact h3
  · rw [a 0 (by omega), bb 0 (by omega)]; exact h4
  · rw [a 0 (by omega), bb 0 (by omega)]; exact h5
  · rw [a 4 (by omega), bb 0 (by omega), a 30 (by omega), a 31 (by omega), a 32 (by omega), a 33 (by omega), bb 27 (by omega), bb 28 (by omega), bb 29 (by omega), bb 30 (by omega)]; exact h6
  · rw [a 4 (by omega), bb 0 (by omega), a 34 (by omega), a 35 (by omega), a 36 (by omega), a 37 (by omega), a 38 (by omega), bb 31 (by omega), bb 32 (by omega), bb 33 (by omega), bb 34 (by omega), bb 35 (by omega)]; exact h7
  · rw [a 0 (by omega), bb 0 (by omega), bb 36 (by omega), bb 37 (by omega)]
    exact r_shows_c h8 (fun i hi => a _ (by omega))
  · rw [a 5 (by omega), bb 0 (by omega), a 39 (by omega), a 40 (by omega), a 41 (by omega), a 42 (by omega), a 43 (by omega), bb 38 (by omega), bb 39 (by omega), bb 40 (by omega), bb 41 (by omega)]; exact h9
def r_pc (nb b k : Nat) (row rb jb fb ub : Nat → Int32) : Prop := row (4 * b + 1) = jb k ∧ ((row (4 * b) = -1 ∧ row (4 * b + 1) = -1 ∧ row (4 * b + 2) = -1 ∧ row (4 * b + 3) = -1) ∨ (b < nb ∧ row (4 * b) = rb k ∧ row (4 * b + 2) = fb k ∧ row (4 * b + 3) = ub k ∧ 0 ≤ (row (4 * b)).toInt ∧ (row (4 * b)).toInt ≤ 2 ∧ (∃ k : Nat, k < 12 ∧ row (4 * b + 1) = nI k) ∧ 0 ≤ (row (4 * b + 2)).toInt ∧ (row (4 * b + 2)).toInt ≤ (row (4 * b + 3)).toInt ∧ (row (4 * b + 3)).toInt ≤ 100000))
theorem s_plan : ∀ σ τ, r_R tX σ τ → ∀ a0 a1 : Int32, xu_X11_plan σ a0 a1 (fun r σ1 => xu_X12_plan τ a0 a1 (fun r2 τ1 => r = r2 ∧ r_R tX σ1 τ1)) := by
  intro σ τ hR a c
  obtain ⟨nb, nd, ns, nf, live, nr, sz, F, H⟩ := r_R_C hR
  obtain ⟨-, -, -, ⟨k1, k2, k3, k4⟩, ⟨q1, q2, q3, q4⟩, ⟨p1, p2, p3, -⟩, ⟨w1, w2, w3, w4⟩, h10, -⟩ := id H
  refine pA_show p2 (by omega) (fun a1 a2 => ⟨fun g => absurd g (by decide), fun _ => ?_⟩) (fun g => ⟨fun _ _ _ _ _ _ _ _ _ _ _ _ _ => pB_show p3 (by omega) (fun z1 z2 => absurd ⟨z1, z2⟩ g) (fun _ => ⟨fun _ => ⟨rfl, hR⟩, fun z => absurd rfl z⟩), fun z => absurd rfl z⟩)
  refine pA_known w2 (by omega) (fun c1 c2 => ⟨fun _ => ⟨i_in a1 (by omega), ?_⟩, fun g => absurd g (by decide)⟩) (fun g => ⟨fun z => absurd rfl z, fun _ _ _ _ _ _ _ _ _ _ _ _ _ => pB_show p3 (by omega) (fun _ _ => ⟨fun z => absurd z (by decide), fun _ => pB_known w3 (by omega) (fun z1 z2 => absurd ⟨z1, z2⟩ g) (fun _ => ⟨fun z => absurd rfl z, fun _ => ⟨rfl, hR⟩⟩)⟩) (fun z => absurd ⟨a1, a2⟩ z)⟩)
  obtain ⟨s, hs, rfl, -, es⟩ := i_of (n := ns) a1 a2
  obtain ⟨n, hn, rfl, -⟩ := i_of (n := nf + 1) c1 (by omega)
  rw [es]
  refine qA_search H hs (by omega) (fun σ6 g6 allB hb => ⟨fun _ => ⟨i_in a1 (by omega), fun σ9 e9 => ?_⟩, fun z => absurd z (by decide)⟩) (fun σ6 g6 bad => ⟨fun z => absurd rfl z, fun _ => ?_⟩)
  · refine qB_plan H hs (by omega) (fun _ τ1 t et pg bl => ?_) (fun ⟨b, hb1, hb2, hb3⟩ => absurd (allB b hb1 hb2) hb3)
    rw [et] at hb
    obtain ⟨t1, t2, t3, t4, tab⟩ := hb
    have lmem : ∀ x, x ∈ m_l (m_V σ F nr nb nd s n) → x < nb ∧ (m_V σ F nr nb nd s n).1 x ≠ 0 := by
      intro x hx
      have y2 := (List.mem_filter.mp hx).2
      simp only [decide_eq_true_iff] at y2
      exact ⟨Nat.not_le.mp fun c => y2 (if_neg (by omega)), y2⟩
    have lmem2 : ∀ x, x < nb → (m_V σ F nr nb nd s n).1 x ≠ 0 → x ∈ m_l (m_V σ F nr nb nd s n) := fun x y1 y2 => List.mem_filter.mpr ⟨List.mem_range.mpr (by omega), by simp only [decide_eq_true_iff]; exact y2⟩
    have hV := (m_V_ok H (s := s) (n := n)).1
    generalize m_V σ F nr nb nd s n = V at *
    obtain ⟨l1, l2, l3, l4, l5⟩ := bl
    have c9 : ∀ c, c ≠ 66 + s → σ9.1 c = σ6.1 c := fun c hc => by rw [e9]; exact if_neg hc
    have r9 : ∀ j, j < 24 → σ9.1 (66 + s) j = σ6.1 (66 + 6) j := by
      intro j hj
      rw [e9]
      show (if 66 + s = 66 + s then va_cpy (σ6.1 (66 + 6)) (σ6.1 (66 + s)) 0 0 24 else σ6.1 (66 + s)) j = _
      rw [if_pos rfl, pk_cpy_in (Nat.zero_le j) (by omega), Nat.sub_zero, Nat.zero_add]
    refine ⟨by rw [c9 7 (by omega)]; exact t3, r_R_p hR (fun c hc => ?_) l1 l2 (fun nb' e1 e2 old => ?_)⟩
    · rw [c9 c (by omega)]
      exact gA_d g6 (by omega)
    · obtain rfl : nb' = nb := (nI_eq (by omega) (by omega)).mp (e1.symm.trans k2)
      intro i hi b hb
      show r_pc nb' b (6 * i + b) (σ9.1 (66 + i)) (τ1.1 44) (τ1.1 45) (τ1.1 46) (τ1.1 47)
      unfold r_pc
      by_cases ci : i = s
      · subst ci
        rw [r9 (4 * b) (by omega), r9 (4 * b + 1) (by omega), r9 (4 * b + 2) (by omega), r9 (4 * b + 3) (by omega)]
        rcases tab b hb with ⟨p, p1', p2', y0, y1, y2, y3⟩ | ⟨no, y⟩
        · have bd := p_bd pg.2.1 pg.1 p1'
          have ok := pg.1.2.2 p p1'
          obtain ⟨z1, z2, z3, z4⟩ := l5 p p1'
          have R3 := hV.2.1
          rw [p2'] at z1 z2 z3 z4 ok
          rw [y0, y1, y2, y3, z1, z2, z3, z4]
          refine ⟨rfl, Or.inr ⟨ok.1, rfl, rfl, rfl, ?_, ?_, ⟨p.2.2.1, ok.2.2, rfl⟩, ?_, ?_, ?_⟩⟩
          · rw [i_nI (by omega)]; omega
          · rw [i_nI (by omega)]; omega
          · rw [i_nI (by omega)]; omega
          · rw [i_nI (by omega), i_nI (by omega)]; omega
          · rw [i_nI (by omega)]; omega
        · have y0 : σ6.1 (66 + 6) (4 * b) = -1 := y 0 (by decide)
          rw [y0, y 1 (by decide), y 2 (by decide), y 3 (by decide)]
          refine ⟨?_, Or.inl ⟨rfl, rfl, rfl, rfl⟩⟩
          by_cases cb : b < nb'
          · have v0 : V.1 b = 0 := Classical.byContradiction fun q => by
              obtain ⟨p, p1', p2'⟩ := (pg.2.2 b).mpr (lmem2 b cb q)
              exact no p p1' p2'
            exact (l4 b cb v0).symm
          · rw [l3 45 (6 * i + b) (by decide) (by decide) (by omega)]
            obtain ⟨o1, o2⟩ := old i hi b hb
            rcases o2 with o2 | o2
            · exact (o1.symm.trans o2.2.1).symm
            · exact absurd o2.1 cb
      · have ec : σ9.1 (66 + i) = σ.1 (66 + i) := by rw [c9 _ (by omega)]; exact gA_d g6 (by omega)
        rw [ec, l3 44 (6 * i + b) (by decide) (by decide) (by omega), l3 45 (6 * i + b) (by decide) (by decide) (by omega), l3 46 (6 * i + b) (by decide) (by decide) (by omega), l3 47 (6 * i + b) (by decide) (by decide) (by omega)]
        exact old i hi b hb
  · refine qB_plan H hs (by omega) (fun allB => ?_) (fun _ τ1 g1 => ⟨rfl, ?_⟩)
    · obtain ⟨b, hb1, hb2, hb3⟩ := bad
      exact absurd (allB b hb1 hb2) hb3
    · refine r_R_p hR (fun c hc => gA_d g6 (by omega)) (fun c c1 c2 c3 => g1.1 c c1 c2 (by omega)) g1.2 (fun nb' _ _ old => ?_)
      rw [gB_d g1 (c := 44) (by omega), gB_d g1 (c := 45) (by omega), gB_d g1 (c := 46) (by omega), gB_d g1 (c := 47) (by omega)]
      exact r_plan_c old (fun i hi => gA_d g6 (by omega))
