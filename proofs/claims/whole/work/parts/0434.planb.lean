/-! the reference goes through all orders -/
def e_F (τ τ1 : xw_M) : Prop := (∀ c, c ≠ 52 → c ≠ 53 → c ≠ 54 → τ1.1 c = τ.1 c) ∧ τ1.2 = τ.2
def b_F (τ τ1 : xw_M) : Prop := (∀ c, c < 51 ∨ 57 < c → τ1.1 c = τ.1 c) ∧ τ1.2 = τ.2
theorem b_Ft {a b c : xw_M} (h1 : b_F a b) (h2 : b_F b c) : b_F a c := ⟨fun x p => (h2.1 x p).trans (h1.1 x p), h2.2.trans h1.2⟩
theorem e_Fb {a b : xw_M} (h : e_F a b) : b_F a b := ⟨fun c hc => h.1 c (by omega) (by omega) (by omega), h.2⟩
theorem b_env_F {V : pV} {nb : Nat} {τ τ1 : xw_M} (h : b_env V nb τ) (f : b_F τ τ1) : b_env V nb τ1 := by
  unfold b_env
  rw [f.1 48 (by omega), f.1 49 (by omega), f.1 50 (by omega), f.1 0 (by omega)]
  exact h
theorem n_f_get {o : List Nat} {j : Nat} (h : j < o.length) : n_f o j = o[j] := by
  unfold n_f
  rw [List.getD_eq_getElem?_getD, List.getElem?_eq_getElem h]
  rfl
def b_best (nb : Nat) (τ : xw_M) : Option pT → Int32 → Int32 → Prop
  | none, v4, _ => v4 = -1
  | some t, v4, v5 => v4 = nI t.1 ∧ v5 = nI t.2.1 ∧ t.1 ≤ 100000 ∧ t.2.1 ≤ 100000 ∧ ∀ p, p ∈ t.2.2 → p.1 < nb ∧ τ.1 55 p.1 = nI p.2.1 ∧ τ.1 56 p.1 = nI p.2.2.1 ∧ τ.1 57 p.1 = nI p.2.2.2
theorem b_best_c {nb : Nat} {τ τ1 : xw_M} {v4 v5 : Int32} (h55 : τ1.1 55 = τ.1 55) (h56 : τ1.1 56 = τ.1 56) (h57 : τ1.1 57 = τ.1 57) : ∀ {B : Option pT}, b_best nb τ B v4 v5 → b_best nb τ1 B v4 v5
  | none, g => g
  | some t, g => by unfold b_best at g ⊢; rw [h55, h56, h57]; exact g
section PLANB
variable {V : pV} {nb : Nat} {l : List Nat} {a1 a2 : Int32} {K29 : xw_M → Int32 → Int32 → Prop} {K90 : xw_M → Int32 → Int32 → Int32 → Int32 → Prop} {K104 : xw_M → Int32 → Int32 → Int32 → Int32 → Int32 → Int32 → Prop} {K205 : xw_M → Int32 → Int32 → Int32 → Int32 → Prop} {K275 : xw_M → Int32 → Int32 → Prop} {K320 : xw_M → Int32 → Int32 → Int32 → Int32 → Int32 → Prop} {Z : Int32 → xw_M → Prop}
theorem b_eval (hV : p_V V) (n6 : nb ≤ 6) (h104 : ∀ (σ : xw_M) (v3 : Int32) (v4 : Int32) (v5 : Int32) (v7 : Int32) (v8 : Int32) (v9 : Int32), xb_X12_plan_104 a1 a2 K29 K90 K104 K205 K275 K320 Z σ v3 v4 v5 v7 v8 v9 → K104 σ v3 v4 v5 v7 v8 v9) {o : List Nat} (o6 : o.length ≤ 6) (ho : ∀ j, j < o.length → n_f o j < nb ∧ p_B V (n_f o j)) (inj : ∀ i j, i < o.length → j < o.length → n_f o i = n_f o j → i = j) {τ : xw_M} (env : b_env V nb τ) (ord : b_ord τ o) {R : List pE} {v4 v5 : Int32} (fin : ∀ τ2, e_F τ τ2 → b_rel τ2 R → p_ok V nb R → R.length = o.length → K104 τ2 (nI o.length) v4 v5 (nI (p_last V R)) (nI (p_sum V R)) (nI o.length)) : ∀ (k i : Nat) (acc : List pE) (τ' : xw_M), i + k = o.length → e_F τ τ' → b_rel τ' acc → b_key o i acc → acc.length = i → p_ok V nb acc → p_run V acc (o.drop i) = R → K104 τ' (nI o.length) v4 v5 (nI (p_last V acc)) (nI (p_sum V acc)) (nI i) := by
  intro k
  induction k with
  | zero =>
    intro i acc τ' hi f rel ky la ok e
    obtain rfl : i = o.length := by omega
    rw [List.drop_length] at e
    simp only [p_run] at e
    subst e
    exact fin τ' f rel ok la
  | succ k ih =>
    intro i acc τ' hi f rel ky la ok e
    have hio : i < o.length := by omega
    obtain ⟨hb, hB⟩ := ho i hio
    have is := p_pl_is (acc := acc) hV hB
    have le := p_is_le hV hB is
    have tk := hV.2.2.1 (n_f o i)
    have k1 := ok.1
    have k2 := ok.2.1
    have ok' := p_ok_cons hV hB hb (by omega) ok
    rw [List.drop_eq_getElem_cons hio, ← n_f_get hio] at e
    simp only [p_run] at e
    have env' := b_env_F env (e_Fb f)
    have ord' : b_ord τ' o := by unfold b_ord; rw [f.1 51 (by decide) (by decide) (by decide)]; exact ord
    apply h104
    refine ⟨fun z => absurd z (nI_ge hio (by omega)), fun _ => ?_⟩
    refine b_places hV n6 (by omega) ok env' ord' rel ky hio o6 (fun j hj => (ho j hj).1) hB is ?_
    have vi : vp_in (nI i) 6 := vp_in_nI (by omega) (by decide)
    have vb : vp_in (nI (n_f o i)) 6 := vp_in_nI (by omega) (by decide)
    have en : p_end V (p_pl V acc (n_f o i)) = (p_pl V acc (n_f o i)).2.2.2 + V.1 (n_f o i) := rfl
    have fb : e_F τ (b_put τ' (n_f o i) (p_pl V acc (n_f o i)).2) := by
      refine ⟨fun c c1 c2 c3 => ?_, f.2⟩
      unfold b_put
      rw [xw_ne c2, xw_ne c1, xw_ne c3]
      exact f.1 c c1 c2 c3
    have p54 : (b_put τ' (n_f o i) (p_pl V acc (n_f o i)).2).1 54 (n_f o i) = nI (p_pl V acc (n_f o i)).2.2.2 := by
      unfold b_put
      rw [xw_ne (by decide), xw_ne (by decide), xw_eq]
    have p52 : (b_put τ' (n_f o i) (p_pl V acc (n_f o i)).2).1 52 (n_f o i) = nI (p_pl V acc (n_f o i)).2.1 := by
      unfold b_put
      rw [xw_ne (by decide), xw_eq]
    have p53 : (b_put τ' (n_f o i) (p_pl V acc (n_f o i)).2).1 53 (n_f o i) = nI (p_pl V acc (n_f o i)).2.2.1 := by
      unfold b_put
      rw [xw_eq]
    have pn : ∀ x, x ≠ n_f o i → (b_put τ' (n_f o i) (p_pl V acc (n_f o i)).2).1 52 x = τ'.1 52 x ∧ (b_put τ' (n_f o i) (p_pl V acc (n_f o i)).2).1 53 x = τ'.1 53 x ∧ (b_put τ' (n_f o i) (p_pl V acc (n_f o i)).2).1 54 x = τ'.1 54 x := by
      intro x hx
      unfold b_put
      refine ⟨?_, ?_, ?_⟩
      · rw [xw_ne (by decide), xw_nj hx, xw_ne (by decide)]
      · rw [xw_nj hx, xw_ne (by decide), xw_ne (by decide)]
      · rw [xw_ne (by decide), xw_ne (by decide), xw_nj hx]
    generalize b_put τ' (n_f o i) (p_pl V acc (n_f o i)).2 = τ2 at *
    have o2 : τ2.1 51 i = nI (n_f o i) := by rw [fb.1 51 (by decide) (by decide) (by decide)]; exact ord i hio
    have e48 : τ2.1 48 (n_f o i) = nI (V.1 (n_f o i)) := by rw [fb.1 48 (by decide) (by decide) (by decide)]; exact (env.1 _ hb).1
    rw [nI_clamp (n := i) (by omega), o2, nI_clamp (n := n_f o i) (by omega), p54, e48, nI_add, nI_1 i, ← en]
    refine ⟨vi, vb, vi, vb, fun x12 e12 => ?_⟩
    have rel2 : b_rel τ2 (p_pl V acc (n_f o i) :: acc) := by
      intro p hp
      rcases List.mem_cons.mp hp with rfl | hp
      · exact ⟨p52, p53, p54⟩
      · obtain ⟨j, j1, j2⟩ := ky.1 p hp
        have hne : p.1 ≠ n_f o i := fun c => by
          have := inj j i (by omega) hio (by rw [j2, c])
          omega
        obtain ⟨q1, q2, q3⟩ := pn p.1 hne
        rw [q1, q2, q3]
        exact rel p hp
    have ky2 : b_key o (i + 1) (p_pl V acc (n_f o i) :: acc) := by
      refine ⟨fun p hp => ?_, fun j hj => ?_⟩
      · rcases List.mem_cons.mp hp with rfl | hp
        · exact ⟨i, by omega, rfl⟩
        · obtain ⟨j, j1, j2⟩ := ky.1 p hp
          exact ⟨j, by omega, j2⟩
      · by_cases c : j = i
        · subst c; exact ⟨_, List.mem_cons_self .., rfl⟩
        · obtain ⟨p, p1, p2⟩ := ky.2 j (by omega)
          exact ⟨p, List.mem_cons_of_mem _ p1, p2⟩
    have next := ih (i + 1) (p_pl V acc (n_f o i) :: acc) τ2 (by omega) fb rel2 ky2 (by rw [List.length_cons, la]) ok' e
    simp only [p_last, p_sum] at next
    rw [e12, nI_add]
    refine ⟨fun z => ?_, fun z => ?_⟩
    · have := (nI_leI (by omega) (by omega)).mp z
      rw [if_neg (by omega)] at next
      exact next
    · have : ¬ p_end V (p_pl V acc (n_f o i)) ≤ p_last V acc := fun c => z (nI_le c (by omega))
      rw [if_pos (by omega)] at next
      exact next
def b_good (l o : List Nat) : Prop := o.length = l.length ∧ (∀ x, x ∈ o ↔ x ∈ l) ∧ o.Nodup
theorem b_good_of {l o : List Nat} (h : n_good l o = true) : b_good l o := by
  unfold n_good at h
  simp only [Bool.and_eq_true, decide_eq_true_iff, List.all_eq_true, List.contains_iff_mem] at h
  exact ⟨h.1, fun x => ⟨fun g => h.2.2.1 x g, fun g => h.2.1 x g⟩, h.2.2.2⟩
theorem b_turn (hV : p_V V) (n6 : nb ≤ 6) (l6 : l.length ≤ 6) (hl : ∀ x, x ∈ l → x < nb ∧ p_B V x)
    (h90 : ∀ (σ : xw_M) (v3 : Int32) (v4 : Int32) (v5 : Int32) (v6 : Int32), xb_X12_plan_90 a1 a2 K29 K90 K104 K205 K275 K320 Z σ v3 v4 v5 v6 → K90 σ v3 v4 v5 v6) (h104 : ∀ (σ : xw_M) (v3 : Int32) (v4 : Int32) (v5 : Int32) (v7 : Int32) (v8 : Int32) (v9 : Int32), xb_X12_plan_104 a1 a2 K29 K90 K104 K205 K275 K320 Z σ v3 v4 v5 v7 v8 v9 → K104 σ v3 v4 v5 v7 v8 v9) (h205 : ∀ (σ : xw_M) (v3 : Int32) (v4 : Int32) (v5 : Int32) (v9 : Int32), xb_X12_plan_205 a1 a2 K29 K90 K104 K205 K275 K320 Z σ v3 v4 v5 v9 → K205 σ v3 v4 v5 v9)
    {τ0 : xw_M} (env : b_env V nb τ0) (nbe : τ0.1 0 42 = nI nb) {o : List Nat} {B : Option pT} {v4 v5 : Int32} {τ : xw_M} (hg : b_good l o) (f : b_F τ0 τ) (ord : b_ord τ o) (hb : b_best nb τ B v4 v5)
    (h0 : ∀ τ2 v4' v5', b_F τ0 τ2 → b_best nb τ2 (p_upd V B (p_run V [] o)) v4' v5' → n_nx o = none → K275 τ2 v4' 0)
    (h1 : ∀ τ2 v4' v5' o', n_nx o = some o' → b_F τ0 τ2 → b_ord τ2 o' → b_best nb τ2 (p_upd V B (p_run V [] o)) v4' v5' → K90 τ2 (nI l.length) v4' v5' 1) : K90 τ (nI l.length) v4 v5 1 := by
  obtain ⟨g1, g2, g3⟩ := hg
  have o6 : o.length ≤ 6 := by omega
  have ho : ∀ j, j < o.length → n_f o j < nb ∧ p_B V (n_f o j) := by
    intro j hj
    rw [n_f_get hj]
    exact hl _ ((g2 _).mp (List.getElem_mem hj))
  have inj : ∀ i j, i < o.length → j < o.length → n_f o i = n_f o j → i = j := by
    intro i j hi hj e
    rw [n_f_get hi, n_f_get hj] at e
    exact (List.getElem_inj g3).mp e
  have env' := b_env_F env f
  rw [← g1] at h1 ⊢
  apply h90
  refine ⟨fun z => absurd z (by decide), fun _ => ?_⟩
  have next : ∀ (τ2 : xw_M) (v4' v5' : Int32), b_F τ0 τ2 → b_ord τ2 o → b_best nb τ2 (p_upd V B (p_run V [] o)) v4' v5' → xu_X12_nextOrder τ2 (nI o.length) (fun r8 σ7 => K90 σ7 (nI o.length) v4' v5' r8) := by
    intro τ2 v4' v5' f2 ord2 hb2
    refine b_next (f := n_f o) o6 (fun j hj => by have := (ho j hj).1; omega) ord2 (fun g τ3 e3 hg3 hc3 h23 => ?_) (fun e3 => ?_)
    · have e4 : n_nx o = some ((List.range o.length).map g) := by unfold n_nx; rw [e3]
      have f3 : b_F τ0 τ3 := ⟨fun c hc => (hc3 c (by omega)).trans (f2.1 c hc), h23.trans f2.2⟩
      refine h1 τ3 v4' v5' _ e4 f3 (fun j hj => ?_) (b_best_c (hc3 55 (by decide)) (hc3 56 (by decide)) (hc3 57 (by decide)) hb2)
      rw [List.length_map, List.length_range] at hj
      rw [hg3 j hj, n_f_get (by rw [List.length_map, List.length_range]; exact hj), List.getElem_map, List.getElem_range]
    · apply h90
      refine ⟨fun _ => h0 τ2 v4' v5' f2 hb2 (by unfold n_nx; rw [e3]), fun z => absurd rfl z⟩
  refine b_eval hV n6 h104 o6 ho inj env' ord (R := p_run V [] o) (fun τ2 e2 rel2 ok2 len2 => ?_) o.length 0 [] τ (by omega) ⟨fun _ _ _ _ => rfl, rfl⟩ (fun p hp => by cases hp) ⟨fun p hp => (by cases hp), fun j hj => absurd hj (by omega)⟩ rfl ⟨Nat.zero_le _, Nat.zero_le _, fun p hp => by cases hp⟩ rfl
  have f2 : b_F τ0 τ2 := b_Ft f (e_Fb e2)
  have ord2 : b_ord τ2 o := by unfold b_ord; rw [e2.1 51 (by decide) (by decide) (by decide)]; exact ord
  have hb2 : b_best nb τ2 B v4 v5 := b_best_c (e2.1 55 (by decide) (by decide) (by decide)) (e2.1 56 (by decide) (by decide) (by decide)) (e2.1 57 (by decide) (by decide) (by decide)) hb
  have k1 := ok2.1
  have k2 := ok2.2.1
  have nb2 : ∀ τ3, b_F τ0 τ3 → τ3.1 0 42 = nI nb := fun τ3 f3 => by rw [f3.1 0 (by omega)]; exact nbe
  have copy : p_upd V B (p_run V [] o) = some (p_last V (p_run V [] o), p_sum V (p_run V [] o), p_run V [] o) → K205 τ2 (nI o.length) (nI (p_last V (p_run V [] o))) (nI (p_sum V (p_run V [] o))) 0 := by
    intro eu
    have key : ∀ (k b : Nat) (τ3 : xw_M), b + k = nb → b_F τ0 τ3 → b_ord τ3 o → (∀ c, c ≠ 55 → c ≠ 56 → c ≠ 57 → τ3.1 c = τ2.1 c) → (∀ x, x < b → τ3.1 55 x = τ2.1 52 x ∧ τ3.1 56 x = τ2.1 53 x ∧ τ3.1 57 x = τ2.1 54 x) → K205 τ3 (nI o.length) (nI (p_last V (p_run V [] o))) (nI (p_sum V (p_run V [] o))) (nI b) := by
      intro k
      induction k with
      | zero =>
        intro b τ3 hbk f3 ord3 hc3 h3
        obtain rfl : b = nb := by omega
        apply h205
        unfold xb_X12_plan_205
        rw [nb2 τ3 f3]
        refine ⟨fun _ => next τ3 _ _ f3 ord3 ?_, fun z => absurd (nI_le (Nat.le_refl b) (by omega)) z⟩
        rw [eu]
        refine ⟨rfl, rfl, by show p_last V _ ≤ _; omega, by show p_sum V _ ≤ _; omega, fun p hp => ?_⟩
        have pb := (ok2.2.2 p hp).1
        obtain ⟨q1, q2, q3⟩ := h3 p.1 pb
        rw [q1, q2, q3]
        exact ⟨pb, rel2 p hp⟩
      | succ k ih =>
        intro b τ3 hbk f3 ord3 hc3 h3
        apply h205
        unfold xb_X12_plan_205
        have vb : vp_in (nI b) 6 := vp_in_nI (by omega) (by decide)
        rw [nb2 τ3 f3, nI_clamp (n := b) (by omega), nI_1]
        refine ⟨fun z => absurd z (nI_ge (by omega) (by omega)), fun _ => ⟨vb, vb, fun τ4 e4 => ⟨vb, vb, fun τ5 e5 => ⟨vb, vb, fun τ6 e6 => ?_⟩⟩⟩⟩
        rw [show τ4.1 53 = τ3.1 53 by rw [e4]; rfl] at e5
        rw [show τ5.1 54 = τ3.1 54 by rw [e5, e4]; rfl] at e6
        have c6 : ∀ c, c ≠ 55 → c ≠ 56 → c ≠ 57 → τ6.1 c = τ3.1 c := fun c c1 c2 c3 => by rw [e6, e5, e4, xw_ne c3, xw_ne c2, xw_ne c1]
        refine ih (b + 1) τ6 (by omega) ⟨fun c hc => (c6 c (by omega) (by omega) (by omega)).trans (f3.1 c hc), by rw [e6, e5, e4]; exact f3.2⟩ (by unfold b_ord; rw [c6 51 (by decide) (by decide) (by decide)]; exact ord3) (fun c c1 c2 c3 => (c6 c c1 c2 c3).trans (hc3 c c1 c2 c3)) (fun x hx => ?_)
        rw [e6, e5, e4]
        by_cases c : x = b
        · subst c
          refine ⟨?_, ?_, ?_⟩
          · rw [xw_ne (by decide), xw_ne (by decide), xw_eq, hc3 52 (by decide) (by decide) (by decide)]
          · rw [xw_ne (by decide), xw_eq, hc3 53 (by decide) (by decide) (by decide)]
          · rw [xw_eq, hc3 54 (by decide) (by decide) (by decide)]
        · obtain ⟨q1, q2, q3⟩ := h3 x (by omega)
          refine ⟨?_, ?_, ?_⟩
          · rw [xw_ne (by decide), xw_ne (by decide), xw_nj c]; exact q1
          · rw [xw_ne (by decide), xw_nj c, xw_ne (by decide)]; exact q2
          · rw [xw_nj c, xw_ne (by decide), xw_ne (by decide)]; exact q3
    exact key nb 0 τ2 (by omega) f2 ord2 (fun _ _ _ _ => rfl) (fun x hx => absurd hx (by omega))
  apply h104
  refine ⟨fun _ => ?_, fun z => absurd (nI_le (Nat.le_refl _) (by omega)) z⟩
  cases B with
  | none => exact ⟨fun _ => copy rfl, fun z => absurd hb z⟩
  | some t =>
    obtain ⟨b1, b2, b3, b4, b5⟩ := id hb2
    rw [b1, b2]
    have stay : ¬ (p_last V (p_run V [] o) < t.1 ∨ (p_last V (p_run V [] o) = t.1 ∧ p_sum V (p_run V [] o) < t.2.1)) → xu_X12_nextOrder τ2 (nI o.length) (fun r8 σ7 => K90 σ7 (nI o.length) (nI t.1) (nI t.2.1) r8) := by
      intro no
      refine next τ2 _ _ f2 ord2 ?_
      simp only [p_upd]
      rw [if_neg no, ← b1, ← b2]
      exact hb2
    have take : (p_last V (p_run V [] o) < t.1 ∨ (p_last V (p_run V [] o) = t.1 ∧ p_sum V (p_run V [] o) < t.2.1)) → K205 τ2 (nI o.length) (nI (p_last V (p_run V [] o))) (nI (p_sum V (p_run V [] o))) 0 := by
      intro yes
      refine copy ?_
      simp only [p_upd]
      rw [if_pos yes]
    refine ⟨fun z => absurd z (i_nm (by omega)), fun _ => ⟨fun z => take (Or.inl ((nI_ltI (by omega) (by omega)).mp z)), fun z => ⟨fun z1 => stay ?_, fun z1 => ⟨fun z2 => stay ?_, fun z2 => take ?_⟩⟩⟩⟩
    · have a1 : ¬ p_last V (p_run V [] o) < t.1 := fun c => z (nI_lt c (by omega))
      have a2 : ¬ p_last V (p_run V [] o) = t.1 := fun c => z1 (by rw [c])
      omega
    · have a1 : ¬ p_last V (p_run V [] o) < t.1 := fun c => z (nI_lt c (by omega))
      have a3 := (nI_leI (by omega) (by omega)).mp z2
      omega
    · have a2 := (nI_eq (by omega) (by omega)).mp z1
      have a3 : ¬ t.2.1 ≤ p_sum V (p_run V [] o) := fun c => z2 (nI_le c (by omega))
      omega
theorem b_main (hV : p_V V) (n6 : nb ≤ 6) (l6 : l.length ≤ 6) (hl : ∀ x, x ∈ l → x < nb ∧ p_B V x)
    (h90 : ∀ (σ : xw_M) (v3 : Int32) (v4 : Int32) (v5 : Int32) (v6 : Int32), xb_X12_plan_90 a1 a2 K29 K90 K104 K205 K275 K320 Z σ v3 v4 v5 v6 → K90 σ v3 v4 v5 v6) (h104 : ∀ (σ : xw_M) (v3 : Int32) (v4 : Int32) (v5 : Int32) (v7 : Int32) (v8 : Int32) (v9 : Int32), xb_X12_plan_104 a1 a2 K29 K90 K104 K205 K275 K320 Z σ v3 v4 v5 v7 v8 v9 → K104 σ v3 v4 v5 v7 v8 v9) (h205 : ∀ (σ : xw_M) (v3 : Int32) (v4 : Int32) (v5 : Int32) (v9 : Int32), xb_X12_plan_205 a1 a2 K29 K90 K104 K205 K275 K320 Z σ v3 v4 v5 v9 → K205 σ v3 v4 v5 v9)
    {τ0 : xw_M} (env : b_env V nb τ0) (nbe : τ0.1 0 42 = nI nb) : ∀ (rest : List (List Nat)) (o : List Nat) (B : Option pT) (v4 v5 : Int32) (τ : xw_M), n_ch (o :: rest) = true → (∀ x, x ∈ o :: rest → b_good l x) → b_F τ0 τ → b_ord τ o → b_best nb τ B v4 v5 → (∀ τ2 v4' v5', b_F τ0 τ2 → b_best nb τ2 ((o :: rest).foldl (fun B o => p_upd V B (p_run V [] o)) B) v4' v5' → K275 τ2 v4' 0) → K90 τ (nI l.length) v4 v5 1 := by
  intro rest
  induction rest with
  | nil =>
    intro o B v4 v5 τ hc hg f ord hb fin
    refine b_turn (o := o) hV n6 l6 hl h90 h104 h205 env nbe (hg o (List.mem_cons_self ..)) f ord hb (fun τ2 v4' v5' f2 hb2 _ => ?_) (fun τ2 v4' v5' o' no => ?_)
    · exact fin τ2 v4' v5' f2 hb2
    · exfalso
      simp only [n_ch] at hc
      rw [no] at hc
      simp at hc
  | cons o' r ih =>
    intro o B v4 v5 τ hc hg f ord hb fin
    simp only [n_ch, Bool.and_eq_true, decide_eq_true_iff] at hc
    refine b_turn (o := o) hV n6 l6 hl h90 h104 h205 env nbe (hg o (List.mem_cons_self ..)) f ord hb (fun τ2 v4' v5' f2 hb2 no => ?_) (fun τ2 v4' v5' o2 yes f2 ord2 hb2 => ?_)
    · rw [no] at hc
      exact absurd hc.1 (by simp)
    · rw [yes] at hc
      have e : o2 = o' := by simpa using hc.1
      subst e
      exact ih o2 _ v4' v5' τ2 hc.2 (fun x hx => hg x (List.mem_cons_of_mem _ hx)) f2 ord2 hb2 fin
end PLANB
