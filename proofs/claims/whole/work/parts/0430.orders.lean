/-! THE PLAN: places and orders, apart from any memory -/
abbrev pE := Nat × Nat × Nat × Nat
abbrev pV := (Nat → Nat) × (Nat → Int32) × (Nat → Int32) × Nat
abbrev pT := Nat × Nat × List pE
def p_end (V : pV) (p : pE) : Nat := p.2.2.2 + V.1 p.1
def p_ov (V : pV) (b t : Nat) (p : pE) : Prop := p.2.2.2 < t + V.1 b ∧ t < p_end V p
def p_r (V : pV) (acc : List pE) (b t i : Nat) : Prop := ∃ p, p ∈ acc ∧ p_ov V b t p ∧ p.2.1 = i
def p_j (V : pV) (acc : List pE) (b t i : Nat) : Prop := ∃ p, p ∈ acc ∧ p_ov V b t p ∧ p.2.2.1 = i
def p_h (V : pV) (acc : List pE) (b t : Nat) : Prop := ∃ p, p ∈ acc ∧ p_ov V b t p ∧ ¬ V.2.2.1 p.1 &&& V.2.2.1 b = 0
def p_fit (V : pV) (acc : List pE) (b t : Nat) : Prop := (∃ i, i < V.2.2.2 ∧ ¬ p_r V acc b t i) ∧ (∃ i, i < 12 ∧ bt (V.2.1 b) i = true ∧ ¬ p_j V acc b t i) ∧ ¬ p_h V acc b t
def p_is (V : pV) (acc : List pE) (b : Nat) (e : Nat × Nat × Nat) : Prop := p_fit V acc b e.2.2 ∧ (∀ t, t < e.2.2 → ¬ p_fit V acc b t) ∧ (e.1 < V.2.2.2 ∧ ¬ p_r V acc b e.2.2 e.1 ∧ ∀ i, i < e.1 → p_r V acc b e.2.2 i) ∧ e.2.1 < 12 ∧ bt (V.2.1 b) e.2.1 = true ∧ ¬ p_j V acc b e.2.2 e.2.1 ∧ ∀ i, i < e.2.1 → bt (V.2.1 b) i = true → p_j V acc b e.2.2 i
noncomputable def p_pl (V : pV) (acc : List pE) (b : Nat) : pE := (b, Classical.epsilon (fun e => p_is V acc b e))
def p_last (V : pV) : List pE → Nat
  | [] => 0
  | p :: l => if p_last V l < p_end V p then p_end V p else p_last V l
def p_sum (V : pV) : List pE → Nat
  | [] => 0
  | p :: l => p_sum V l + p_end V p
def p_V (V : pV) : Prop := 1 ≤ V.2.2.2 ∧ V.2.2.2 ≤ 3 ∧ (∀ b, V.1 b ≤ 180) ∧ ∀ b i, 12 ≤ i → i < 32 → bt (V.2.1 b) i = false
def p_B (V : pV) (b : Nat) : Prop := ∃ i, i < 12 ∧ bt (V.2.1 b) i = true
theorem p_end_le {V : pV} : ∀ {acc : List pE} {p : pE}, p ∈ acc → p_end V p ≤ p_last V acc
  | [], p, h => by cases h
  | q :: l, p, h => by
    simp only [p_last]
    rcases List.mem_cons.mp h with rfl | h
    · split <;> omega
    · have := p_end_le (V := V) h
      split <;> omega
theorem p_last_fit {V : pV} {acc : List pE} {b t : Nat} (hV : p_V V) (hB : p_B V b) (ht : p_last V acc ≤ t) : p_fit V acc b t := by
  have no : ∀ p, p ∈ acc → ¬ p_ov V b t p := fun p hp h => by have := p_end_le (V := V) hp; have := h.2; omega
  obtain ⟨i, i1, i2⟩ := hB
  exact ⟨⟨0, hV.1, fun ⟨p, h1, h2, _⟩ => no p h1 h2⟩, ⟨i, i1, i2, fun ⟨p, h1, h2, _⟩ => no p h1 h2⟩, fun ⟨p, h1, h2, _⟩ => no p h1 h2⟩
theorem p_pl_is {V : pV} {acc : List pE} {b : Nat} (hV : p_V V) (hB : p_B V b) : p_is V acc b (p_pl V acc b).2 := by
  apply Classical.epsilon_spec (p := fun e => p_is V acc b e)
  obtain ⟨t, t1, t2⟩ := pk_least (fun t => p_fit V acc b t) ⟨_, p_last_fit hV hB (Nat.le_refl _)⟩
  obtain ⟨r, ⟨r1, r2⟩, r3⟩ := pk_least (fun i => i < V.2.2.2 ∧ ¬ p_r V acc b t i) t1.1
  obtain ⟨j, ⟨j1, j2, j3⟩, j4⟩ := pk_least (fun i => i < 12 ∧ bt (V.2.1 b) i = true ∧ ¬ p_j V acc b t i) t1.2.1
  refine ⟨(r, j, t), t1, t2, ⟨r1, r2, fun i hi => ?_⟩, j1, j2, j3, fun i hi hb => ?_⟩
  · exact Classical.byContradiction fun no => r3 i hi ⟨by have : i < r := hi; omega, no⟩
  · exact Classical.byContradiction fun no => j4 i hi ⟨by have : i < j := hi; omega, hb, no⟩
theorem p_is_le {V : pV} {acc : List pE} {b : Nat} {e : Nat × Nat × Nat} (hV : p_V V) (hB : p_B V b) (h : p_is V acc b e) : e.2.2 ≤ p_last V acc :=
  Nat.not_lt.mp fun c => h.2.1 _ c (p_last_fit hV hB (Nat.le_refl _))
theorem p_is_end {V : pV} {acc : List pE} {b : Nat} {e : Nat × Nat × Nat} (h : p_is V acc b e) : e.2.2 = 0 ∨ ∃ p, p ∈ acc ∧ p_end V p = e.2.2 := by
  refine Classical.byContradiction fun no => ?_
  have n0 : e.2.2 ≠ 0 := fun z => no (Or.inl z)
  have n1 : ∀ p, p ∈ acc → p_ov V b (e.2.2 - 1) p → p_ov V b e.2.2 p := by
    intro p hp ho
    have : p_end V p ≠ e.2.2 := fun z => no (Or.inr ⟨p, hp, z⟩)
    unfold p_ov at ho ⊢
    omega
  obtain ⟨⟨i, i1, i2⟩, ⟨j, j1, j2, j3⟩, k⟩ := h.1
  exact h.2.1 (e.2.2 - 1) (by omega) ⟨⟨i, i1, fun ⟨p, q1, q2, q3⟩ => i2 ⟨p, q1, n1 p q1 q2, q3⟩⟩, ⟨j, j1, j2, fun ⟨p, q1, q2, q3⟩ => j3 ⟨p, q1, n1 p q1 q2, q3⟩⟩, fun ⟨p, q1, q2, q3⟩ => k ⟨p, q1, n1 p q1 q2, q3⟩⟩
def p_ok (V : pV) (nb : Nat) (acc : List pE) : Prop := p_last V acc ≤ 180 * acc.length ∧ p_sum V acc ≤ 1080 * acc.length ∧ ∀ p, p ∈ acc → p.1 < nb ∧ p.2.1 < V.2.2.2 ∧ p.2.2.1 < 12
theorem p_ok_cons {V : pV} {nb : Nat} {acc : List pE} {b : Nat} (hV : p_V V) (hB : p_B V b) (hb : b < nb) (hl : acc.length < 6) (h : p_ok V nb acc) : p_ok V nb (p_pl V acc b :: acc) := by
  have is := p_pl_is (acc := acc) hV hB
  have le := p_is_le hV hB is
  have tk := hV.2.2.1 b
  obtain ⟨h1, h2, h3⟩ := h
  have en : p_end V (p_pl V acc b) = (p_pl V acc b).2.2.2 + V.1 b := rfl
  refine ⟨?_, ?_, fun p hp => ?_⟩
  · simp only [p_last, List.length_cons]
    split <;> omega
  · simp only [p_sum, List.length_cons]
    omega
  · rcases List.mem_cons.mp hp with rfl | hp
    · exact ⟨hb, is.2.2.1.1, is.2.2.2.1⟩
    · exact h3 p hp
/-- what is best so far -/
def p_bet (V : pV) (t : pT) (acc : List pE) : Prop := p_last V acc < t.1 ∨ (p_last V acc = t.1 ∧ p_sum V acc < t.2.1)
noncomputable def p_upd (V : pV) : Option pT → List pE → Option pT
  | none, acc => some (p_last V acc, p_sum V acc, acc)
  | some t, acc => if p_last V acc < t.1 ∨ (p_last V acc = t.1 ∧ p_sum V acc < t.2.1) then some (p_last V acc, p_sum V acc, acc) else some t
noncomputable def p_dfs (V : pV) : Nat → List pE → List Nat → Option pT → Option pT
  | 0, acc, _, B => p_upd V B acc
  | n + 1, acc, l, B => l.foldl (fun B b => p_dfs V n (p_pl V acc b :: acc) (l.filter (fun x => x != b)) B) B
theorem p_foldl_fix {α β : Type} {f : β → α → β} {B : β} : ∀ {l : List α}, (∀ b, b ∈ l → f B b = B) → l.foldl f B = B
  | [], _ => rfl
  | a :: l, h => by
    rw [List.foldl_cons, h a (List.mem_cons_self ..)]
    exact p_foldl_fix (fun b hb => h b (List.mem_cons_of_mem _ hb))
theorem p_dfs_no {V : pV} {t : pT} : ∀ (n : Nat) (acc : List pE) (l : List Nat), (t.1 < p_last V acc ∨ t.1 = p_last V acc ∧ t.2.1 ≤ p_sum V acc) → p_dfs V n acc l (some t) = some t
  | 0, acc, l, h => by
    simp only [p_dfs, p_upd]
    rw [if_neg (by omega)]
  | n + 1, acc, l, h => by
    simp only [p_dfs]
    refine p_foldl_fix (fun b _ => p_dfs_no n _ _ ?_)
    simp only [p_last, p_sum]
    split <;> omega
noncomputable def p_run (V : pV) : List pE → List Nat → List pE
  | acc, [] => acc
  | acc, b :: r => p_run V (p_pl V acc b :: acc) r
def p_lex : Nat → List Nat → List (List Nat)
  | 0, _ => [[]]
  | n + 1, l => l.flatMap (fun b => (p_lex n (l.filter (fun x => x != b))).map (fun r => b :: r))
theorem p_foldl_flat {α β γ : Type} {g : γ → β → γ} {f : α → List β} : ∀ {l : List α} {B : γ}, (l.flatMap f).foldl g B = l.foldl (fun B b => (f b).foldl g B) B
  | [], _ => rfl
  | a :: l, B => by
    rw [List.flatMap_cons, List.foldl_append, List.foldl_cons]
    exact p_foldl_flat
theorem p_dfs_eq (V : pV) : ∀ (n : Nat) (acc : List pE) (l : List Nat) (B : Option pT), p_dfs V n acc l B = (p_lex n l).foldl (fun B o => p_upd V B (p_run V acc o)) B
  | 0, acc, l, B => rfl
  | n + 1, acc, l, B => by
    simp only [p_dfs, p_lex]
    rw [p_foldl_flat]
    congr 1
    funext B b
    rw [p_dfs_eq V n, List.foldl_map]
    rfl
/-! the order behind an order -/
def n_i (f : Nat → Nat) : Nat → Option Nat
  | 0 => none
  | k + 1 => if f (k + 1) < f k then n_i f k else some k
def n_j (f : Nat → Nat) (x : Nat) : Nat → Nat
  | 0 => 0
  | j + 1 => if f (j + 1) < x then n_j f x j else j + 1
def n_sw (f : Nat → Nat) (i j : Nat) : Nat → Nat := fun k => if k = j then f i else if k = i then f j else f k
def n_rev : Nat → (Nat → Nat) → Nat → Nat → Nat → Nat
  | 0, f, _, _ => f
  | k + 1, f, a, b => if b ≤ a then f else n_rev k (n_sw f a b) (a + 1) (b - 1)
def n_next (f : Nat → Nat) (n : Nat) : Option (Nat → Nat) := match n_i f (n - 1) with
  | none => none
  | some i => some (n_rev 6 (n_sw f i (n_j f (f i) (n - 1))) (i + 1) (n - 1))
def n_f (o : List Nat) : Nat → Nat := fun j => o.getD j 0
def n_nx (o : List Nat) : Option (List Nat) := match n_next (n_f o) o.length with
  | none => none
  | some f => some ((List.range o.length).map f)
def n_ch : List (List Nat) → Bool
  | [] => false
  | [o] => (n_nx o).isNone
  | o :: o' :: r => decide (n_nx o = some o') && n_ch (o' :: r)
def n_set (m : Nat) : List Nat := (List.range 6).filter (fun i => m.testBit i)
def n_good (l o : List Nat) : Bool := decide (o.length = l.length) && (l.all (fun x => o.contains x) && (o.all (fun x => l.contains x) && decide o.Nodup))
def n_chk (m : Nat) : Bool := decide ((p_lex (n_set m).length (n_set m)).head? = some (n_set m)) && (n_ch (p_lex (n_set m).length (n_set m)) && (p_lex (n_set m).length (n_set m)).all (n_good (n_set m)))
set_option maxRecDepth 100000 in
theorem n_all : ∀ m, m < 64 → n_chk m = true := by decide +kernel
