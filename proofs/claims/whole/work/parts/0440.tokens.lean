/-! TOKENS, apart from any memory -/
def k_sort (x : Nat) : Nat := if x = 9 ∨ x = 10 ∨ x = 13 ∨ x = 32 then 0 else if 97 ≤ x ∧ x ≤ 122 then 1 else if 48 ≤ x ∧ x ≤ 57 then 2 else 3
def k_run (c : Nat → Nat) (n s : Nat) : Nat → Nat → Nat
  | 0, i => i
  | f + 1, i => if i < n ∧ k_sort (c i) = s then k_run c n s f (i + 1) else i
def k_past (c : Nat → Nat) (n s i : Nat) : Nat := k_run c n s (n - i) i
theorem k_past_go {c : Nat → Nat} {n s i : Nat} (h : i < n) (hs : k_sort (c i) = s) : k_past c n s i = k_past c n s (i + 1) := by
  unfold k_past
  rw [show n - i = (n - (i + 1)) + 1 by omega]
  simp only [k_run]
  rw [if_pos ⟨h, hs⟩]
theorem k_past_no {c : Nat → Nat} {n s i : Nat} (h : ¬ (i < n ∧ k_sort (c i) = s)) : k_past c n s i = i := by
  unfold k_past
  cases hq : n - i with
  | zero => rfl
  | succ m =>
    simp only [k_run]
    rw [if_neg h]
theorem k_past_b {c : Nat → Nat} {n s : Nat} : ∀ (k i : Nat), i + k = n → i ≤ k_past c n s i ∧ k_past c n s i ≤ n ∧ (∀ j, i ≤ j → j < k_past c n s i → k_sort (c j) = s) ∧ (k_past c n s i < n → ¬ k_sort (c (k_past c n s i)) = s)
  | 0, i, h => by
    rw [k_past_no (by omega)]
    exact ⟨Nat.le_refl _, by omega, fun j h1 h2 => by omega, fun h1 => by omega⟩
  | k + 1, i, h => by
    by_cases hs : k_sort (c i) = s
    · rw [k_past_go (by omega) hs]
      obtain ⟨h1, h2, h3, h4⟩ := k_past_b (c := c) (n := n) (s := s) k (i + 1) (by omega)
      refine ⟨by omega, h2, fun j j1 j2 => ?_, h4⟩
      by_cases e : j = i
      · rw [e]; exact hs
      · exact h3 j (by omega) j2
    · rw [k_past_no (fun q => hs q.2)]
      exact ⟨Nat.le_refl _, by omega, fun j h1 h2 => by omega, fun _ => hs⟩
def k_end (c : Nat → Nat) (n i : Nat) : Nat := if i < n then (if k_sort (c i) = 1 then k_past c n 1 i else if k_sort (c i) = 2 then k_past c n 2 i else if (c i = 61 ∨ c i = 33 ∨ c i = 60) ∧ i + 1 < n ∧ c (i + 1) = 61 then i + 2 else i + 1) else i + 1
theorem k_end_b {c : Nat → Nat} {n i : Nat} (h : i < n) : i < k_end c n i ∧ k_end c n i ≤ n := by
  unfold k_end
  rw [if_pos h]
  split
  · rename_i hs
    have := k_past_b (c := c) (n := n) (s := 1) (n - (i + 1)) (i + 1) (by omega)
    rw [k_past_go h hs]
    omega
  · split
    · rename_i hs
      have := k_past_b (c := c) (n := n) (s := 2) (n - (i + 1)) (i + 1) (by omega)
      rw [k_past_go h hs]
      omega
    · split <;> omega
/-! words -/
def k_W : List Nat := [97, 103, 101, 32, 32, 32, 32, 32, 115, 101, 120, 32, 32, 32, 32, 32, 98, 114, 101, 101, 100, 32, 32, 32, 103, 114, 111, 117, 112, 32, 32, 32, 99, 108, 97, 115, 115, 32, 32, 32, 111, 119, 110, 32, 32, 32, 32, 32, 107, 105, 110, 32, 32, 32, 32, 32, 112, 97, 114, 116, 101, 100, 32, 32, 98, 101, 97, 116, 101, 110, 32, 32, 98, 97, 114, 32, 32, 32, 32, 32, 105, 102, 32, 32, 32, 32, 32, 32, 112, 111, 105, 110, 116, 115, 32, 32, 116, 105, 116, 108, 101, 32, 32, 32, 117, 110, 100, 101, 114, 32, 32, 32, 111, 114, 32, 32, 32, 32, 32, 32, 97, 110, 100, 32, 32, 32, 32, 32]
def k_L : List Nat := [3, 3, 5, 5, 5, 3, 3, 6, 6, 3, 2, 6, 5, 5, 2, 3]
def k_wc (w j : Nat) : Nat := k_W.getD (8 * w + j) 0
def k_wl (w : Nat) : Nat := k_L.getD w 0
theorem k_chr : ∀ j, j < 128 → xs_ch (nI j) = nI (k_W.getD j 0) ∧ k_W.getD j 0 < 128 := by decide +kernel
theorem k_wok : ∀ w, w < 16 → 1 ≤ k_wl w ∧ k_wl w ≤ 6 ∧ ∀ j, j < 8 → (j < k_wl w → 97 ≤ k_wc w j ∧ k_wc w j ≤ 122) ∧ (k_wl w ≤ j → k_wc w j = 32) := by decide +kernel
/-- the letters, the last first -/
def k_ds (c : Nat → Nat) (i : Nat) : Nat → List Nat
  | 0 => []
  | m + 1 => (c (i + m) - 96) :: k_ds c i m
def k_nu : List Nat → Nat
  | [] => 0
  | d :: l => 27 * k_nu l + d
def k_wd (w : Nat) : List Nat := k_ds (k_wc w) 0 (k_wl w)
theorem k_ds_len {c : Nat → Nat} {i : Nat} : ∀ m, (k_ds c i m).length = m
  | 0 => rfl
  | m + 1 => by simp only [k_ds, List.length_cons]; rw [k_ds_len m]
theorem k_ds_eq {c c' : Nat → Nat} {i i' : Nat} : ∀ {m : Nat}, (∀ j, j < m → c (i + j) - 96 = c' (i' + j) - 96) ↔ k_ds c i m = k_ds c' i' m
  | 0 => ⟨fun _ => rfl, fun _ j hj => absurd hj (by omega)⟩
  | m + 1 => by
    have ih := k_ds_eq (c := c) (c' := c') (i := i) (i' := i') (m := m)
    simp only [k_ds, List.cons.injEq]
    constructor
    · intro h
      exact ⟨h m (by omega), ih.mp (fun j hj => h j (by omega))⟩
    · rintro ⟨h1, h2⟩ j hj
      by_cases e : j = m
      · rw [e]; exact h1
      · exact ih.mpr h2 j (by omega)
theorem k_nu_inj : ∀ {l l' : List Nat}, (∀ d, d ∈ l → 1 ≤ d ∧ d ≤ 26) → (∀ d, d ∈ l' → 1 ≤ d ∧ d ≤ 26) → k_nu l = k_nu l' → l = l'
  | [], [], _, _, _ => rfl
  | [], d :: l, _, h, e => by
    have := h d (List.mem_cons_self ..)
    simp only [k_nu] at e
    omega
  | d :: l, [], h, _, e => by
    have := h d (List.mem_cons_self ..)
    simp only [k_nu] at e
    omega
  | d :: l, d' :: l', h, h', e => by
    have a := h d (List.mem_cons_self ..)
    have b := h' d' (List.mem_cons_self ..)
    simp only [k_nu] at e
    have e1 : d = d' := by omega
    have e2 : k_nu l = k_nu l' := by omega
    rw [e1, k_nu_inj (fun x hx => h x (List.mem_cons_of_mem _ hx)) (fun x hx => h' x (List.mem_cons_of_mem _ hx)) e2]
theorem k_wd_b : ∀ w, w < 16 → ∀ d, d ∈ k_wd w → 1 ≤ d ∧ d ≤ 26 := by decide +kernel
theorem k_wd_inj : ∀ w, w < 16 → ∀ w', w' < 16 → k_wd w = k_wd w' → w = w' := by decide +kernel
theorem k_key : ∀ k, k < 16 → xq_keys.getD k 0 = lN (k_nu (k_wd ((k + 9) % 16))) ∧ k_nu (k_wd ((k + 9) % 16)) < 2 ^ 40 := by decide +kernel
theorem k_ds_b {c : Nat → Nat} {i : Nat} : ∀ {m : Nat}, (∀ j, i ≤ j → j < i + m → 97 ≤ c j ∧ c j ≤ 122) → ∀ d, d ∈ k_ds c i m → 1 ≤ d ∧ d ≤ 26
  | 0, _, d, h => by cases h
  | m + 1, hc, d, h => by
    rcases List.mem_cons.mp h with rfl | h
    · have := hc (i + m) (by omega) (by omega)
      omega
    · exact k_ds_b (fun j h1 h2 => hc j h1 (by omega)) d h
theorem k_nu_lt : ∀ {l : List Nat} (k : Nat), l.length ≤ k → (∀ d, d ∈ l → d ≤ 26) → k_nu l < 27 ^ k
  | [], k, _, _ => Nat.pow_pos (by decide)
  | d :: l, 0, h, _ => by simp at h
  | d :: l, k + 1, h, hd => by
    have a := hd d (List.mem_cons_self ..)
    have b := k_nu_lt k (by simpa using h) (fun x hx => hd x (List.mem_cons_of_mem _ hx)) (l := l)
    simp only [k_nu]
    rw [Nat.pow_succ]
    omega
def k_word (c : Nat → Nat) (i m : Nat) : Option Nat := l_find (fun w => decide (k_ds c i m = k_wd w)) 16 0
def k_sign (x : Nat) : Nat := if x = 40 then 25 else if x = 41 then 26 else if x = 42 then 20 else if x = 43 then 18 else if x = 45 then 19 else if x = 59 then 17 else if x = 60 then 23 else 28
def k_kind (c : Nat → Nat) (n i : Nat) : Nat := if i < n then (if k_sort (c i) = 1 then (match k_word c i (k_end c n i - i) with | some w => w | none => 28) else if k_sort (c i) = 2 then (if k_end c n i - i ≤ 4 then 16 else 28) else if k_end c n i - i = 2 then (if c i = 61 then 21 else if c i = 33 then 22 else 24) else k_sign (c i)) else 27
def k_num (c : Nat → Nat) (i : Nat) : Nat → Int32
  | 0 => 0
  | m + 1 => k_num c i m * 10 + nI (c (i + m)) - 48
def k_ps (c : Nat → Nat) (n : Nat) : Nat → Nat
  | 0 => 0
  | k + 1 => k_end c n (k_past c n 0 (k_ps c n k))
def k_st (c : Nat → Nat) (n k : Nat) : Nat := k_past c n 0 (k_ps c n k)
def k_kd (c : Nat → Nat) (n k : Nat) : Nat := k_kind c n (k_st c n k)
def k_va (c : Nat → Nat) (n k : Nat) : Int32 := k_num c (k_st c n k) (k_end c n (k_st c n k) - k_st c n k)
theorem k_kind_lt {c : Nat → Nat} {n i : Nat} : k_kind c n i < 29 := by
  unfold k_kind
  split
  · split
    · cases hq : k_word c i (k_end c n i - i) with
      | none => exact (by decide : (28 : Nat) < 29)
      | some w =>
        have := l_find_some hq
        show w < 29
        omega
    · split
      · split <;> decide
      · split
        · split
          · decide
          · split <;> decide
        · unfold k_sign
          repeat' split
          all_goals decide
  · decide
/-- the class's tape -/
def a_tp (σ : xw_M) (c : Nat → Nat) (n : Nat) : Prop := σ.1 1 1 = nI n ∧ n ≤ 2000 ∧ ∀ j, j < n → σ.1 24 j &&& 255 = nI (c j) ∧ c j < 256
section SCANA
variable {σ : xw_M} {c : Nat → Nat} {n : Nat}
theorem sA_at {i : Nat} {Z : Int32 → xw_M → Prop} (H : a_tp σ c n) (hi : i ≤ 5000) (h1 : i < n → Z (nI (c i)) σ) (h0 : ¬ i < n → Z (-1) σ) : xu_X8_at σ (nI i) Z := by
  obtain ⟨e, hn, hc⟩ := H
  unfold xu_X8_at
  rw [e, nI_clamp (n := i) (by omega)]
  refine ⟨fun z => absurd z (nI_pos (by omega)), fun _ => ⟨fun z => ?_, fun z => h0 (fun q => z (nI_lt q (by omega)))⟩⟩
  have q := (nI_ltI (by omega) (by omega)).mp z
  rw [(hc i q).1]
  exact ⟨vp_in_nI (by omega) (by decide), h1 q⟩
theorem sA_sort {x : Nat} {Z : Int32 → xw_M → Prop} (hx : x < 256) (h : Z (nI (k_sort x)) σ) : xu_X6_sortOf σ (nI x) Z := by
  intro K hK
  have q : ∀ d : Nat, d < 300 → (nI x = nI d ↔ x = d) := fun d hd => nI_eq (by omega) (by omega)
  have e40 : (¬ (x = 9 ∨ x = 10 ∨ x = 13 ∨ x = 32)) → ¬ (97 ≤ x ∧ x ≤ 122) → K σ := by
    intro n1 n2
    apply hK
    unfold k_sort at h
    rw [if_neg n1, if_neg n2] at h
    refine ⟨fun z => ?_, fun z => ⟨fun z2 => ?_, fun z2 => ?_⟩⟩
    · have := (nI_ltI (b := 48) (by omega) (by decide)).mp z
      rw [if_neg (by omega)] at h
      exact h
    · have := (nI_ltI (a := 57) (by decide) (by omega)).mp z2
      rw [if_neg (by omega)] at h
      exact h
    · have a1 : ¬ x < 48 := fun q => z (nI_lt (b := 48) q (by decide))
      have a2 : ¬ 57 < x := fun q => z2 (nI_lt (a := 57) q (by omega))
      rw [if_pos (by omega)] at h
      exact h
  have bl : (x = 9 ∨ x = 10 ∨ x = 13 ∨ x = 32) → Z 0 σ := by
    intro y
    unfold k_sort at h
    rw [if_pos y] at h
    exact h
  refine ⟨fun z => bl (Or.inl ((q 9 (by decide)).mp z)), fun z1 => ⟨fun z => bl (Or.inr (Or.inl ((q 10 (by decide)).mp z))), fun z2 => ⟨fun z => bl (Or.inr (Or.inr (Or.inl ((q 13 (by decide)).mp z)))), fun z3 => ⟨fun z4 => ?_, fun z => bl (Or.inr (Or.inr (Or.inr ((q 32 (by decide)).mp z))))⟩⟩⟩⟩
  have n1 : ¬ (x = 9 ∨ x = 10 ∨ x = 13 ∨ x = 32) := by
    rintro (y | y | y | y)
    · exact z1 (by rw [y]; rfl)
    · exact z2 (by rw [y]; rfl)
    · exact z3 (by rw [y]; rfl)
    · exact z4 (by rw [y]; rfl)
  refine ⟨fun z => e40 n1 ?_, fun z => ⟨fun z5 => e40 n1 ?_, fun z5 => ?_⟩⟩
  · have := (nI_ltI (b := 97) (by omega) (by decide)).mp z
    omega
  · have := (nI_ltI (a := 122) (by decide) (by omega)).mp z5
    omega
  · have a1 : ¬ x < 97 := fun q => z (nI_lt (b := 97) q (by decide))
    have a2 : ¬ 122 < x := fun q => z5 (nI_lt (a := 122) q (by omega))
    unfold k_sort at h
    rw [if_neg n1, if_pos (by omega)] at h
    exact h
theorem sA_sortm {Z : Int32 → xw_M → Prop} (h : Z 3 σ) : xu_X6_sortOf σ (-1) Z := by
  intro K hK
  have e40 : K σ := hK _ ⟨fun _ => h, fun z => absurd (by decide) z⟩
  exact ⟨fun z => absurd z (by decide), fun _ => ⟨fun z => absurd z (by decide), fun _ => ⟨fun z => absurd z (by decide), fun _ => ⟨fun _ => ⟨fun _ => e40, fun z => absurd (by decide) z⟩, fun z => absurd z (by decide)⟩⟩⟩⟩
theorem k_sort_lt (x : Nat) : k_sort x < 4 := by
  unfold k_sort
  split
  · decide
  · split
    · decide
    · split <;> decide
theorem sA_past {i s : Nat} {Z : Int32 → xw_M → Prop} (H : a_tp σ c n) (hi : i ≤ n) (hs : s < 4) (h : Z (nI (k_past c n s i)) σ) : xu_X6_pastRun σ (nI i) (nI s) Z := by
  obtain ⟨e, hn, hc⟩ := id H
  intro K hK
  have key : ∀ (k j : Nat), j + k = n → k_past c n s i = k_past c n s j → K σ (nI j) := by
    intro k
    induction k with
    | zero =>
      intro j hj ej
      obtain rfl : j = n := by omega
      apply hK
      unfold xb_X6_pastRun_2
      rw [e]
      rw [ej, k_past_no (by omega)] at h
      exact ⟨fun _ => h, fun z => absurd (nI_le (Nat.le_refl j) (by omega)) z⟩
    | succ k ih =>
      intro j hj ej
      apply hK
      unfold xb_X6_pastRun_2
      rw [e, nI_1]
      have sl := k_sort_lt (c j)
      refine ⟨fun z => absurd z (nI_ge (by omega) (by omega)), fun _ => sA_at H (by omega) (fun q => sA_sort (hc j q).2 ⟨fun z => ?_, fun z => ?_⟩) (fun q => absurd (by omega) q)⟩
      · have := (nI_eq (by omega) (by omega)).mp z
        exact ih (j + 1) (by omega) (by rw [ej, k_past_go q this])
      · rw [ej, k_past_no (fun y => z (by rw [y.2]))] at h
        exact h
  exact key (n - i) i (by omega) rfl
theorem sA_end {i : Nat} {Z : Int32 → xw_M → Prop} (H : a_tp σ c n) (hi : i ≤ n) (h : Z (nI (k_end c n i)) σ) : xu_X6_tokenEnd σ (nI i) Z := by
  obtain ⟨e, hn, hc⟩ := id H
  intro K hK
  have i1 : nI i + (1 : Int32) = nI (i + 1) := nI_1 i
  have i2 : nI i + (2 : Int32) = nI (i + 2) := nI_add i 2
  refine sA_at H (by omega) (fun q => sA_sort (hc i q).2 ?_) (fun q => sA_sortm ?_)
  · have hx := (hc i q).2
    have sl := k_sort_lt (c i)
    have qq : ∀ d : Nat, d < 300 → (nI (c i) = nI d ↔ c i = d) := fun d hd => nI_eq (by omega) (by omega)
    unfold k_end at h
    rw [if_pos q] at h
    refine ⟨fun z => ?_, fun z => ⟨fun z2 => ?_, fun z2 => ?_⟩⟩
    · have s1 := (nI_eq (b := 1) (by omega) (by decide)).mp z
      rw [if_pos s1] at h
      rw [s1]
      exact sA_past H hi (by decide) h
    · have n1 : ¬ k_sort (c i) = 1 := fun y => z (by rw [y]; rfl)
      have n2 : ¬ k_sort (c i) = 2 := fun y => z2 (by rw [y]; rfl)
      rw [if_neg n1, if_neg n2] at h
      have two : (c i = 61 ∨ c i = 33 ∨ c i = 60) → K σ 1 := by
        intro y
        apply hK
        unfold xb_X6_tokenEnd_54
        rw [i1, i2]
        refine ⟨fun z => absurd z (by decide), fun _ => sA_at H (by omega) (fun q2 => ⟨fun z => ?_, fun z => ?_⟩) (fun q2 => ⟨fun _ => ?_, fun z => absurd z (by decide)⟩)⟩
        · have hx2 := (hc (i + 1) q2).2
          rw [if_neg (fun w => z (by rw [w.2.2]; rfl))] at h
          exact h
        · have hx2 := (hc (i + 1) q2).2
          rw [if_pos ⟨y, q2, (nI_eq (b := 61) (by omega) (by decide)).mp z⟩] at h
          exact h
        · rw [if_neg (fun w => q2 w.2.1)] at h
          exact h
      have one : ¬ (c i = 61 ∨ c i = 33 ∨ c i = 60) → K σ 0 := by
        intro y
        apply hK
        unfold xb_X6_tokenEnd_54
        rw [i1, i2]
        rw [if_neg (fun w => y w.1)] at h
        exact ⟨fun _ => h, fun z => absurd rfl z⟩
      refine ⟨fun z => two (Or.inl ((qq 61 (by decide)).mp z)), fun z3 => ⟨fun z => two (Or.inr (Or.inl ((qq 33 (by decide)).mp z))), fun z4 => ⟨fun z5 => one ?_, fun z => two (Or.inr (Or.inr ((qq 60 (by decide)).mp z)))⟩⟩⟩
      rintro (y | y | y)
      · exact z3 (by rw [y]; rfl)
      · exact z4 (by rw [y]; rfl)
      · exact z5 (by rw [y]; rfl)
    · have s2 := (nI_eq (b := 2) (by omega) (by decide)).mp z2
      have n1 : ¬ k_sort (c i) = 1 := by omega
      rw [if_neg n1, if_pos s2] at h
      rw [s2]
      exact sA_past H hi (by decide) h
  · unfold k_end at h
    rw [if_neg q] at h
    refine ⟨fun z => absurd z (by decide), fun _ => ⟨fun _ => ⟨fun z => absurd z (by decide), fun _ => ⟨fun z => absurd z (by decide), fun _ => ⟨fun _ => ?_, fun z => absurd z (by decide)⟩⟩⟩, fun z => absurd z (by decide)⟩⟩
    apply hK
    unfold xb_X6_tokenEnd_54
    rw [i1]
    exact ⟨fun _ => h, fun z => absurd rfl z⟩
end SCANA
