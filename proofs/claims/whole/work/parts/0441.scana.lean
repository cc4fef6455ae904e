/-! the class's scanner -/
theorem k_match {c : Nat → Nat} {i m w : Nat} (hw : w < 16) (hm : m ≤ 8) (hc : ∀ j, j < m → 97 ≤ c (i + j) ∧ c (i + j) ≤ 122) : (∀ j, j < 8 → (if j < m then c (i + j) else 32) = k_wc w j) ↔ k_ds c i m = k_wd w := by
  obtain ⟨l1, l2, l3⟩ := k_wok w hw
  constructor
  · intro h
    have em : m = k_wl w := by
      rcases Nat.lt_trichotomy m (k_wl w) with q | q | q
      · have a := h m (by omega)
        rw [if_neg (by omega)] at a
        have := ((l3 m (by omega)).1 q).1
        omega
      · exact q
      · have a := h (k_wl w) (by omega)
        rw [if_pos q] at a
        have := (l3 (k_wl w) (by omega)).2 (Nat.le_refl _)
        have := (hc _ q).1
        omega
    unfold k_wd
    rw [← em]
    refine k_ds_eq.mp (fun j hj => ?_)
    have a := h j (by omega)
    rw [if_pos hj] at a
    rw [a, Nat.zero_add]
  · intro h j hj
    have em : m = k_wl w := by
      have := congrArg List.length h
      unfold k_wd at this
      rwa [k_ds_len, k_ds_len] at this
    unfold k_wd at h
    rw [← em] at h l3
    by_cases q : j < m
    · rw [if_pos q]
      have a := k_ds_eq.mpr h j q
      rw [Nat.zero_add] at a
      have b := (l3 j hj).1 q
      have := hc j q
      omega
    · rw [if_neg q]
      exact ((l3 j hj).2 (by omega)).symm
section SCANA2
variable {σ : xw_M} {c : Nat → Nat} {n : Nat}
theorem sA_word {i m w : Nat} {Z : Int32 → xw_M → Prop} (H : a_tp σ c n) (hw : w < 16) (hm : m ≤ 8) (hi : i + m ≤ n) (hc : ∀ j, j < m → 97 ≤ c (i + j) ∧ c (i + j) ≤ 122) (h1 : k_ds c i m = k_wd w → Z 1 σ) (h0 : ¬ k_ds c i m = k_wd w → Z 0 σ) : xu_X6_isWord σ (nI (8 * w)) (nI i) (nI m) Z := by
  obtain ⟨e, hn, hcc⟩ := id H
  have hk := k_match (c := c) (i := i) hw hm hc
  intro K3 K32 h3 h32
  have key : ∀ (k j : Nat), j + k = 8 → (∀ x, x < j → (if x < m then c (i + x) else 32) = k_wc w x) → K3 σ (nI j) := by
    intro k
    induction k with
    | zero =>
      intro j hj hx
      obtain rfl : j = 8 := by omega
      apply h3
      exact ⟨fun _ => ⟨by simp, h1 (hk.mp hx)⟩, fun z => absurd (by decide) z⟩
    | succ k ih =>
      intro j hj hx
      have step : ∀ x : Nat, x < 256 → x = (if j < m then c (i + j) else 32) → K32 σ (nI x) (nI j) := by
        intro x hx2 ex
        apply h32
        unfold xb_X6_isWord_32
        obtain ⟨q1, q2⟩ := k_chr (8 * w + j) (by omega)
        rw [nI_add, q1, nI_1]
        refine ⟨fun z => absurd z (nI_ge (b := 128) (by omega) (by decide)), fun _ => ⟨vp_in_nI (by omega) (by decide), fun z => ?_, fun z => ⟨by simp, h0 (fun g => z ?_)⟩⟩⟩
        · have q2' : k_wc w j < 128 := q2
          have z2 : k_wc w j = x := (nI_eq (by omega) (by omega)).mp z
          refine ih (j + 1) (by omega) (fun y hy => ?_)
          by_cases cy : y = j
          · rw [cy, ← ex, z2]
          · exact hx y (by omega)
        · have := hk.mpr g j (by omega)
          rw [ex, this]
          rfl
      apply h3
      unfold xb_X6_isWord_3
      rw [nI_add]
      refine ⟨fun z => absurd z (nI_ge (b := 8) (by omega) (by decide)), fun _ => ⟨fun z => ?_, fun z => ?_⟩⟩
      · have := (nI_leI (by omega) (by omega)).mp z
        exact step 32 (by decide) (by rw [if_neg (by omega)])
      · have jm : j < m := Nat.not_le.mp fun q => z (nI_le q (by omega))
        exact sA_at H (by omega) (fun q => step (c (i + j)) (hcc _ q).2 (by rw [if_pos jm])) (fun q => absurd (by omega) q)
  exact key 8 0 (by omega) (fun x hx => absurd hx (by omega))
theorem sA_wk {i m : Nat} {Z : Int32 → xw_M → Prop} (H : a_tp σ c n) (hi : i + m ≤ n) (hc : ∀ j, j < m → 97 ≤ c (i + j) ∧ c (i + j) ≤ 122) (h : Z (nI (match k_word c i m with | some w => w | none => 28)) σ) : xu_X6_wordKind σ (nI i) (nI m) Z := by
  obtain ⟨e, hn, hcc⟩ := id H
  intro K hK
  have key : ∀ (k w : Nat), w + k = 16 → k_word c i m = l_find (fun w => decide (k_ds c i m = k_wd w)) k w → K σ (nI w) := by
    intro k
    induction k with
    | zero =>
      intro w hw ew
      obtain rfl : w = 16 := by omega
      apply hK
      rw [ew] at h
      exact ⟨fun _ => h, fun z => absurd (by decide) z⟩
    | succ k ih =>
      intro w hw ew
      simp only [l_find] at ew
      apply hK
      unfold xb_X6_wordKind_2
      rw [show nI w * (8 : Int32) = nI (8 * w) by rw [show (8 : Int32) = nI 8 from rfl, pk_mul, Nat.mul_comm], show nI (8 * w) + (8 : Int32) = nI (8 * w + 8) from nI_add _ 8, nI_1]
      have no : ¬ k_ds c i m = k_wd w → K σ (nI (w + 1)) := by
        intro g
        rw [if_neg (by simp [g])] at ew
        exact ih (w + 1) (by omega) ew
      refine ⟨fun z => ?_, fun _ => ⟨fun z => no (fun g => ?_), fun z => ?_⟩⟩
      · have := (nI_ltI (a := 128) (by decide) (by omega)).mp z
        omega
      · have z2 := (nI_ltI (a := 8) (by decide) (by omega)).mp z
        have := congrArg List.length g
        unfold k_wd at this
        rw [k_ds_len, k_ds_len] at this
        have := (k_wok w (by omega)).2.1
        omega
      · have m8 : m ≤ 8 := Nat.not_lt.mp fun q => z (nI_lt (a := 8) q (by omega))
        refine sA_word H (by omega) m8 hi hc (fun g => ⟨fun z => absurd z (by decide), fun _ => ?_⟩) (fun g => ⟨fun _ => no g, fun z => absurd rfl z⟩)
        rw [if_pos (by simp [g])] at ew
        rw [ew] at h
        exact h
  exact key 16 0 (by omega) rfl
theorem k_letters {s : Nat} {i : Nat} (h : i < n) (hs : k_sort (c i) = 1) : ∀ j, j < k_past c n 1 i - i → 97 ≤ c (i + j) ∧ c (i + j) ≤ 122 := by
  intro j hj
  have b := k_past_b (c := c) (n := n) (s := 1) (n - i) i (by omega)
  have e := b.2.2.1 (i + j) (by omega) (by omega)
  unfold k_sort at e
  split at e
  · cases e
  · split at e
    · assumption
    · split at e <;> cases e
theorem sA_kind {i : Nat} {Z : Int32 → xw_M → Prop} (H : a_tp σ c n) (hi : i ≤ n) (h : Z (nI (k_kind c n i)) σ) : xu_X6_kindOf σ (nI i) (nI (k_end c n i)) Z := by
  obtain ⟨e, hn, hcc⟩ := id H
  unfold xu_X6_kindOf
  rw [e]
  unfold k_kind at h
  refine ⟨fun z => ?_, fun z => ?_⟩
  · have q := (nI_ltI (by omega) (by omega)).mp z
    have eb := k_end_b (c := c) q
    have hx := (hcc i q).2
    have sl := k_sort_lt (c i)
    have qq : ∀ d : Nat, d < 300 → (nI (c i) = nI d ↔ c i = d) := fun d hd => nI_eq (by omega) (by omega)
    rw [if_pos q] at h
    rw [pk_sub (by omega)]
    refine sA_at H (by omega) (fun _ => sA_sort hx ⟨fun z1 => ⟨fun z2 => ?_, fun z2 => ?_⟩, fun z1 => ?_⟩) (fun y => absurd q y)
    · have n1 : ¬ k_sort (c i) = 1 := fun y => z1 (by rw [y]; rfl)
      have n2 : ¬ k_sort (c i) = 2 := fun y => z2 (by rw [y]; rfl)
      rw [if_neg n1, if_neg n2] at h
      refine ⟨fun z3 => ?_, fun z3 => ?_⟩
      · rw [if_neg (fun y => z3 (by rw [y]; rfl))] at h
        unfold k_sign at h
        refine ⟨fun w => ?_, fun w1 => ⟨fun w => ?_, fun w2 => ⟨fun w => ?_, fun w3 => ⟨fun w => ?_, fun w4 => ⟨fun w => ?_, fun w5 => ⟨fun w => ?_, fun w6 => ⟨fun w => ?_, fun w7 => ?_⟩⟩⟩⟩⟩⟩⟩
        · rw [if_pos ((qq 40 (by decide)).mp w)] at h; exact h
        · rw [if_neg (fun y => w1 (by rw [y]; rfl)), if_pos ((qq 41 (by decide)).mp w)] at h; exact h
        · rw [if_neg (fun y => w1 (by rw [y]; rfl)), if_neg (fun y => w2 (by rw [y]; rfl)), if_pos ((qq 42 (by decide)).mp w)] at h; exact h
        · rw [if_neg (fun y => w1 (by rw [y]; rfl)), if_neg (fun y => w2 (by rw [y]; rfl)), if_neg (fun y => w3 (by rw [y]; rfl)), if_pos ((qq 43 (by decide)).mp w)] at h; exact h
        · rw [if_neg (fun y => w1 (by rw [y]; rfl)), if_neg (fun y => w2 (by rw [y]; rfl)), if_neg (fun y => w3 (by rw [y]; rfl)), if_neg (fun y => w4 (by rw [y]; rfl)), if_pos ((qq 45 (by decide)).mp w)] at h; exact h
        · rw [if_neg (fun y => w1 (by rw [y]; rfl)), if_neg (fun y => w2 (by rw [y]; rfl)), if_neg (fun y => w3 (by rw [y]; rfl)), if_neg (fun y => w4 (by rw [y]; rfl)), if_neg (fun y => w5 (by rw [y]; rfl)), if_pos ((qq 59 (by decide)).mp w)] at h; exact h
        · rw [if_neg (fun y => w1 (by rw [y]; rfl)), if_neg (fun y => w2 (by rw [y]; rfl)), if_neg (fun y => w3 (by rw [y]; rfl)), if_neg (fun y => w4 (by rw [y]; rfl)), if_neg (fun y => w5 (by rw [y]; rfl)), if_neg (fun y => w6 (by rw [y]; rfl)), if_pos ((qq 60 (by decide)).mp w)] at h; exact h
        · rw [if_neg (fun y => w1 (by rw [y]; rfl)), if_neg (fun y => w2 (by rw [y]; rfl)), if_neg (fun y => w3 (by rw [y]; rfl)), if_neg (fun y => w4 (by rw [y]; rfl)), if_neg (fun y => w5 (by rw [y]; rfl)), if_neg (fun y => w6 (by rw [y]; rfl)), if_neg (fun y => w7 (by rw [y]; rfl))] at h; exact h
      · rw [if_pos ((nI_eq (b := 2) (by omega) (by decide)).mp z3)] at h
        refine ⟨fun w1 => ⟨fun w2 => ?_, fun w => ?_⟩, fun w => ?_⟩
        · rw [if_neg (fun y => w1 (by rw [y]; rfl)), if_neg (fun y => w2 (by rw [y]; rfl))] at h; exact h
        · rw [if_neg (fun y => w1 (by rw [y]; rfl)), if_pos ((qq 33 (by decide)).mp w)] at h; exact h
        · rw [if_pos ((qq 61 (by decide)).mp w)] at h; exact h
    · have s2 := (nI_eq (b := 2) (by omega) (by decide)).mp z2
      rw [if_neg (by omega), if_pos s2] at h
      refine ⟨fun w => ?_, fun w => ?_⟩
      · have := (nI_ltI (a := 4) (by decide) (by omega)).mp w
        rw [if_neg (by omega)] at h; exact h
      · have : ¬ 4 < k_end c n i - i := fun y => w (nI_lt (a := 4) y (by omega))
        rw [if_pos (by omega)] at h; exact h
    · have s1 := (nI_eq (b := 1) (by omega) (by decide)).mp z1
      rw [if_pos s1] at h
      have ee : k_end c n i = k_past c n 1 i := by unfold k_end; rw [if_pos q, if_pos s1]
      refine sA_wk H (by omega) (fun j hj => ?_) h
      rw [ee] at hj
      exact k_letters (s := 1) q s1 j hj
  · have q : ¬ i < n := fun y => z (nI_lt y (by omega))
    rw [if_neg q] at h
    exact h
theorem sA_num {i e : Nat} {Z : Int32 → xw_M → Prop} (H : a_tp σ c n) (hi : i ≤ e) (he : e ≤ n) (h : Z (k_num c i (e - i)) σ) : xu_X6_numberAt σ (nI i) (nI e) Z := by
  obtain ⟨e1, hn, hcc⟩ := id H
  intro K hK
  have key : ∀ (k m : Nat), i + m + k = e → K σ (k_num c i m) (nI (i + m)) := by
    intro k
    induction k with
    | zero =>
      intro m hm
      obtain rfl : e = i + m := by omega
      apply hK
      rw [show i + m - i = m by omega] at h
      exact ⟨fun _ => h, fun z => absurd (nI_le (Nat.le_refl _) (by omega)) z⟩
    | succ k ih =>
      intro m hm
      have next := ih (m + 1) (by omega)
      simp only [k_num] at next
      apply hK
      unfold xb_X6_numberAt_5
      rw [nI_1]
      exact ⟨fun z => absurd z (nI_ge (by omega) (by omega)), fun _ => sA_at H (by omega) (fun _ => next) (fun q => absurd (by omega) q)⟩
  exact key (e - i) 0 (by omega)
end SCANA2
def a_tk (σ : xw_M) (c : Nat → Nat) (n k : Nat) : Prop := ∀ j, j < k → σ.1 25 j = nI (k_kd c n j) ∧ σ.1 26 j = nI (k_st c n j) ∧ (k_kd c n j = 16 → σ.1 27 j = k_va c n j)
def k_go (c : Nat → Nat) (n k : Nat) : Prop := ∀ j, j < k → k_kd c n j ≠ 27 ∧ k_kd c n j ≠ 28
theorem k_kd27 {c : Nat → Nat} {n j : Nat} (h : k_kd c n j ≠ 27) : k_st c n j < n := by
  refine Classical.byContradiction fun q => h ?_
  unfold k_kd k_kind
  rw [if_neg q]
theorem k_ps_le {c : Nat → Nat} {n : Nat} : ∀ {k : Nat}, (∀ j, j < k → k_kd c n j ≠ 27) → k_ps c n k ≤ n
  | 0, _ => Nat.zero_le _
  | k + 1, h => (k_end_b (k_kd27 (h k (by omega)))).2
theorem k_st_le {c : Nat → Nat} {n k : Nat} (h : k_ps c n k ≤ n) : k_st c n k ≤ n := (k_past_b (c := c) (n := n) (s := 0) (n - k_ps c n k) _ (by omega)).2.1
/-- what the class's scanner leaves behind -/
def a_sc (σ σ1 : xw_M) (c : Nat → Nat) (n sz : Nat) : Prop := 1 ≤ sz ∧ sz ≤ 401 ∧ a_tk σ1 c n sz ∧ k_go c n (sz - 1) ∧ (sz = 401 ∨ k_kd c n (sz - 1) = 27 ∨ k_kd c n (sz - 1) = 28) ∧ σ1.1 2 4 = nI sz ∧ ∀ x, x ≠ 2 → x ≠ 25 → x ≠ 26 → x ≠ 27 → σ1.1 x = σ.1 x
theorem sA_split {σ : xw_M} {c : Nat → Nat} {n : Nat} {Z : xw_M → Prop} (H : a_tp σ c n) (h : ∀ σ1 sz, a_sc σ σ1 c n sz → Z σ1) : xu_X6_split σ Z := by
  intro K11 K83 h11 h83 σ1 e1
  have key : ∀ (m k : Nat) (σ' : xw_M), k + m = 401 → k_go c n k → a_tk σ' c n k → σ'.1 2 4 = nI k → (∀ x, x ≠ 2 → x ≠ 25 → x ≠ 26 → x ≠ 27 → σ'.1 x = σ.1 x) → (k = 0 ∨ 1 ≤ k) → K11 σ' (nI (k_ps c n k)) 1 (nI k) := by
    intro m
    induction m with
    | zero =>
      intro k σ' hk hg ht hz hf _
      obtain rfl : k = 401 := by omega
      apply h11
      exact ⟨fun _ => h σ' 401 ⟨by decide, by decide, ht, fun j hj => hg j (by omega), Or.inl rfl, hz, hf⟩, fun z => absurd (by decide) z⟩
    | succ m ih =>
      intro k σ' hk hg ht hz hf _
      have H' : a_tp σ' c n := by
        unfold a_tp
        rw [hf 1 (by decide) (by decide) (by decide) (by decide), hf 24 (by decide) (by decide) (by decide) (by decide)]
        exact H
      have n2000 := H.2.1
      have pl := k_ps_le (fun j hj => (hg j hj).1)
      have sl := k_st_le pl
      have kl := k_kind_lt (c := c) (n := n) (i := k_st c n k)
      have vk : vp_in (nI k) 401 := vp_in_nI (by omega) (by decide)
      have ck : (nI k).toNatClampNeg = k := nI_clamp (by omega)
      apply h11
      refine ⟨fun z => absurd z (nI_nlt (b := k) (a := 400) (by omega) (by decide)), fun _ => ⟨fun z => absurd z (by decide), fun _ => sA_past H' pl (by decide) (sA_end H' sl (sA_kind H' sl ⟨vk, fun σ8 e8 => ⟨vk, fun σ9 e9 => ?_⟩⟩))⟩⟩
      rw [ck] at e8 e9
      change σ8 = xw_i σ' 25 k (nI (k_kd c n k)) at e8
      change σ9 = xw_i σ8 26 k (nI (k_st c n k)) at e9
      have done : ∀ v : Int32, (k_kd c n k = 16 → v = k_va c n k) → K83 σ9 (nI k) v (nI k) (nI (k_end c n (k_st c n k))) (nI (k_kd c n k)) := by
        intro v hv
        apply h83
        unfold xb_X6_split_83
        rw [ck, nI_1]
        refine ⟨vk, fun σ12 e12 σ13 e13 => ?_⟩
        have f13 : ∀ x, x ≠ 2 → x ≠ 25 → x ≠ 26 → x ≠ 27 → σ13.1 x = σ.1 x := by
          intro x x1 x2 x3 x4
          rw [e13, e12, e9, e8, xw_ne x1, xw_ne x4, xw_ne x3, xw_ne x2]
          exact hf x x1 x2 x3 x4
        have z13 : σ13.1 2 4 = nI (k + 1) := by rw [e13, xw_eq]
        have t13 : a_tk σ13 c n (k + 1) := by
          intro j hj
          rw [e13, e12, e9, e8]
          by_cases q : j = k
          · subst q
            refine ⟨?_, ?_, fun g => ?_⟩
            · rw [xw_ne (by decide), xw_ne (by decide), xw_ne (by decide), xw_eq]
            · rw [xw_ne (by decide), xw_ne (by decide), xw_eq]
            · rw [xw_ne (by decide), xw_eq]; exact hv g
          · obtain ⟨a1, a2, a3⟩ := ht j (by omega)
            refine ⟨?_, ?_, fun g => ?_⟩
            · rw [xw_ne (by decide), xw_ne (by decide), xw_ne (by decide), xw_nj q]; exact a1
            · rw [xw_ne (by decide), xw_ne (by decide), xw_nj q, xw_ne (by decide)]; exact a2
            · rw [xw_ne (by decide), xw_nj q, xw_ne (by decide), xw_ne (by decide)]; exact a3 g
        have stop : (k_kd c n k = 27 ∨ k_kd c n k = 28) → K11 σ13 (nI (k_end c n (k_st c n k))) 0 (nI (k + 1)) := by
          intro g
          apply h11
          have fin : Z σ13 := h σ13 (k + 1) ⟨by omega, by omega, t13, fun j hj => hg j (by omega), Or.inr (by rw [Nat.add_sub_cancel]; exact g), z13, f13⟩
          exact ⟨fun _ => fin, fun _ => ⟨fun _ => fin, fun z => absurd rfl z⟩⟩
        refine ⟨fun z => stop (Or.inl ((nI_eq (b := 27) (by unfold k_kd; omega) (by decide)).mp z)), fun z1 => ⟨fun z => stop (Or.inr ((nI_eq (b := 28) (by unfold k_kd; omega) (by decide)).mp z)), fun z2 => ?_⟩⟩
        refine ih (k + 1) σ13 (by omega) (fun j hj => ?_) t13 z13 f13 (Or.inr (by omega))
        by_cases q : j = k
        · subst q
          exact ⟨fun y => z1 (by rw [y]; rfl), fun y => z2 (by rw [y]; rfl)⟩
        · exact hg j (by omega)
      refine ⟨fun z => done 0 (fun g => absurd (by show nI (k_kd c n k) = 16; rw [g]; rfl) z), fun z => ?_⟩
      have g : k_kd c n k = 16 := (nI_eq (b := 16) (by unfold k_kd; omega) (by decide)).mp z
      have si : k_st c n k < n := k_kd27 (by omega)
      have eb := k_end_b (c := c) si
      have H9 : a_tp σ9 c n := by
        unfold a_tp
        rw [e9, e8, xw_ne (by decide), xw_ne (by decide), xw_ne (by decide), xw_ne (by decide)]
        exact H'
      exact sA_num H9 (Nat.le_of_lt eb.1) eb.2 (done _ (fun _ => rfl))
  rw [e1]
  exact key 401 0 _ (by omega) (fun j hj => absurd hj (by omega)) (fun j hj => absurd hj (by omega)) xw_eq (fun x x1 _ _ _ => xw_ne x1) (Or.inl rfl)
