/-! the reference's scanner -/
theorem l_find_no {P : Nat → Bool} : ∀ {k i : Nat}, (∀ r, i ≤ r → r < i + k → P r = false) → l_find P k i = none
  | 0, _, _ => rfl
  | k + 1, i, h => by
    simp only [l_find]
    rw [h i (Nat.le_refl i) (by omega)]
    exact l_find_no (fun r h1 h2 => h r (by omega) (by omega))
theorem l_find_nn {P : Nat → Bool} : ∀ {k i : Nat}, l_find P k i = none → ∀ r, i ≤ r → r < i + k → P r = false
  | 0, _, _, r, h1, h2 => by omega
  | k + 1, i, h, r, h1, h2 => by
    simp only [l_find] at h
    cases hp : P i with
    | true => rw [hp] at h; cases h
    | false =>
      rw [hp] at h
      by_cases e : r = i
      · rw [e]; exact hp
      · exact l_find_nn (k := k) (i := i + 1) h r (by omega) (by omega)
/-- the reference's number of a kind of token -/
def b_kd (k : Nat) : Nat := if k < 9 then 27 + k else if k < 16 then 11 + k else if k = 16 then 2 else if k = 17 then 4 else if k ≤ 24 then k - 10 else if k ≤ 26 then k - 19 else if k = 27 then 0 else 3
def b_k1 (k : Nat) (v : Int32) : Prop := (k ≠ 28 → v = nI (b_kd k)) ∧ (k = 28 → v = 1 ∨ v = 3)
theorem b_kd_inj : ∀ k, k < 28 → ∀ K, K < 28 → b_kd k = b_kd K → k = K := by decide
theorem b_kd_no : ∀ K, K < 28 → ¬ nI (b_kd K) = 1 ∧ ¬ nI (b_kd K) = 3 := by decide +kernel
theorem b_kd_lt : ∀ K, K < 28 → b_kd K < 36 := by decide
theorem b_is {k K : Nat} {v : Int32} (h : b_k1 k v) (hk : k < 29) (hK : K < 28) : v = nI (b_kd K) ↔ k = K := by
  have b1 := b_kd_no K hK
  have b2 := b_kd_lt K hK
  constructor
  · intro e
    by_cases q : k = 28
    · rcases h.2 q with z | z
      · exact absurd (e.symm.trans z) b1.1
      · exact absurd (e.symm.trans z) b1.2
    · have := h.1 q
      have b3 := b_kd_lt k (by omega)
      exact b_kd_inj k (by omega) K hK ((nI_eq (by omega) (by omega)).mp (this.symm.trans e))
  · intro e
    rw [← e]
    exact h.1 (by omega)
def b_tp (τ : xw_M) (c : Nat → Nat) (n : Nat) : Prop := τ.1 0 4 = nI n ∧ n ≤ 2000 ∧ ∀ j, j < n → τ.1 2 j &&& 255 = nI (c j) ∧ c j < 256
theorem k_sort1 {x : Nat} : k_sort x = 1 ↔ 97 ≤ x ∧ x ≤ 122 := by
  unfold k_sort
  constructor
  · intro h
    split at h
    · cases h
    · split at h
      · assumption
      · split at h <;> cases h
  · intro h
    rw [if_neg (by omega), if_pos h]
theorem k_sort2 {x : Nat} : k_sort x = 2 ↔ 48 ≤ x ∧ x ≤ 57 := by
  unfold k_sort
  constructor
  · intro h
    split at h
    · cases h
    · split at h
      · cases h
      · split at h
        · assumption
        · cases h
  · intro h
    rw [if_neg (by omega), if_neg (by omega), if_pos h]
theorem k_sort0 {x : Nat} : k_sort x = 0 ↔ x = 9 ∨ x = 10 ∨ x = 13 ∨ x = 32 := by
  unfold k_sort
  constructor
  · intro h
    split at h
    · assumption
    · split at h
      · cases h
      · split at h <;> cases h
  · intro h
    rw [if_pos h]
/-- what a token leaves -/
def b_fr (τ τ1 : xw_M) : Prop := (∀ x, x ≠ 0 → x ≠ 3 → x ≠ 4 → x ≠ 5 → τ1.1 x = τ.1 x) ∧ (∀ j, j ≠ 10 → τ1.1 0 j = τ.1 0 j) ∧ τ1.2 7 = τ.2 7
theorem b_fr_t {a b c : xw_M} (h1 : b_fr a b) (h2 : b_fr b c) : b_fr a c := ⟨fun x x1 x2 x3 x4 => (h2.1 x x1 x2 x3 x4).trans (h1.1 x x1 x2 x3 x4), fun j hj => (h2.2.1 j hj).trans (h1.2.1 j hj), h2.2.2.trans h1.2.2⟩
def b_tk (τ : xw_M) (c : Nat → Nat) (n k : Nat) : Prop := ∀ j, j < k → b_k1 (k_kd c n j) (τ.1 3 j) ∧ τ.1 4 j = nI (k_st c n j) ∧ (k_kd c n j = 16 → τ.1 5 j = k_va c n j)
section SCANB
variable {τ : xw_M} {c : Nat → Nat} {n : Nat}
theorem sB_at {i : Nat} {Z : Int32 → xw_M → Prop} (H : b_tp τ c n) (hi : i ≤ 5000) (h1 : i < n → Z (nI (c i)) τ) (h0 : ¬ i < n → Z 0 τ) : xu_X12_at τ (nI i) Z := by
  obtain ⟨e, hn, hc⟩ := H
  unfold xu_X12_at
  rw [e, nI_clamp (n := i) (by omega)]
  refine ⟨fun z => h0 (fun q => absurd z (nI_ge q (by omega))), fun z => ?_⟩
  have q : i < n := Nat.not_le.mp fun q => z (nI_le q (by omega))
  rw [(hc i q).1]
  exact ⟨vp_in_nI (by omega) (by decide), h1 q⟩
theorem sB_dig {x : Nat} {Z : Int32 → xw_M → Prop} (hx : x < 256) (h1 : k_sort x = 2 → Z 1 τ) (h0 : ¬ k_sort x = 2 → Z 0 τ) : xu_X12_isDigit τ (nI x) Z := by
  rw [k_sort2] at h1 h0
  refine ⟨fun z => ⟨by simp, h0 ?_⟩, fun z => ⟨fun z2 => ⟨by simp, h0 ?_⟩, fun z2 => ⟨by simp, h1 ?_⟩⟩⟩
  · have := (nI_ltI (b := 48) (by omega) (by decide)).mp z
    omega
  · have := (nI_ltI (a := 57) (by decide) (by omega)).mp z2
    omega
  · have a1 : ¬ x < 48 := fun q => z (nI_lt (b := 48) q (by decide))
    have a2 : ¬ 57 < x := fun q => z2 (nI_lt (a := 57) q (by omega))
    omega
theorem sB_let {x : Nat} {Z : Int32 → xw_M → Prop} (hx : x < 256) (h1 : k_sort x = 1 → Z 1 τ) (h0 : ¬ k_sort x = 1 → Z 0 τ) : xu_X12_isLetter τ (nI x) Z := by
  rw [k_sort1] at h1 h0
  refine ⟨fun z => ⟨by simp, h0 ?_⟩, fun z => ⟨fun z2 => ⟨by simp, h0 ?_⟩, fun z2 => ⟨by simp, h1 ?_⟩⟩⟩
  · have := (nI_ltI (b := 97) (by omega) (by decide)).mp z
    omega
  · have := (nI_ltI (a := 122) (by decide) (by omega)).mp z2
    omega
  · have a1 : ¬ x < 97 := fun q => z (nI_lt (b := 97) q (by decide))
    have a2 : ¬ 122 < x := fun q => z2 (nI_lt (a := 122) q (by omega))
    omega
theorem sB_more {x N : Nat} {Z : Int64 → xw_M → Prop} (hx : 97 ≤ x) (hx2 : x < 256) (h : Z (lN (27 * N + (x - 96))) τ) : xu_X12_more τ (lN N) (nI x) Z := by
  refine ⟨fun _ => ?_, fun z => absurd z (nI_ne0 (by omega) (by omega))⟩
  have e : (nI x - (97 : Int32)) + (1 : Int32) = nI (x - 96) := by
    rw [show (97 : Int32) = nI 97 from rfl, pk_sub hx, nI_1]
    congr 1
    omega
  rw [e, nI_l (by omega), show (27 : Int64) = lN 27 from rfl, lN_mul, lN_add]
  exact h
theorem sB_tok {k : Nat} {a1 a2 a3 : Int32} {a4 : Int64} {Z : xw_M → Prop} (hk : τ.1 0 10 = nI k) (hl : k < 403) (h : ∀ τ1, b_fr τ τ1 → τ1.1 0 10 = nI (k + 1) → τ1.1 3 k = a1 → τ1.1 4 k = a2 → τ1.1 5 k = a3 → (∀ j, j ≠ k → τ1.1 3 j = τ.1 3 j ∧ τ1.1 4 j = τ.1 4 j ∧ τ1.1 5 j = τ.1 5 j) → Z τ1) : xu_X12_token τ a1 a2 a3 a4 Z := by
  have ck : (nI k).toNatClampNeg = k := nI_clamp (by omega)
  have vk : vp_in (nI k) 403 := vp_in_nI hl (by decide)
  unfold xu_X12_token
  rw [hk]
  refine ⟨vk, fun τ1 e1 => ?_⟩
  rw [ck] at e1
  have k1 : τ1.1 0 10 = nI k := by rw [e1, xw_ne (by decide)]; exact hk
  rw [k1]
  refine ⟨vk, fun τ2 e2 => ?_⟩
  rw [ck] at e2
  have k2 : τ2.1 0 10 = nI k := by rw [e2, xw_ne (by decide)]; exact k1
  rw [k2]
  refine ⟨vk, fun τ3 e3 => ?_⟩
  rw [ck] at e3
  have k3 : τ3.1 0 10 = nI k := by rw [e3, xw_ne (by decide)]; exact k2
  rw [k3]
  refine ⟨vk, fun τ4 e4 τ5 e5 => ?_⟩
  rw [ck] at e4
  have k4 : τ4.1 = τ3.1 := by rw [e4]; rfl
  rw [k4, k3, nI_1] at e5
  refine h τ5 ⟨fun x x0 x3 x4 x5 => ?_, fun j hj => ?_, ?_⟩ ?_ ?_ ?_ ?_ (fun j hj => ⟨?_, ?_, ?_⟩)
  · rw [e5, xw_ne x0, k4, e3, xw_ne x5, e2, xw_ne x4, e1, xw_ne x3]
  · rw [e5, xw_nj hj, k4, e3, xw_ne (by decide), e2, xw_ne (by decide), e1, xw_ne (by decide)]
  · rw [e5]
    show τ4.2 7 = τ.2 7
    rw [e4]
    funext j
    show (if 7 = 6 ∧ j = k then a4 else τ3.2 7 j) = τ.2 7 j
    rw [if_neg (fun q => absurd q.1 (by decide)), e3, e2, e1]
    rfl
  · rw [e5, xw_eq]
  · rw [e5, xw_ne (by decide), k4, e3, xw_ne (by decide), e2, xw_ne (by decide), e1, xw_eq]
  · rw [e5, xw_ne (by decide), k4, e3, xw_ne (by decide), e2, xw_eq]
  · rw [e5, xw_ne (by decide), k4, e3, xw_eq]
  · rw [e5, xw_ne (by decide), k4, e3, xw_ne (by decide), e2, xw_ne (by decide), e1, xw_nj hj]
  · rw [e5, xw_ne (by decide), k4, e3, xw_ne (by decide), e2, xw_nj hj, e1, xw_ne (by decide)]
  · rw [e5, xw_ne (by decide), k4, e3, xw_nj hj, e2, xw_ne (by decide), e1, xw_ne (by decide)]
theorem b_tp_fr {τ1 : xw_M} (H : b_tp τ c n) (f : b_fr τ τ1) : b_tp τ1 c n := by
  unfold b_tp
  rw [f.2.1 4 (by decide), f.1 2 (by decide) (by decide) (by decide) (by decide)]
  exact H
end SCANB
def b_cl (Z : xw_M → Prop) (K7 : xw_M → Int32 → Prop) (K85 : xw_M → Int32 → Int32 → Int64 → Prop) (K146 : xw_M → Int32 → Int32 → Int64 → Int32 → Int32 → Prop) (K179 : xw_M → Int32 → Int32 → Int64 → Int32 → Prop) (K208 : xw_M → Int32 → Int32 → Int32 → Prop) : Prop := (∀ (σ : xw_M) (v1 : Int32), xb_X12_cut_7 K7 K85 K146 K179 K208 Z σ v1 → K7 σ v1) ∧ (∀ (σ : xw_M) (v1 : Int32) (v3 : Int32) (v4 : Int64), xb_X12_cut_85 K7 K85 K146 K179 K208 Z σ v1 v3 v4 → K85 σ v1 v3 v4) ∧ (∀ (σ : xw_M) (v1 : Int32) (v3 : Int32) (v4 : Int64) (v6 : Int32) (v7 : Int32), xb_X12_cut_146 K7 K85 K146 K179 K208 Z σ v1 v3 v4 v6 v7 → K146 σ v1 v3 v4 v6 v7) ∧ (∀ (σ : xw_M) (v1 : Int32) (v3 : Int32) (v4 : Int64) (v6 : Int32), xb_X12_cut_179 K7 K85 K146 K179 K208 Z σ v1 v3 v4 v6 → K179 σ v1 v3 v4 v6) ∧ (∀ (σ : xw_M) (v1 : Int32) (v3 : Int32) (v4 : Int32), xb_X12_cut_208 K7 K85 K146 K179 K208 Z σ v1 v3 v4 → K208 σ v1 v3 v4)
section CUT
variable {c : Nat → Nat} {n : Nat} {Z : xw_M → Prop} {K7 : xw_M → Int32 → Prop} {K85 : xw_M → Int32 → Int32 → Int64 → Prop} {K146 : xw_M → Int32 → Int32 → Int64 → Int32 → Int32 → Prop} {K179 : xw_M → Int32 → Int32 → Int64 → Int32 → Prop} {K208 : xw_M → Int32 → Int32 → Int32 → Prop}
/-- what a token that stands at i must be for the run to go on behind it -/
def b_nx (K7 : xw_M → Int32 → Prop) (τ : xw_M) (c : Nat → Nat) (n k i : Nat) : Prop := ∀ (a1 a3 : Int32) (a4 : Int64), b_k1 (k_kind c n i) a1 → (k_kind c n i = 16 → a3 = k_num c i (k_end c n i - i)) → xu_X12_token τ a1 (nI i) a3 a4 (fun τ1 => K7 τ1 (nI (k_end c n i)))
theorem sB_key (H : b_cl Z K7 K85 K146 K179 K208) {τ : xw_M} {i m k : Nat} (hk7 : τ.2 7 = t_keys) (hi : i < n) (hs : k_sort (c i) = 1) (em : k_end c n i = i + m) (hm : m ≤ 7) (hx : b_nx K7 τ c n k i) : K146 τ (nI i) (nI m) (lN (k_nu (k_ds c i m))) 1 0 := by
  have eb := k_end_b (c := c) hi
  have ep : k_end c n i = k_past c n 1 i := by unfold k_end; rw [if_pos hi, if_pos hs]
  have hl := k_letters (s := 1) hi hs
  have hd := k_ds_b (c := c) (i := i) (m := m) (fun j j1 j2 => by have := hl (j - i) (by omega); rwa [show i + (j - i) = j by omega] at this)
  have nl : k_nu (k_ds c i m) < 27 ^ 7 := k_nu_lt 7 (by rw [k_ds_len]; exact hm) (fun d h => (hd d h).2)
  have nl2 : (27 : Nat) ^ 7 < 2 ^ 40 := by decide
  have ek : ∀ x, x < 16 → (lg_cmp (τ.2 7 x) (lN (k_nu (k_ds c i m))) = 0 ↔ k_ds c i m = k_wd ((x + 9) % 16)) := by
    intro x hx
    obtain ⟨q1, q2⟩ := k_key x hx
    rw [hk7, lg_cmp_eq]
    have q3 : t_keys x = lN (k_nu (k_wd ((x + 9) % 16))) := by rw [← q1]; rfl
    rw [q3, pk_lEQ (by omega) (by omega)]
    constructor
    · intro e
      exact (k_nu_inj (k_wd_b _ (by omega)) hd e).symm
    · intro e
      rw [e]
  have fin : ∀ v : Int32, b_k1 (k_kind c n i) v → K179 τ (nI i) (nI m) (lN (k_nu (k_ds c i m))) v := by
    intro v hv
    apply H.2.2.2.1
    have := hx v 0 (lN (k_nu (k_ds c i m))) hv (fun e => ?_)
    · rw [em] at this
      unfold xb_X12_cut_179
      rw [nI_add]
      exact this
    · exfalso
      unfold k_kind at e
      rw [if_pos hi, if_pos hs] at e
      cases hq : k_word c i (k_end c n i - i) with
      | none => rw [hq] at e; cases e
      | some w =>
        rw [hq] at e
        have := l_find_some hq
        have e2 : w = 16 := e
        omega
  have kk : k_kind c n i = (match k_word c i m with | some w => w | none => 28) := by
    unfold k_kind
    rw [if_pos hi, if_pos hs, em, Nat.add_sub_cancel_left]
    cases k_word c i m <;> rfl
  have key : ∀ (d x : Nat) (v : Int32), x + d = 16 → ((∃ y, y < x ∧ k_ds c i m = k_wd ((y + 9) % 16) ∧ v = nI (20 + y)) ∨ ((∀ y, y < x → ¬ k_ds c i m = k_wd ((y + 9) % 16)) ∧ v = 1)) → K146 τ (nI i) (nI m) (lN (k_nu (k_ds c i m))) v (nI x) := by
    intro d
    induction d with
    | zero =>
      intro x v hx hv
      obtain rfl : x = 16 := by omega
      apply H.2.2.1
      refine ⟨fun _ => fin v ?_, fun z => absurd (by decide) z⟩
      rw [kk]
      rcases hv with ⟨y, y1, y2, y3⟩ | ⟨y1, y2⟩
      · cases hq : k_word c i m with
        | none =>
          have := l_find_nn hq ((y + 9) % 16) (Nat.zero_le _) (by omega)
          simp [y2] at this
        | some w =>
          obtain ⟨_, w1, w2⟩ := l_find_some hq
          have w3 : k_ds c i m = k_wd w := by simpa using w2
          have w4 : w = (y + 9) % 16 := k_wd_inj w (by omega) _ (by omega) (w3.symm.trans y2)
          refine ⟨fun _ => ?_, fun z => ?_⟩
          · rw [y3, w4]
            show nI (20 + y) = nI (b_kd ((y + 9) % 16))
            congr 1
            unfold b_kd
            by_cases q : y < 7
            · rw [Nat.mod_eq_of_lt (by omega), if_neg (by omega), if_pos (by omega)]
              omega
            · rw [show (y + 9) % 16 = y - 7 by omega, if_pos (by omega)]
              omega
          · have z2 : w = 28 := z
            omega
      · have : k_word c i m = none := l_find_no (fun r _ hr => by
          have := y1 ((r + 7) % 16) (by omega)
          rw [show ((r + 7) % 16 + 9) % 16 = r by omega] at this
          simp [this])
        rw [this]
        exact ⟨fun z => absurd rfl z, fun _ => Or.inl y2⟩
    | succ d ih =>
      intro x v hx hv
      apply H.2.2.1
      unfold xb_X12_cut_146
      rw [nI_clamp (n := x) (by omega), nI_1]
      refine ⟨fun z => absurd z (nI_ge (b := 16) (by omega) (by decide)), fun _ => ⟨vp_in_nI (by omega) (by decide), fun z => ?_, fun z => ?_⟩⟩
      · refine ih (x + 1) v (by omega) ?_
        rcases hv with ⟨y, y1, y2, y3⟩ | ⟨y1, y2⟩
        · exact Or.inl ⟨y, by omega, y2, y3⟩
        · refine Or.inr ⟨fun y hy => ?_, y2⟩
          by_cases e : y = x
          · rw [e]; exact fun g => z ((ek x (by omega)).mpr g)
          · exact y1 y (by omega)
      · refine ih (x + 1) _ (by omega) (Or.inl ⟨x, by omega, (ek x (by omega)).mp z, ?_⟩)
        exact nI_add 20 x
  exact key 16 0 1 (by omega) (Or.inr ⟨fun y hy => absurd hy (by omega), rfl⟩)
theorem sB_word (H : b_cl Z K7 K85 K146 K179 K208) {τ : xw_M} {i k : Nat} (T : b_tp τ c n) (hk7 : τ.2 7 = t_keys) (hi : i < n) (hs : k_sort (c i) = 1) (hx : b_nx K7 τ c n k i) : K85 τ (nI i) 0 0 := by
  have n2 := T.2.1
  have eb := k_end_b (c := c) hi
  have ep : k_end c n i = k_past c n 1 i := by unfold k_end; rw [if_pos hi, if_pos hs]
  have hl := k_letters (s := 1) hi hs
  have pb := k_past_b (c := c) (n := n) (s := 1) (n - i) i (by omega)
  obtain ⟨L, eL⟩ : ∃ L, k_end c n i = i + L := ⟨k_end c n i - i, by omega⟩
  have key : ∀ (d m : Nat) (v : Int64), m + d = L → (m ≤ 8 → v = lN (k_nu (k_ds c i m))) → K85 τ (nI i) (nI m) v := by
    intro d
    induction d with
    | zero =>
      intro m v hm hv
      obtain rfl : m = L := by omega
      have off : ¬ (i + m < n ∧ k_sort (c (i + m)) = 1) := by
        rintro ⟨q1, q2⟩
        rw [← ep, eL] at pb
        exact pb.2.2.2 q1 q2
      have stop : ¬ m ≤ 7 → k_word c i m = none := by
        intro q
        refine l_find_no (fun r _ hr => ?_)
        have : ¬ k_ds c i m = k_wd r := by
          intro g
          have := congrArg List.length g
          unfold k_wd at this
          rw [k_ds_len, k_ds_len] at this
          have := (k_wok r (by omega)).2.1
          omega
        simp [this]
      have kk : ¬ m ≤ 7 → k_kind c n i = 28 := by
        intro q
        unfold k_kind
        rw [if_pos hi, if_pos hs, eL, Nat.add_sub_cancel_left, stop q]
      have long : ¬ m ≤ 7 → ∀ w : Int32, w = 1 ∨ w = 3 → K179 τ (nI i) (nI m) v w := by
        intro q w hw
        apply H.2.2.2.1
        unfold xb_X12_cut_179
        rw [nI_add]
        have := hx w 0 v ⟨fun z => absurd (kk q) z, fun _ => hw⟩ (fun z => by rw [kk q] at z; cases z)
        rw [eL] at this
        exact this
      have ends : (((nI m) ≤ (8 : Int32) → (((7 : Int32) < (nI m) → (K179 τ (nI i) (nI m) v (1 : Int32))) ∧ (¬ (7 : Int32) < (nI m) → (K146 τ (nI i) (nI m) v (1 : Int32) (0 : Int32))))) ∧ (¬ (nI m) ≤ (8 : Int32) → (((7 : Int32) < (nI m) → (K179 τ (nI i) (nI m) v (3 : Int32))) ∧ (¬ (7 : Int32) < (nI m) → (K146 τ (nI i) (nI m) v (3 : Int32) (0 : Int32)))))) := by
        have h7 : (7 : Int32) < nI m → ¬ m ≤ 7 := fun z => by
          have := (nI_ltI (a := 7) (by decide) (by omega)).mp z
          omega
        refine ⟨fun z => ⟨fun z2 => long (h7 z2) 1 (Or.inl rfl), fun z2 => ?_⟩, fun z => ⟨fun z2 => long (h7 z2) 3 (Or.inr rfl), fun z2 => ?_⟩⟩
        · have q : ¬ 7 < m := fun q => z2 (nI_lt (a := 7) q (by omega))
          rw [hv (by omega)]
          exact sB_key H hk7 hi hs eL (by omega) hx
        · exfalso
          have q : ¬ 7 < m := fun q => z2 (nI_lt (a := 7) q (by omega))
          exact z (nI_le (b := 8) (by omega) (by decide))
      apply H.2.1
      unfold xb_X12_cut_85
      rw [nI_add]
      refine sB_at T (by omega) (fun q => sB_let (T.2.2 _ q).2 (fun z => absurd ⟨q, z⟩ off) (fun _ => ⟨fun _ => ends, fun z => absurd rfl z⟩)) (fun q => ?_)
      exact sB_let (x := 0) (by decide) (fun z => absurd z (by decide)) (fun _ => ⟨fun _ => ends, fun z => absurd rfl z⟩)
    | succ d ih =>
      intro m v hm hv
      have lm := hl m (by omega)
      have q : i + m < n := by omega
      apply H.2.1
      unfold xb_X12_cut_85
      rw [nI_add, nI_1]
      refine sB_at T (by omega) (fun _ => sB_let (T.2.2 _ q).2 (fun _ => ⟨fun z => absurd z (by decide), fun _ => ⟨fun z => ?_, fun z => ?_⟩⟩) (fun z => absurd (k_sort1.mpr lm) z)) (fun z => absurd q z)
      · have := (nI_leI (a := 8) (by decide) (by omega)).mp z
        exact ih (m + 1) v (by omega) (fun z => by omega)
      · have m8 : ¬ 8 ≤ m := fun q => z (nI_le (a := 8) q (by omega))
        rw [hv (by omega)]
        refine sB_at T (by omega) (fun _ => sB_more lm.1 (T.2.2 _ q).2 ?_) (fun z => absurd q z)
        refine ih (m + 1) _ (by omega) (fun _ => ?_)
        simp only [k_ds, k_nu]
  exact key L 0 0 (by omega) (fun _ => rfl)
theorem sB_num (H : b_cl Z K7 K85 K146 K179 K208) {τ : xw_M} {i k : Nat} (T : b_tp τ c n) (hi : i < n) (hs : k_sort (c i) = 2) (hx : b_nx K7 τ c n k i) : K208 τ (nI i) 0 0 := by
  have n2 := T.2.1
  have eb := k_end_b (c := c) hi
  have n1 : ¬ k_sort (c i) = 1 := by omega
  have ep : k_end c n i = k_past c n 2 i := by unfold k_end; rw [if_pos hi, if_neg n1, if_pos hs]
  have pb := k_past_b (c := c) (n := n) (s := 2) (n - i) i (by omega)
  obtain ⟨L, eL⟩ : ∃ L, k_end c n i = i + L := ⟨k_end c n i - i, by omega⟩
  have kk : k_kind c n i = if L ≤ 4 then 16 else 28 := by
    unfold k_kind
    rw [if_pos hi, if_neg n1, if_pos hs, eL, Nat.add_sub_cancel_left]
  have key : ∀ (d m : Nat) (v : Int32), m + d = L → (m ≤ 4 → v = k_num c i m) → K208 τ (nI i) (nI m) v := by
    intro d
    induction d with
    | zero =>
      intro m v hm hv
      obtain rfl : m = L := by omega
      have off : ¬ (i + m < n ∧ k_sort (c (i + m)) = 2) := by
        rintro ⟨q1, q2⟩
        rw [← ep, eL] at pb
        exact pb.2.2.2 q1 q2
      have ends : (((nI m) ≤ (4 : Int32) → (xu_X12_token τ (2 : Int32) (nI i) v (0 : Int64) (fun σ26 => (K7 σ26 (nI (i + m)))))) ∧ (¬ (nI m) ≤ (4 : Int32) → (xu_X12_token τ (3 : Int32) (nI i) v (0 : Int64) (fun σ27 => (K7 σ27 (nI (i + m))))))) := by
        refine ⟨fun z => ?_, fun z => ?_⟩
        · have q := (nI_leI (b := 4) (by omega) (by decide)).mp z
          rw [if_pos q] at kk
          have := hx 2 v 0 ⟨fun _ => by rw [kk]; rfl, fun z => by rw [kk] at z; cases z⟩ (fun _ => by rw [hv q, eL, Nat.add_sub_cancel_left])
          rw [eL] at this
          exact this
        · have q : ¬ m ≤ 4 := fun q => z (nI_le (b := 4) q (by decide))
          rw [if_neg q] at kk
          have := hx 3 v 0 ⟨fun z => absurd kk z, fun _ => Or.inr rfl⟩ (fun z => by rw [kk] at z; cases z)
          rw [eL] at this
          exact this
      apply H.2.2.2.2
      unfold xb_X12_cut_208
      rw [nI_add]
      refine sB_at T (by omega) (fun q => sB_dig (T.2.2 _ q).2 (fun z => absurd ⟨q, z⟩ off) (fun _ => ⟨fun _ => ends, fun z => absurd rfl z⟩)) (fun q => ?_)
      exact sB_dig (x := 0) (by decide) (fun z => absurd z (by decide)) (fun _ => ⟨fun _ => ends, fun z => absurd rfl z⟩)
    | succ d ih =>
      intro m v hm hv
      have q : i + m < n := by omega
      have lm := pb.2.2.1 (i + m) (by omega) (by omega)
      apply H.2.2.2.2
      unfold xb_X12_cut_208
      rw [nI_add, nI_1]
      refine sB_at T (by omega) (fun _ => sB_dig (T.2.2 _ q).2 (fun _ => ⟨fun z => absurd z (by decide), fun _ => ⟨fun z => ?_, fun z => ?_⟩⟩) (fun z => absurd lm z)) (fun z => absurd q z)
      · have := (nI_leI (a := 4) (by decide) (by omega)).mp z
        exact ih (m + 1) v (by omega) (fun z => by omega)
      · have m8 : ¬ 4 ≤ m := fun q => z (nI_le (a := 4) q (by omega))
        rw [hv (by omega)]
        refine sB_at T (by omega) (fun _ => ?_) (fun z => absurd q z)
        refine ih (m + 1) _ (by omega) (fun _ => ?_)
        simp only [k_num]
        rw [Int32.mul_comm]
  exact key L 0 0 (by omega) (fun _ => rfl)
theorem sB_sign (H : b_cl Z K7 K85 K146 K179 K208) {τ : xw_M} {i k : Nat} {a3 : Int32} (T : b_tp τ c n) (hi : i < n) (h1 : ¬ k_sort (c i) = 1) (h2 : ¬ k_sort (c i) = 2) (ha : a3 = 61 ↔ i + 1 < n ∧ c (i + 1) = 61) (hx : b_nx K7 τ c n k i) : xu_X12_sign τ (nI i) (nI (c i)) a3 (fun r σ10 => K7 σ10 (nI i + r)) := by
  have n2 := T.2.1
  have hc := (T.2.2 i hi).2
  have qq : ∀ d : Nat, d < 300 → (nI (c i) = nI d ↔ c i = d) := fun d hd => nI_eq (by omega) (by omega)
  have ek : ∀ e : Nat, k_end c n i = i + e → k_kind c n i = if e = 2 then (if c i = 61 then 21 else if c i = 33 then 22 else 24) else k_sign (c i) := by
    intro e he
    unfold k_kind
    rw [if_pos hi, if_neg h1, if_neg h2, he, Nat.add_sub_cancel_left]
  have ee : k_end c n i = if (c i = 61 ∨ c i = 33 ∨ c i = 60) ∧ i + 1 < n ∧ c (i + 1) = 61 then i + 2 else i + 1 := by
    unfold k_end
    rw [if_pos hi, if_neg h1, if_neg h2]
  intro K44 K148 h44 h148
  have t2 : ∀ (v : Int32) (d : Nat), 0 < d → d < 100 → v = nI d → k_end c n i = i + 2 → b_k1 (k_kind c n i) v → K44 τ v := by
    intro v d d0 d1 ev he hv
    have vp : ¬ v ≤ 0 := by rw [ev]; exact nI_nle d0 (by omega)
    apply h44
    refine ⟨fun z => absurd z vp, fun _ => ?_⟩
    apply h148
    unfold xb_X12_sign_148
    have := hx v 0 0 hv (fun z => ?_)
    · rw [he] at this
      have e2 : nI i + (2 : Int32) = nI (i + 2) := nI_add i 2
      show xu_X12_token τ v (nI i) 0 0 (fun σ1 => ((v ≤ 0 → (K7 σ1 (nI i + 1))) ∧ (¬ v ≤ 0 → (K7 σ1 (nI i + 2)))))
      rw [e2]
      have f : (fun σ1 => ((v ≤ 0 → (K7 σ1 (nI i + 1))) ∧ (¬ v ≤ 0 → (K7 σ1 (nI (i + 2)))))) = (fun σ1 => K7 σ1 (nI (i + 2))) := by
        funext σ1
        apply propext
        exact ⟨fun z => z.2 vp, fun z => ⟨fun y => absurd y vp, fun _ => z⟩⟩
      rw [f]
      exact this
    · exfalso
      rw [ek 2 he, if_pos rfl] at z
      split at z
      · cases z
      · split at z <;> cases z
  have t1 : ∀ (v : Int32), k_end c n i = i + 1 → b_k1 (k_sign (c i)) v → K148 τ 0 v := by
    intro v he hv
    apply h148
    unfold xb_X12_sign_148
    have := hx v 0 0 (by rw [ek 1 he, if_neg (by decide)]; exact hv) (fun z => ?_)
    · rw [he] at this
      show xu_X12_token τ v (nI i) 0 0 (fun σ1 => (((0 : Int32) ≤ 0 → (K7 σ1 (nI i + 1))) ∧ (¬ (0 : Int32) ≤ 0 → (K7 σ1 (nI i + 2)))))
      rw [nI_1]
      have f : (fun σ1 => (((0 : Int32) ≤ 0 → (K7 σ1 (nI (i + 1)))) ∧ (¬ (0 : Int32) ≤ 0 → (K7 σ1 (nI i + 2))))) = (fun σ1 => K7 σ1 (nI (i + 1))) := by
        funext σ1
        apply propext
        exact ⟨fun z => z.1 (by decide), fun z => ⟨fun _ => z, fun y => absurd (by decide) y⟩⟩
      rw [f]
      exact this
    · exfalso
      rw [ek 1 he, if_neg (by decide)] at z
      unfold k_sign at z
      repeat' split at z
      all_goals cases z
  have one : k_end c n i = i + 1 → K44 τ 0 := by
    intro he
    apply h44
    have t1' := fun v h => t1 v he h
    unfold k_sign at t1'
    refine ⟨fun _ => ⟨fun w1 => ⟨fun w2 => ⟨fun w3 => ⟨fun w4 => ⟨fun w5 => ⟨fun w6 => ⟨fun w7 => t1' _ ?_, fun w => t1' _ ?_⟩, fun w => t1' _ ?_⟩, fun w => t1' _ ?_⟩, fun w => t1' _ ?_⟩, fun w => t1' _ ?_⟩, fun w => t1' _ ?_⟩, fun w => t1' _ ?_⟩, fun z => absurd (by decide) z⟩
    · rw [if_neg (fun y => w2 (by rw [y]; rfl)), if_neg (fun y => w3 (by rw [y]; rfl)), if_neg (fun y => w6 (by rw [y]; rfl)), if_neg (fun y => w4 (by rw [y]; rfl)), if_neg (fun y => w5 (by rw [y]; rfl)), if_neg (fun y => w1 (by rw [y]; rfl)), if_neg (fun y => w7 (by rw [y]; rfl))]
      exact ⟨fun z => absurd rfl z, fun _ => Or.inr rfl⟩
    · rw [(qq 60 (by decide)).mp w]; exact ⟨fun _ => rfl, fun z => absurd z (by decide)⟩
    · rw [(qq 42 (by decide)).mp w]; exact ⟨fun _ => rfl, fun z => absurd z (by decide)⟩
    · rw [(qq 45 (by decide)).mp w]; exact ⟨fun _ => rfl, fun z => absurd z (by decide)⟩
    · rw [(qq 43 (by decide)).mp w]; exact ⟨fun _ => rfl, fun z => absurd z (by decide)⟩
    · rw [(qq 41 (by decide)).mp w]; exact ⟨fun _ => rfl, fun z => absurd z (by decide)⟩
    · rw [(qq 40 (by decide)).mp w]; exact ⟨fun _ => rfl, fun z => absurd z (by decide)⟩
    · rw [(qq 59 (by decide)).mp w]; exact ⟨fun _ => rfl, fun z => absurd z (by decide)⟩
  refine ⟨fun z => ⟨fun w1 => ⟨fun w2 => ⟨fun w3 => one ?_, fun w => ?_⟩, fun w => ?_⟩, fun w => ?_⟩, fun z => one ?_⟩
  · rw [ee, if_neg]
    rintro ⟨y | y | y, -⟩
    · exact w1 (by rw [y]; rfl)
    · exact w2 (by rw [y]; rfl)
    · exact w3 (by rw [y]; rfl)
  · have y := (qq 60 (by decide)).mp w
    have he : k_end c n i = i + 2 := by rw [ee, if_pos ⟨Or.inr (Or.inr y), ha.mp z⟩]
    refine t2 14 14 (by decide) (by decide) rfl he ?_
    rw [ek 2 he, if_pos rfl, y]
    exact ⟨fun _ => rfl, fun z => absurd z (by decide)⟩
  · have y := (qq 33 (by decide)).mp w
    have he : k_end c n i = i + 2 := by rw [ee, if_pos ⟨Or.inr (Or.inl y), ha.mp z⟩]
    refine t2 12 12 (by decide) (by decide) rfl he ?_
    rw [ek 2 he, if_pos rfl, y]
    exact ⟨fun _ => rfl, fun z => absurd z (by decide)⟩
  · have y := (qq 61 (by decide)).mp w
    have he : k_end c n i = i + 2 := by rw [ee, if_pos ⟨Or.inl y, ha.mp z⟩]
    refine t2 11 11 (by decide) (by decide) rfl he ?_
    rw [ek 2 he, if_pos rfl, y]
    exact ⟨fun _ => rfl, fun z => absurd z (by decide)⟩
  · rw [ee, if_neg (fun y => z (ha.mpr y.2))]
end CUT
/-- what the reference's scanner leaves behind -/
def b_sc (τ τ1 : xw_M) (c : Nat → Nat) (n sz : Nat) : Prop := 1 ≤ sz ∧ sz ≤ 401 ∧ b_tk τ1 c n sz ∧ (sz = 401 ∨ k_kd c n (sz - 1) = 27) ∧ b_fr τ τ1
theorem sB_cut {τ : xw_M} {c : Nat → Nat} {n : Nat} {Z : xw_M → Prop} (T : b_tp τ c n) (hk7 : τ.2 7 = t_keys) (h : ∀ τ1 sz, b_sc τ τ1 c n sz → Z τ1) : xu_X12_cut τ Z := by
  intro K7 K85 K146 K179 K208 h7 h85 h146 h179 h208 τ0 e0
  have H : b_cl Z K7 K85 K146 K179 K208 := ⟨h7, h85, h146, h179, h208⟩
  have n2 := T.2.1
  have key : ∀ (d i k : Nat) (τ' : xw_M), n - i = d → i ≤ n → k ≤ 401 → τ'.1 0 10 = nI k → k_st c n k = k_past c n 0 i → b_tk τ' c n k → b_fr τ τ' → K7 τ' (nI i) := by
    intro d
    induction d using Nat.strongRecOn with
    | _ d ih =>
      intro i k τ' hd hi hk e10 est tk fr
      have T' := b_tp_fr T fr
      have k7 : τ'.2 7 = t_keys := fr.2.2.trans hk7
      apply h7
      unfold xb_X12_cut_7
      rw [e10]
      refine ⟨fun z => ?_, fun z => ?_⟩
      · have := (nI_ltI (a := 400) (by decide) (by omega)).mp z
        obtain rfl : k = 401 := by omega
        exact h τ' 401 ⟨by decide, by decide, tk, Or.inl rfl, fr⟩
      · have kl : ¬ 400 < k := fun q => z (nI_lt (a := 400) q (by omega))
        refine sB_at T' (by omega) (fun q => ?_) (fun q => ?_)
        · rw [T'.1, nI_1]
          have hc := (T'.2.2 i q).2
          have qq : ∀ d : Nat, d < 300 → (nI (c i) = nI d ↔ c i = d) := fun d hd => nI_eq (by omega) (by omega)
          have blank : k_sort (c i) = 0 → K7 τ' (nI (i + 1)) := by
            intro s0
            exact ih (n - (i + 1)) (by omega) (i + 1) k τ' rfl (by omega) hk e10 (by rw [est, k_past_go q s0]) tk fr
          have nx : ¬ k_sort (c i) = 0 → b_nx K7 τ' c n k i := by
            intro s0 a1 a3 a4 g1 g2
            have es : k_st c n k = i := by rw [est, k_past_no (fun y => s0 y.2)]
            have eb := k_end_b (c := c) q
            refine sB_tok e10 (by omega) (fun τ1 f1 y1 y2 y3 y4 y5 => ?_)
            refine ih (n - k_end c n i) (by omega) (k_end c n i) (k + 1) τ1 rfl (by omega) (by omega) y1 ?_ (fun j hj => ?_) (b_fr_t fr f1)
            · show k_past c n 0 (k_end c n (k_st c n k)) = k_past c n 0 (k_end c n i)
              rw [es]
            · by_cases e : j = k
              · subst e
                unfold k_kd k_va
                rw [es, y2, y3, y4]
                exact ⟨g1, rfl, g2⟩
              · obtain ⟨o1, o2, o3⟩ := y5 j e
                rw [o1, o2, o3]
                exact tk j (by omega)
          refine ⟨fun _ => ⟨fun z => blank (k_sort0.mpr (Or.inl ((qq 9 (by decide)).mp z))), fun z1 => ⟨fun z => blank (k_sort0.mpr (Or.inr (Or.inl ((qq 10 (by decide)).mp z)))), fun z2 => ⟨fun z => blank (k_sort0.mpr (Or.inr (Or.inr (Or.inl ((qq 13 (by decide)).mp z))))), fun z3 => ⟨fun z4 => ?_, fun z => blank (k_sort0.mpr (Or.inr (Or.inr (Or.inr ((qq 32 (by decide)).mp z)))))⟩⟩⟩⟩, fun z => absurd (nI_lt q (by omega)) z⟩
          have s0 : ¬ k_sort (c i) = 0 := by
            intro s0
            rcases k_sort0.mp s0 with y | y | y | y
            · exact z1 (by rw [y]; rfl)
            · exact z2 (by rw [y]; rfl)
            · exact z3 (by rw [y]; rfl)
            · exact z4 (by rw [y]; rfl)
          refine sB_let hc (fun s1 => ⟨fun z => absurd z (by decide), fun _ => sB_word H T' k7 q s1 (nx s0)⟩) (fun s1 => ⟨fun _ => sB_dig hc (fun s2 => ⟨fun z => absurd z (by decide), fun _ => sB_num H T' q s2 (nx s0)⟩) (fun s2 => ⟨fun _ => ?_, fun z => absurd rfl z⟩), fun z => absurd rfl z⟩)
          refine sB_at T' (by omega) (fun q2 => sB_sign H T' q s1 s2 ?_ (nx s0)) (fun q2 => sB_sign H T' q s1 s2 ?_ (nx s0))
          · have hc2 := (T'.2.2 _ q2).2
            exact ⟨fun z => ⟨q2, (nI_eq (b := 61) (by omega) (by decide)).mp z⟩, fun z => by rw [z.2]; rfl⟩
          · exact ⟨fun z => absurd z (by decide), fun z => absurd z.1 q2⟩
        · rw [T'.1]
          have en : i = n := by omega
          refine ⟨fun z => absurd z (nI_nlt (by omega) (by omega)), fun _ => sB_tok e10 (by omega) (fun τ1 f1 y1 y2 y3 y4 y5 => ?_)⟩
          have es : k_st c n k = n := by rw [est, k_past_no (fun y => q y.1), en]
          have kk : k_kd c n k = 27 := by unfold k_kd k_kind; rw [es, if_neg (by omega)]
          refine h τ1 (k + 1) ⟨by omega, by omega, fun j hj => ?_, Or.inr kk, b_fr_t fr f1⟩
          by_cases e : j = k
          · subst e
            rw [kk, es, y2, y3]
            exact ⟨⟨fun _ => rfl, fun z => absurd z (by decide)⟩, rfl, fun z => absurd z (by decide)⟩
          · obtain ⟨o1, o2, o3⟩ := y5 j e
            rw [o1, o2, o3]
            exact tk j (by omega)
  rw [e0]
  exact key (n - 0) 0 0 _ rfl (Nat.zero_le _) (by decide) xw_eq rfl (fun j hj => absurd hj (by omega)) ⟨fun x x0 _ _ _ => xw_ne x0, fun j hj => xw_nj hj, rfl⟩
