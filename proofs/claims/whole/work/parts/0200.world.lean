/-! A world of one layout: every cell has a number; ints (also bytes, booleans) and longs are kept by cell and place; references are fixed by the layout. -/
abbrev xw_M : Type := (Nat → Nat → Int32) × (Nat → Nat → Int64)
/-- a cell of a layout: an object (number of its class, its fields: some k = the reference to cell k, none = an int), or an array (kind 0 byte, 1 int, 2 long, 3 boolean, 4 references; length; first cell that is referred to) -/
abbrev xw_E : Type := (Nat × List (Option Nat)) ⊕ (Nat × Nat × Nat)
def xw_i (σ : xw_M) (c j : Nat) (v : Int32) : xw_M := (fun a b => if a = c ∧ b = j then v else σ.1 a b, σ.2)
def xw_l (σ : xw_M) (c j : Nat) (v : Int64) : xw_M := (σ.1, fun a b => if a = c ∧ b = j then v else σ.2 a b)
def xw_r (σ : xw_M) (c : Nat) (f : Nat → Int32) : xw_M := (fun a => if a = c then f else σ.1 a, σ.2)
def xw_fs (q : Nat → Nat) (σ : xw_M) (c : Nat) : Nat → List (Option Nat) → List Value
  | _, [] => []
  | j, some k :: fs => .ref (q k) :: xw_fs q σ c (j + 1) fs
  | j, none :: fs => .int (σ.1 c j) :: xw_fs q σ c (j + 1) fs
def xw_ce (cy : Nat → ClassId) (q : Nat → Nat) (σ : xw_M) (c : Nat) : xw_E → va_E
  | .inl o => .inr (o.1, xw_fs q σ c 0 o.2)
  | .inr a => .inl (cy a.1, a.2.1, if a.1 = 2 then .inr (.inl (σ.2 c)) else if a.1 = 4 then .inr (.inr (.inr (.inr (fun i => some (q (a.2.2 + i)))))) else .inl (σ.1 c))
def xw_d (cy : Nat → ClassId) (lay : List xw_E) (q : Nat → Nat) (σ : xw_M) : va_W := lay.mapIdx (fun c e => (q c, xw_ce cy q σ c e))
theorem xw_at {cy : Nat → ClassId} {lay : List xw_E} {q : Nat → Nat} {σ : xw_M} {c : Nat} {e : xw_E} (h : lay[c]? = some e) : (xw_d cy lay q σ)[c]? = some (q c, xw_ce cy q σ c e) := by
  simp [xw_d, List.getElem?_mapIdx, h]
theorem xw_of {cy : Nat → ClassId} {lay : List xw_E} {q : Nat → Nat} {σ : xw_M} {c : Nat} {x : Nat × va_E} (h : (xw_d cy lay q σ)[c]? = some x) : ∃ e, lay[c]? = some e ∧ x = (q c, xw_ce cy q σ c e) := by
  simp only [xw_d, List.getElem?_mapIdx] at h
  cases hl : lay[c]? with
  | none => rw [hl] at h; simp at h
  | some e => rw [hl] at h; exact ⟨e, rfl, by simpa using h.symm⟩
theorem xw_fs_get (q : Nat → Nat) (σ : xw_M) (c : Nat) : ∀ (fs : List (Option Nat)) (j k : Nat), (xw_fs q σ c j fs)[k]? = (fs[k]?).map (fun f => match f with | some r => .ref (q r) | none => .int (σ.1 c (j + k))) := by
  intro fs
  induction fs with
  | nil => intro j k; simp [xw_fs]
  | cons f fs ih =>
    intro j k
    cases f with
    | none =>
      cases k with
      | zero => simp [xw_fs]
      | succ k => simp only [xw_fs, List.getElem?_cons_succ]; rw [ih, show j + 1 + k = j + (k + 1) by omega]
    | some r =>
      cases k with
      | zero => simp [xw_fs]
      | succ k => simp only [xw_fs, List.getElem?_cons_succ]; rw [ih, show j + 1 + k = j + (k + 1) by omega]
theorem xw_fs_len (q : Nat → Nat) (σ : xw_M) (c : Nat) : ∀ (fs : List (Option Nat)) (j : Nat), (xw_fs q σ c j fs).length = fs.length := by
  intro fs
  induction fs with
  | nil => intro j; rfl
  | cons f fs ih => intro j; cases f <;> simp [xw_fs, ih]
theorem xw_fs_ext {q : Nat → Nat} {σ τ : xw_M} {c : Nat} : ∀ (fs : List (Option Nat)) (j : Nat), (∀ k, fs[k]? = some none → σ.1 c (j + k) = τ.1 c (j + k)) → xw_fs q σ c j fs = xw_fs q τ c j fs := by
  intro fs
  induction fs with
  | nil => intro j _; rfl
  | cons f fs ih =>
    intro j h
    have h2 : xw_fs q σ c (j + 1) fs = xw_fs q τ c (j + 1) fs := ih (j + 1) (fun k hk => by
      have := h (k + 1) (by simpa using hk)
      rw [show j + 1 + k = j + (k + 1) by omega]; exact this)
    cases f with
    | none => simp only [xw_fs]; rw [h2, show σ.1 c j = τ.1 c j from h 0 (by simp)]
    | some r => simp only [xw_fs]; rw [h2]
theorem xw_fs_set {q : Nat → Nat} {σ : xw_M} {c : Nat} {v : Int32} {fs : List (Option Nat)} {k : Nat} (h : fs[k]? = some none) : (xw_fs q σ c 0 fs).set k (.int v) = xw_fs q (xw_i σ c k v) c 0 fs := by
  apply List.ext_getElem?
  intro i
  rw [List.getElem?_set, xw_fs_get, xw_fs_get, xw_fs_len]
  have hk : k < fs.length := (List.getElem?_eq_some_iff.mp h).1
  by_cases hi : k = i
  · subst hi
    rw [h]
    simp [hk, xw_i]
  · simp only [hi, if_false]
    cases hf : fs[i]? with
    | none => rfl
    | some f =>
      cases f with
      | some r => rfl
      | none => simp [xw_i, Ne.symm hi]
theorem xw_ce_ext {cy : Nat → ClassId} {q : Nat → Nat} {σ τ : xw_M} {c : Nat} (h1 : σ.1 c = τ.1 c) (h2 : σ.2 c = τ.2 c) (e : xw_E) : xw_ce cy q σ c e = xw_ce cy q τ c e := by
  cases e with
  | inl o =>
    have h3 : xw_fs q σ c 0 o.2 = xw_fs q τ c 0 o.2 := xw_fs_ext o.2 0 (fun k _ => by rw [h1])
    simp only [xw_ce, h3]
  | inr a => simp only [xw_ce, h1, h2]
/-- a cell is written: the world with the new values there -/
theorem xw_set {cy : Nat → ClassId} {lay : List xw_E} {q : Nat → Nat} {σ τ : xw_M} {c : Nat} {e : xw_E} (hl : lay[c]? = some e) {x : va_E} (hx : x = xw_ce cy q τ c e) (ho : ∀ a, a ≠ c → τ.1 a = σ.1 a ∧ τ.2 a = σ.2 a) : (xw_d cy lay q σ).set c (q c, x) = xw_d cy lay q τ := by
  apply List.ext_getElem?
  intro i
  rw [List.getElem?_set]
  have hc : c < (xw_d cy lay q σ).length := by simp [xw_d]; exact (List.getElem?_eq_some_iff.mp hl).1
  by_cases hi : c = i
  · subst hi
    rw [if_pos rfl, if_pos hc, xw_at hl, hx]
  · rw [if_neg hi]
    simp only [xw_d, List.getElem?_mapIdx]
    cases hf : lay[i]? with
    | none => rfl
    | some f =>
      have := ho i (fun h => hi h.symm)
      simp only [Option.map_some]
      rw [xw_ce_ext this.1.symm this.2.symm f]
theorem xw_seti {cy : Nat → ClassId} {lay : List xw_E} {q : Nat → Nat} {σ : xw_M} {c k : Nat} {ci : Nat} {fs : List (Option Nat)} {v : Int32} (hl : lay[c]? = some (.inl (ci, fs))) (hf : fs[k]? = some none) : (xw_d cy lay q σ).set c (q c, .inr (ci, (xw_fs q σ c 0 fs).set k (.int v))) = xw_d cy lay q (xw_i σ c k v) := by
  refine xw_set hl ?_ ?_
  · simp only [xw_ce]; rw [xw_fs_set hf]
  · intro a ha
    refine ⟨?_, rfl⟩
    funext b
    simp [xw_i, ha]
theorem xw_seta {cy : Nat → ClassId} {lay : List xw_E} {q : Nat → Nat} {σ : xw_M} {c k t n b : Nat} {v : Int32} (hl : lay[c]? = some (.inr (t, n, b))) (h2 : t ≠ 2) (h4 : t ≠ 4) : (xw_d cy lay q σ).set c (q c, .inl (cy t, n, .inl (upd (σ.1 c) k v))) = xw_d cy lay q (xw_i σ c k v) := by
  refine xw_set hl ?_ ?_
  · simp only [xw_ce, h2, h4, if_false]
    have : upd (σ.1 c) k v = (xw_i σ c k v).1 c := by
      funext j
      simp [upd, xw_i]
    rw [this]
  · intro a ha
    refine ⟨?_, rfl⟩
    funext b
    simp [xw_i, ha]
theorem xw_setr {cy : Nat → ClassId} {lay : List xw_E} {q : Nat → Nat} {σ : xw_M} {c t n b : Nat} {f : Nat → Int32} (hl : lay[c]? = some (.inr (t, n, b))) (h2 : t ≠ 2) (h4 : t ≠ 4) : (xw_d cy lay q σ).set c (q c, .inl (cy t, n, .inl f)) = xw_d cy lay q (xw_r σ c f) := by
  refine xw_set hl ?_ ?_
  · simp [xw_ce, h2, h4, xw_r]
  · intro a ha
    exact ⟨by simp [xw_r, ha], rfl⟩
theorem xw_setl {cy : Nat → ClassId} {lay : List xw_E} {q : Nat → Nat} {σ : xw_M} {c k n b : Nat} {v : Int64} (hl : lay[c]? = some (.inr (2, n, b))) : (xw_d cy lay q σ).set c (q c, .inl (cy 2, n, .inr (.inl (vp_updL (σ.2 c) k v)))) = xw_d cy lay q (xw_l σ c k v) := by
  refine xw_set hl ?_ ?_
  · simp only [xw_ce, if_true]
    have : vp_updL (σ.2 c) k v = (xw_l σ c k v).2 c := by
      funext j
      simp [vp_updL, xw_l]
    rw [this]
  · intro a ha
    refine ⟨rfl, ?_⟩
    funext b
    simp [xw_l, ha]
/-- the addresses of a layout's cells are apart -/
def xw_dj (lay : List xw_E) (q : Nat → Nat) : Prop := ∀ i j, i < lay.length → j < lay.length → q i = q j → i = j
/-- which cells may be changed: the layout's, and new ones -/
def xw_A (lay : List xw_E) (q : Nat → Nat) (sz : Nat) : Nat → Prop := fun a => (∃ k, k < lay.length ∧ q k = a) ∨ sz ≤ a
theorem xw_D {cy : Nat → ClassId} {lay : List xw_E} {q : Nat → Nat} {σ : xw_M} {sz : Nat} (h : xw_dj lay q) : va_D (xw_A lay q sz) (xw_d cy lay q σ) := by
  refine ⟨fun i j x y hx hy hxy => ?_, fun k x hx => ?_⟩
  · obtain ⟨e, h1, rfl⟩ := xw_of hx
    obtain ⟨f, h2, rfl⟩ := xw_of hy
    exact h i j (List.getElem?_eq_some_iff.mp h1).1 (List.getElem?_eq_some_iff.mp h2).1 hxy
  · obtain ⟨e, h1, rfl⟩ := xw_of hx
    exact Or.inl ⟨k, (List.getElem?_eq_some_iff.mp h1).1, rfl⟩
