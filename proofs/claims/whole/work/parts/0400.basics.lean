/-! ints by their numbers -/
theorem i_lt {x y : Int32} : x < y ↔ x.toInt < y.toInt := Int32.lt_iff_toInt_lt
theorem i_le {x y : Int32} : x ≤ y ↔ x.toInt ≤ y.toInt := Int32.le_iff_toInt_le
theorem i_eq {x y : Int32} : x = y ↔ x.toInt = y.toInt := Int32.toInt_inj.symm
theorem i_rg (x : Int32) : -2147483648 ≤ x.toInt ∧ x.toInt ≤ 2147483647 := by
  have h1 := Int32.le_toInt x
  have h2 := Int32.toInt_lt x
  omega
theorem i_nI {k : Nat} (h : k < 2 ^ 31) : (nI k).toInt = (k : Int) := nI_toInt h
theorem i_of {x : Int32} {n : Nat} (h0 : 0 ≤ x.toInt) (h1 : x.toInt < n) : ∃ k : Nat, k < n ∧ x = nI k ∧ x.toInt = k ∧ x.toNatClampNeg = k := by
  have hr := i_rg x
  refine ⟨x.toInt.toNat, by omega, ?_, by omega, rfl⟩
  rw [i_eq, i_nI (by omega)]
  omega
theorem i_in {x : Int32} {n : Nat} (h0 : 0 ≤ x.toInt) (h1 : x.toInt < n) : vp_in x n := vp_in_iff.mpr ⟨h0, h1⟩
theorem i_add {x y : Int32} (h0 : -2147483648 ≤ x.toInt + y.toInt) (h1 : x.toInt + y.toInt ≤ 2147483647) : (x + y).toInt = x.toInt + y.toInt := by
  rw [Int32.toInt_add]
  exact Int.bmod_eq_of_le (by omega) (by omega)
theorem i_sub {x y : Int32} (h0 : -2147483648 ≤ x.toInt - y.toInt) (h1 : x.toInt - y.toInt ≤ 2147483647) : (x - y).toInt = x.toInt - y.toInt := by
  rw [Int32.toInt_sub]
  exact Int.bmod_eq_of_le (by omega) (by omega)
theorem i_mul {x y : Int32} (h0 : -2147483648 ≤ x.toInt * y.toInt) (h1 : x.toInt * y.toInt ≤ 2147483647) : (x * y).toInt = x.toInt * y.toInt := by
  rw [Int32.toInt_mul]
  exact Int.bmod_eq_of_le (by omega) (by omega)
theorem i_m1 : (-1 : Int32).toInt = -1 := rfl
theorem i_0 : (0 : Int32).toInt = 0 := rfl
theorem i_1 : (1 : Int32).toInt = 1 := rfl
theorem i_2 : (2 : Int32).toInt = 2 := rfl
theorem i_3 : (3 : Int32).toInt = 3 := rfl
theorem i_4 : (4 : Int32).toInt = 4 := rfl
theorem i_5 : (5 : Int32).toInt = 5 := rfl
theorem i_6 : (6 : Int32).toInt = 6 := rfl
theorem i_9 : (9 : Int32).toInt = 9 := rfl
theorem i_10 : (10 : Int32).toInt = 10 := rfl
theorem i_11 : (11 : Int32).toInt = 11 := rfl
theorem i_12 : (12 : Int32).toInt = 12 := rfl
theorem i_20 : (20 : Int32).toInt = 20 := rfl
theorem i_63 : (63 : Int32).toInt = 63 := rfl
theorem i_99 : (99 : Int32).toInt = 99 := rfl
theorem i_200 : (200 : Int32).toInt = 200 := rfl
theorem i_1980 : (1980 : Int32).toInt = 1980 := rfl
theorem i_2000 : (2000 : Int32).toInt = 2000 := rfl
theorem i_9999 : (9999 : Int32).toInt = 9999 := rfl
/-! the class's small questions -/
theorem pA_within {σ : xw_M} {a l m : Int32} {Z : Int32 → xw_M → Prop} (h1 : l.toInt ≤ a.toInt → a.toInt ≤ m.toInt → Z 1 σ) (h0 : ¬ (l.toInt ≤ a.toInt ∧ a.toInt ≤ m.toInt) → Z 0 σ) : xu_X11_isWithin σ a l m Z := by
  unfold xu_X11_isWithin
  simp only [i_lt]
  refine ⟨fun h => ⟨by simp, h0 (by omega)⟩, fun h => ⟨fun h2 => ⟨by simp, h0 (by omega)⟩, fun h2 => ⟨by simp, h1 (by omega) (by omega)⟩⟩⟩
theorem pA_person {σ : xw_M} {a : Int32} {Z : Int32 → xw_M → Prop} (h1 : 0 ≤ a.toInt → a.toInt < 12 → Z 1 σ) (h0 : ¬ (0 ≤ a.toInt ∧ a.toInt < 12) → Z 0 σ) : xu_X11_isPerson σ a Z := by
  unfold xu_X11_isPerson
  refine pA_within (fun h2 h3 => ⟨by simp, h1 ?_ ?_⟩) (fun h => ⟨by simp, h0 ?_⟩) <;> simp only [i_0, i_11] at * <;> omega
theorem pA_day {σ : xw_M} {a : Int32} {Z : Int32 → xw_M → Prop} (h1 : 0 ≤ a.toInt → a.toInt < 10000 → Z 1 σ) (h0 : ¬ (0 ≤ a.toInt ∧ a.toInt < 10000) → Z 0 σ) : xu_X11_isDay σ a Z := by
  unfold xu_X11_isDay
  refine pA_within (fun h2 h3 => ⟨by simp, h1 ?_ ?_⟩) (fun h => ⟨by simp, h0 ?_⟩) <;> simp only [i_0, i_9999] at * <;> omega
theorem pA_show {σ : xw_M} {a : Int32} {n : Nat} (hn : σ.1 0 9 = nI n) (hn2 : n ≤ 1000) {Z : Int32 → xw_M → Prop} (h1 : 0 ≤ a.toInt → a.toInt < n → Z 1 σ) (h0 : ¬ (0 ≤ a.toInt ∧ a.toInt < n) → Z 0 σ) : xu_X11_isShow σ a Z := by
  unfold xu_X11_isShow
  have e : (σ.1 0 9 - 1).toInt = (n : Int) - 1 := by rw [hn, i_sub (by rw [i_nI (by omega), i_1]; omega) (by rw [i_nI (by omega), i_1]; omega), i_nI (by omega), i_1]
  refine pA_within (fun h2 h3 => ⟨by simp, h1 ?_ ?_⟩) (fun h => ⟨by simp, h0 ?_⟩) <;> simp only [i_0, e] at * <;> omega
theorem pA_breed {σ : xw_M} {a : Int32} {n : Nat} (hn : σ.1 4 11 = nI n) (hn2 : n ≤ 1000) {Z : Int32 → xw_M → Prop} (h1 : 0 ≤ a.toInt → a.toInt < n → Z 1 σ) (h0 : ¬ (0 ≤ a.toInt ∧ a.toInt < n) → Z 0 σ) : xu_X11_isBreed σ a Z := by
  unfold xu_X11_isBreed
  have e : (σ.1 4 11 - 1).toInt = (n : Int) - 1 := by rw [hn, i_sub (by rw [i_nI (by omega), i_1]; omega) (by rw [i_nI (by omega), i_1]; omega), i_nI (by omega), i_1]
  refine pA_within (fun h2 h3 => ⟨by simp, h1 ?_ ?_⟩) (fun h => ⟨by simp, h0 ?_⟩) <;> simp only [i_0, e] at * <;> omega
theorem pA_dog {σ : xw_M} {a : Int32} {n : Nat} (hn : σ.1 4 12 = nI n) (hn2 : n ≤ 1000) {Z : Int32 → xw_M → Prop} (h1 : 0 ≤ a.toInt → a.toInt < n → Z 1 σ) (h0 : ¬ (0 ≤ a.toInt ∧ a.toInt < n) → Z 0 σ) : xu_X11_isDog σ a Z := by
  unfold xu_X11_isDog
  have e : (σ.1 4 12 - 1).toInt = (n : Int) - 1 := by rw [hn, i_sub (by rw [i_nI (by omega), i_1]; omega) (by rw [i_nI (by omega), i_1]; omega), i_nI (by omega), i_1]
  refine pA_within (fun h2 h3 => ⟨by simp, h1 ?_ ?_⟩) (fun h => ⟨by simp, h0 ?_⟩) <;> simp only [i_0, e] at * <;> omega
theorem pA_known {σ : xw_M} {a : Int32} {n : Nat} (hn : σ.1 5 6 = nI n) (hn2 : n ≤ 1000) {Z : Int32 → xw_M → Prop} (h1 : 0 ≤ a.toInt → a.toInt ≤ n → Z 1 σ) (h0 : ¬ (0 ≤ a.toInt ∧ a.toInt ≤ n) → Z 0 σ) : xu_X11_isKnown σ a Z := by
  unfold xu_X11_isKnown
  have e : (σ.1 5 6).toInt = (n : Int) := by rw [hn, i_nI (by omega)]
  refine pA_within (fun h2 h3 => ⟨by simp, h1 ?_ ?_⟩) (fun h => ⟨by simp, h0 ?_⟩) <;> simp only [i_0, e] at * <;> omega
/-! the reference's -/
theorem pB_person {τ : xw_M} {a : Int32} {Z : Int32 → xw_M → Prop} (h1 : 0 ≤ a.toInt → a.toInt < 12 → Z 1 τ) (h0 : ¬ (0 ≤ a.toInt ∧ a.toInt < 12) → Z 0 τ) : xu_X12_isPerson τ a Z := by
  unfold xu_X12_isPerson
  simp only [i_lt, i_le, i_0, i_12]
  refine ⟨fun h => ⟨by simp, h0 (by omega)⟩, fun h => ⟨fun h2 => ⟨by simp, h0 (by omega)⟩, fun h2 => ⟨by simp, h1 (by omega) (by omega)⟩⟩⟩
theorem pB_day {τ : xw_M} {a : Int32} {Z : Int32 → xw_M → Prop} (h1 : 0 ≤ a.toInt → a.toInt < 10000 → Z 1 τ) (h0 : ¬ (0 ≤ a.toInt ∧ a.toInt < 10000) → Z 0 τ) : xu_X12_isDay τ a Z := by
  unfold xu_X12_isDay
  simp only [i_lt, i_le, i_0, i_9999]
  refine ⟨fun h => ⟨by simp, h0 (by omega)⟩, fun h => ⟨fun h2 => ⟨by simp, h0 (by omega)⟩, fun h2 => ⟨by simp, h1 (by omega) (by omega)⟩⟩⟩
theorem pB_show {τ : xw_M} {a : Int32} {n : Nat} (hn : τ.1 0 53 = nI n) (hn2 : n ≤ 1000) {Z : Int32 → xw_M → Prop} (h1 : 0 ≤ a.toInt → a.toInt < n → Z 1 τ) (h0 : ¬ (0 ≤ a.toInt ∧ a.toInt < n) → Z 0 τ) : xu_X12_isShow τ a Z := by
  unfold xu_X12_isShow
  have e : (τ.1 0 53).toInt = (n : Int) := by rw [hn, i_nI (by omega)]
  simp only [i_lt, i_le, i_0, e]
  refine ⟨fun h => ⟨by simp, h0 (by omega)⟩, fun h => ⟨fun h2 => ⟨by simp, h0 (by omega)⟩, fun h2 => ⟨by simp, h1 (by omega) (by omega)⟩⟩⟩
theorem pB_breed {τ : xw_M} {a : Int32} {n : Nat} (hn : τ.1 0 42 = nI n) (hn2 : n ≤ 1000) {Z : Int32 → xw_M → Prop} (h1 : 0 ≤ a.toInt → a.toInt < n → Z 1 τ) (h0 : ¬ (0 ≤ a.toInt ∧ a.toInt < n) → Z 0 τ) : xu_X12_isBreed τ a Z := by
  unfold xu_X12_isBreed
  have e : (τ.1 0 42).toInt = (n : Int) := by rw [hn, i_nI (by omega)]
  simp only [i_lt, i_le, i_0, e]
  refine ⟨fun h => ⟨by simp, h0 (by omega)⟩, fun h => ⟨fun h2 => ⟨by simp, h0 (by omega)⟩, fun h2 => ⟨by simp, h1 (by omega) (by omega)⟩⟩⟩
theorem pB_dog {τ : xw_M} {a : Int32} {n : Nat} (hn : τ.1 0 47 = nI n) (hn2 : n ≤ 1000) {Z : Int32 → xw_M → Prop} (h1 : 0 ≤ a.toInt → a.toInt < n → Z 1 τ) (h0 : ¬ (0 ≤ a.toInt ∧ a.toInt < n) → Z 0 τ) : xu_X12_isDog τ a Z := by
  unfold xu_X12_isDog
  have e : (τ.1 0 47).toInt = (n : Int) := by rw [hn, i_nI (by omega)]
  simp only [i_lt, i_le, i_0, e]
  refine ⟨fun h => ⟨by simp, h0 (by omega)⟩, fun h => ⟨fun h2 => ⟨by simp, h0 (by omega)⟩, fun h2 => ⟨by simp, h1 (by omega) (by omega)⟩⟩⟩
theorem pB_known {τ : xw_M} {a : Int32} {n : Nat} (hn : τ.1 0 56 = nI n) (hn2 : n ≤ 1000) {Z : Int32 → xw_M → Prop} (h1 : 0 ≤ a.toInt → a.toInt ≤ n → Z 1 τ) (h0 : ¬ (0 ≤ a.toInt ∧ a.toInt ≤ n) → Z 0 τ) : xu_X12_isKnown τ a Z := by
  unfold xu_X12_isKnown
  have e : (τ.1 0 56).toInt = (n : Int) := by rw [hn, i_nI (by omega)]
  simp only [i_lt, i_le, i_0, e]
  refine ⟨fun h => ⟨by simp, h0 (by omega)⟩, fun h => ⟨fun h2 => ⟨by simp, h0 (by omega)⟩, fun h2 => ⟨by simp, h1 (by omega) (by omega)⟩⟩⟩
