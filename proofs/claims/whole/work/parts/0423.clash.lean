/-! the lowest bit -/
theorem z_odd (q j : Nat) (hq : q % 2 = 1) : (q - 1).testBit j = (decide (0 < j) && q.testBit j) := by
  cases j with
  | zero => simp [Nat.testBit_zero]; omega
  | succ j =>
    rw [Nat.testBit_succ, Nat.testBit_succ, show (q - 1) / 2 = q / 2 by omega]
    simp
theorem z_low {a : Int32} {k : Nat} (hk : k < 32) (h1 : bt a k = true) (h0 : ∀ j, j < k → bt a j = false) : (a ^^^ -1) &&& (a - 1) = nI (2 ^ k - 1) := by
  have hn : ∀ i, bt a i = a.toBitVec.toNat.testBit i := fun i => rfl
  have hlt : a.toBitVec.toNat < 2 ^ 32 := a.toBitVec.isLt
  have ea : a = nI a.toBitVec.toNat := by
    apply b_ext
    intro i hi
    rw [c_bits _ hlt i hi]
    rfl
  generalize a.toBitVec.toNat = n at *
  have hm : n % 2 ^ k = 0 := by
    apply Nat.eq_of_testBit_eq
    intro i
    rw [Nat.testBit_mod_two_pow, Nat.zero_testBit]
    by_cases c : i < k
    · rw [← hn, h0 i c]; simp
    · simp [c]
  obtain ⟨q, rfl⟩ : ∃ q, n = 2 ^ k * q := ⟨n / 2 ^ k, by have := Nat.div_add_mod n (2 ^ k); omega⟩
  have p : 0 < 2 ^ k := Nat.two_pow_pos k
  have hq : q % 2 = 1 := by
    rw [hn, Nat.testBit_two_pow_mul] at h1
    simp [Nat.testBit_zero] at h1
    exact h1
  have q0 : 0 < q := by omega
  have e1 : a - 1 = nI (2 ^ k * (q - 1) + (2 ^ k - 1)) := by
    rw [ea, show (1 : Int32) = nI 1 from rfl, pk_sub (by have := Nat.mul_pos p q0; omega)]
    congr 1
    have : 2 ^ k * q = 2 ^ k * (q - 1) + 2 ^ k := by
      conv => lhs; rw [show q = (q - 1) + 1 by omega]
      rw [Nat.mul_add, Nat.mul_one]
    omega
  have l1 : 2 ^ k * (q - 1) + (2 ^ k - 1) < 2 ^ 32 := by
    have : 2 ^ k * q = 2 ^ k * (q - 1) + 2 ^ k := by
      conv => lhs; rw [show q = (q - 1) + 1 by omega]
      rw [Nat.mul_add, Nat.mul_one]
    omega
  have l2 : 2 ^ k - 1 < 2 ^ 32 := by
    have := Nat.pow_lt_pow_right (a := 2) (by decide) hk
    omega
  apply b_ext
  intro i hi
  rw [b_and, b_xor, b_m1 i hi, e1, c_bits _ l1 i hi, c_bits _ l2 i hi, hn, Nat.testBit_two_pow_mul_add _ (by omega), Nat.testBit_two_pow_sub_one, Nat.testBit_two_pow_mul]
  by_cases c : i < k
  · simp [c, Nat.not_le.mpr c]
  · rw [if_neg c, z_odd q _ hq]
    simp [c, Nat.not_lt.mp c]
    intro g
    rcases Nat.lt_or_eq_of_le (Nat.not_lt.mp c) with c2 | c2
    · intro _; exact g
    · intro z; omega
def j_62 (v0 v1 : Int32) : Int32 := if v0 ≤ 4 then v1 + ((Int32.toUInt32 v0 >>> (Int32.toUInt32 (1 : Int32) &&& Int32.toUInt32 31)).toInt32) else (v1 + 2) + ((Int32.toUInt32 ((Int32.toUInt32 v0 >>> (Int32.toUInt32 (2 : Int32) &&& Int32.toUInt32 31)).toInt32) >>> (Int32.toUInt32 (1 : Int32) &&& Int32.toUInt32 31)).toInt32)
def j_34 (v0 v1 : Int32) : Int32 := if v0 ≤ 256 then (if v0 ≤ 16 then j_62 v0 v1 else j_62 ((Int32.toUInt32 v0 >>> (Int32.toUInt32 (4 : Int32) &&& Int32.toUInt32 31)).toInt32) (v1 + 4)) else (if ((Int32.toUInt32 v0 >>> (Int32.toUInt32 (8 : Int32) &&& Int32.toUInt32 31)).toInt32) ≤ 16 then j_62 ((Int32.toUInt32 v0 >>> (Int32.toUInt32 (8 : Int32) &&& Int32.toUInt32 31)).toInt32) (v1 + 8) else j_62 ((Int32.toUInt32 ((Int32.toUInt32 v0 >>> (Int32.toUInt32 (8 : Int32) &&& Int32.toUInt32 31)).toInt32) >>> (Int32.toUInt32 (4 : Int32) &&& Int32.toUInt32 31)).toInt32) ((v1 + 8) + 4))
def j_e (x : Int32) : Int32 := if 0 < x then (if x ≤ 65536 then j_34 x 1 else j_34 ((Int32.toUInt32 x >>> (Int32.toUInt32 (16 : Int32) &&& Int32.toUInt32 31)).toInt32) (1 + 16)) else x &&& 32
theorem j_all : ∀ k, k < 31 → j_e (nI (2 ^ k - 1)) = nI k := by decide +kernel
theorem qJ_ntz {σ : xw_M} {a : Int32} {k : Nat} {Z : Int32 → xw_M → Prop} (hk : k < 31) (h1 : bt a k = true) (h0 : ∀ j, j < k → bt a j = false) (h : Z (nI k) σ) : xu_J6_numberOfTrailingZeros_0f7a4 σ a Z := by
  intro K34 K62 h34 h62
  have s62 : ∀ v0 v1, Z (j_62 v0 v1) σ → K62 σ v0 v1 := by
    intro v0 v1 hz
    apply h62
    unfold j_62 at hz
    refine ⟨fun c => ?_, fun c x e => ?_⟩
    · rw [if_pos c] at hz; exact hz
    · rw [if_neg c] at hz; rw [e]; exact hz
  have s34 : ∀ v0 v1, Z (j_34 v0 v1) σ → K34 σ v0 v1 := by
    intro v0 v1 hz
    apply h34
    unfold j_34 at hz
    refine ⟨fun c => ?_, fun c x e => ?_⟩
    · rw [if_pos c] at hz
      refine ⟨fun c2 => s62 _ _ ?_, fun c2 x e => s62 _ _ ?_⟩
      · rw [if_pos c2] at hz; exact hz
      · rw [if_neg c2] at hz; rw [e]; exact hz
    · rw [if_neg c, ← e] at hz
      refine ⟨fun c2 => s62 _ _ ?_, fun c2 y e2 => s62 _ _ ?_⟩
      · rw [if_pos c2] at hz; exact hz
      · rw [if_neg c2] at hz; rw [e2]; exact hz
  rw [← j_all k hk] at h
  intro x e
  rw [z_low (by omega) h1 h0] at e
  rw [← e] at h
  unfold j_e at h
  refine ⟨fun c => ?_, fun c => ?_⟩
  · rw [if_pos c] at h
    refine ⟨fun c2 => s34 _ _ ?_, fun c2 y e2 => s34 _ _ ?_⟩
    · rw [if_pos c2] at h; exact h
    · rw [if_neg c2] at h; rw [e2]; exact h
  · rw [if_neg c] at h; exact h
theorem bt_zero (y : Int32) : y &&& 1 = 0 ↔ bt y 0 = false := by
  constructor
  · intro h
    have h2 := congrArg (fun z => bt z 0) h
    simp only [b_and, bt_1 0 (by decide), b_0] at h2
    simpa using h2
  · intro h
    apply b_ext
    intro i hi
    rw [b_and, bt_1 i hi, b_0]
    by_cases h0 : i = 0
    · subst h0; simp [h]
    · simp [h0]
theorem bt_test0 (x : Int32) {q : Nat} (hq : q < 32) : (x >>> (nI q &&& 31)) &&& 1 = 0 ↔ bt x q = false := by
  rw [bt_zero, b_sshr q hq x (by decide), if_pos (by omega)]
  simp
theorem qB_least {τ : xw_M} {a : Int32} {k : Nat} {Z : Int32 → xw_M → Prop} (hk : k < 32) (h1 : bt a k = true) (h0 : ∀ j, j < k → bt a j = false) (h : Z (nI k) τ) : xu_X12_least τ a Z := by
  intro K hK
  have key : ∀ (j i : Nat), i + j = k → K τ (nI i) := by
    intro j
    induction j with
    | zero =>
      intro i hi
      obtain rfl : i = k := by omega
      apply hK
      refine ⟨fun _ => h, fun z => ?_⟩
      rw [bt_test0 a hk, h1] at z
      exact absurd z (by decide)
    | succ j ih =>
      intro i hi
      apply hK
      refine ⟨fun z => absurd ((bt_test0 a (by omega)).mpr (h0 i (by omega))) z, fun _ => ?_⟩
      rw [nI_1]
      exact ih (i + 1) (by omega)
  exact key k 0 (by omega)
theorem b_low {a : Int32} (h : ¬ a = 0) : ∃ k, k < 32 ∧ bt a k = true ∧ ∀ j, j < k → bt a j = false := by
  have ex : ∃ k, k < 32 ∧ bt a k = true := by
    refine Classical.byContradiction fun no => h (b_ext fun i hi => ?_)
    rw [b_0]
    cases hq : bt a i
    · rfl
    · exact absurd ⟨i, hi, hq⟩ no
  obtain ⟨k, ⟨k1, k2⟩, k3⟩ := pk_least (fun k => k < 32 ∧ bt a k = true) ex
  refine ⟨k, k1, k2, fun j hj => ?_⟩
  cases hq : bt a j
  · rfl
  · exact absurd ⟨by omega, hq⟩ (k3 j hj)
/-! HANDLERS -/
def m_hs (hd : Nat → Int32) (P : Nat → Bool) : Nat → Int32
  | 0 => 0
  | d + 1 => if P d then m_hs hd P d ||| ((1 : Int32) <<< (hd d &&& 31)) else m_hs hd P d
theorem m_hs_cong {hd hd' : Nat → Int32} {P P' : Nat → Bool} : ∀ {n : Nat}, (∀ d, d < n → hd d = hd' d ∧ P d = P' d) → m_hs hd P n = m_hs hd' P' n
  | 0, _ => rfl
  | n + 1, h => by
    simp only [m_hs]
    rw [m_hs_cong (fun d hd => h d (by omega)), (h n (by omega)).1, (h n (by omega)).2]
theorem m_hs_bit {hd : Nat → Int32} {P : Nat → Bool} : ∀ {n : Nat}, (∀ d, d < n → ∃ k : Nat, k < 12 ∧ hd d = nI k) → ∀ i, 12 ≤ i → i < 32 → bt (m_hs hd P n) i = false
  | 0, _, i, _, _ => b_0 i
  | n + 1, h, i, h1, h2 => by
    have ih := m_hs_bit (P := P) (n := n) (fun d hd => h d (by omega)) i h1 h2
    obtain ⟨k, hk, ek⟩ := h n (by omega)
    simp only [m_hs]
    split
    · rw [ek, bt_set _ (by omega) h2, ih, decide_eq_false (by omega)]; rfl
    · exact ih
theorem qA_ofBreed {σ : xw_M} {nd b : Nat} {x : Int32} {br : Nat → Nat} {Z : Int32 → xw_M → Prop} (hn : σ.1 4 12 = nI nd) (hnd : nd ≤ 20) (hb : b < 100) (hbr : ∀ d, d < nd → br d < 100 ∧ σ.1 34 d = nI (br d)) (h : ∀ y, (∀ i, i < 32 → bt y i = (decide (i < nd) && (decide (br i = b) && bt x i))) → Z y σ) : xu_X2_ofBreed σ x (nI b) Z := by
  intro K hK
  have key : ∀ (j d : Nat) (y : Int32), d + j = nd → (∀ i, i < 32 → bt y i = (decide (i < d) && (decide (br i = b) && bt x i))) → K σ y (nI d) := by
    intro j
    induction j with
    | zero =>
      intro d y hd hy
      obtain rfl : d = nd := by omega
      apply hK
      unfold xb_X2_ofBreed_5
      rw [hn]
      exact ⟨fun _ => h y hy, fun z => absurd (nI_le (Nat.le_refl d) (by omega)) z⟩
    | succ j ih =>
      intro d y hd hy
      apply hK
      unfold xb_X2_ofBreed_5
      obtain ⟨c1, c2⟩ := hbr d (by omega)
      rw [hn, nI_clamp (n := d) (by omega), c2, nI_1]
      refine ⟨fun z => absurd z (nI_ge (by omega) (by omega)), fun _ => ⟨vp_in_nI (by omega) (by decide), fun z => ?_, fun z y2 e2 => ?_⟩⟩
      · refine ih (d + 1) y (by omega) (fun i hi => ?_)
        rw [hy i hi]
        by_cases c : i = d
        · subst c
          have : ¬ br i = b := fun q => z (by rw [q])
          simp [this]
        · by_cases c3 : i < d
          · simp [c3, show i < d + 1 by omega]
          · simp [c3, show ¬ i < d + 1 by omega]
      · refine ih (d + 1) y2 (by omega) (fun i hi => ?_)
        have eb : br d = b := (nI_eq (by omega) (by omega)).mp z
        rw [e2, b_or, b_and, b_shl d (by omega) 1 hi, bt_1 (i - d) (by omega), hy i hi]
        by_cases c : i = d
        · subst c
          simp [eb]
        · by_cases c3 : i < d
          · simp [c3, show i < d + 1 by omega, show ¬ d ≤ i by omega]
          · simp [c3, show ¬ i < d + 1 by omega, show ¬ i - d = 0 by omega]
  exact key nd 0 0 (by omega) (fun i hi => by simp [b_0])
theorem qA_handlers {σ : xw_M} {nd : Nat} {x : Int32} {P : Nat → Bool} {Z : Int32 → xw_M → Prop} (hn : σ.1 4 12 = nI nd) (hnd : nd ≤ 20) (hP : ∀ d, d < nd → bt x d = P d) (h : Z (m_hs (σ.1 38) P nd) σ) : xu_X2_handlersOf σ x Z := by
  intro K hK
  have key : ∀ (j d : Nat), d + j = nd → K σ (m_hs (σ.1 38) P d) (nI d) := by
    intro j
    induction j with
    | zero =>
      intro d hd
      obtain rfl : d = nd := by omega
      apply hK
      unfold xb_X2_handlersOf_4
      rw [hn]
      exact ⟨fun _ => h, fun z => absurd (nI_le (Nat.le_refl d) (by omega)) z⟩
    | succ j ih =>
      intro d hd
      apply hK
      unfold xb_X2_handlersOf_4
      have next := ih (d + 1) (by omega)
      simp only [m_hs] at next
      have e := hP d (by omega)
      rw [hn, nI_clamp (n := d) (by omega), nI_1]
      refine ⟨fun z => absurd z (nI_ge (by omega) (by omega)), fun _ => ⟨fun z => ?_, fun z => ⟨vp_in_nI (by omega) (by decide), fun x2 e2 => ?_⟩⟩⟩
      · rw [bt_test x (by omega), e] at z
        rw [if_neg z] at next
        exact next
      · rw [bt_test x (by omega), e] at z
        rw [if_pos z] at next
        rw [e2]
        exact next
  exact key nd 0 (by omega)
theorem qB_handlers {τ : xw_M} {s b nd : Nat} {P : Nat → Bool} {Z : Int32 → xw_M → Prop} (hn : τ.1 0 47 = nI nd) (hnd : nd ≤ 20) (hs : s < 5) (hP : ∀ d, d < nd → (P d = true ↔ (¬ τ.1 37 (20 * s + d) = 0 ∧ τ.1 31 d = nI b))) (h : Z (m_hs (τ.1 35) P nd) τ) : xu_X12_handlersOf τ (nI s) (nI b) Z := by
  intro K hK
  have key : ∀ (j d : Nat), d + j = nd → K τ (m_hs (τ.1 35) P d) (nI d) := by
    intro j
    induction j with
    | zero =>
      intro d hd
      obtain rfl : d = nd := by omega
      apply hK
      unfold xb_X12_handlersOf_5
      rw [hn]
      exact ⟨fun _ => h, fun z => absurd (nI_le (Nat.le_refl d) (by omega)) z⟩
    | succ j ih =>
      intro d hd
      apply hK
      unfold xb_X12_handlersOf_5
      have next := ih (d + 1) (by omega)
      simp only [m_hs] at next
      have e := hP d (by omega)
      have vd : vp_in (nI d) 20 := vp_in_nI (by omega) (by decide)
      rw [hn, ix20, nI_clamp (n := 20 * s + d) (by omega), nI_clamp (n := d) (by omega), nI_1]
      refine ⟨fun z => absurd z (nI_ge (by omega) (by omega)), fun _ => ⟨vp_in_nI (by omega) (by decide), fun z => ?_, fun z => ⟨vd, fun z2 => ?_, fun z2 => ⟨vd, fun x2 e2 => ?_⟩⟩⟩⟩
      · rw [if_neg (fun q => (e.mp q).1 z)] at next
        exact next
      · rw [if_neg (fun q => z2 (e.mp q).2)] at next
        exact next
      · rw [if_pos (e.mpr ⟨z, z2⟩)] at next
        rw [e2]
        exact next
  exact key nd 0 (by omega)
def m_hp (σ : xw_M) (s b d : Nat) : Bool := m_ent σ s d && decide (m_br σ d = b)
def m_han (σ : xw_M) (s b nd : Nat) : Int32 := m_hs (σ.1 38) (m_hp σ s b) nd
section HAND
variable {σ0 τ0 : xw_M} {nb nd ns nf live nr sz : Nat} {F : Nat → tU}
theorem m_hpB (H : m_C σ0 τ0 nb nd ns nf live nr sz F) {s b d : Nat} (hs : s < ns) (hb : b < 100) (hd : d < nd) : m_hp σ0 s b d = true ↔ (¬ τ0.1 37 (20 * s + d) = 0 ∧ τ0.1 31 d = nI b) := by
  obtain ⟨m1, m2, m3⟩ := m_brk H hd
  obtain ⟨-, -, -, ⟨k1, -⟩, -⟩ := id H
  rw [m_entB H hs hd, m3]
  unfold m_hp
  rw [Bool.and_eq_true, decide_eq_true_iff, nI_eq (by omega) (by omega)]
  refine and_congr ?_ Iff.rfl
  cases m_ent σ0 s d <;> simp [t_b]
theorem m_hanB (H : m_C σ0 τ0 nb nd ns nf live nr sz F) {s b : Nat} : m_hs (τ0.1 35) (m_hp σ0 s b) nd = m_han σ0 s b nd := by
  obtain ⟨-, -, -, -, ⟨q1, q2, q3, q4⟩, -⟩ := H
  exact m_hs_cong (fun d hd => ⟨(q4 d hd).2.2.2.2.1.symm, rfl⟩)
theorem m_han12 (H : m_C σ0 τ0 nb nd ns nf live nr sz F) {s b : Nat} : ∀ i, 12 ≤ i → i < 32 → bt (m_han σ0 s b nd) i = false := by
  obtain ⟨-, -, -, -, ⟨q1, q2, q3, q4⟩, -⟩ := H
  exact m_hs_bit (fun d hd => (q4 d hd).2.2.2.2.2.2.2.2.2.2.2)
/-- what the class calls for the HANDLERS of a BREED's ENTRIES -/
theorem qA_han {σ : xw_M} {s b : Nat} {x : Int32} {W : Int32 → xw_M → Prop} (H : m_C σ0 τ0 nb nd ns nf live nr sz F) (e4 : σ.1 4 = σ0.1 4) (e34 : σ.1 34 = σ0.1 34) (e38 : σ.1 38 = σ0.1 38) (hx : x = σ0.1 (11 + s) 3) (hb : b < 100) (h : W (m_han σ0 s b nd) σ) : xu_X2_ofBreed σ x (nI b) (fun y σ1 => xu_X2_handlersOf σ1 y W) := by
  obtain ⟨-, -, -, ⟨k1, -⟩, ⟨q1, q2, q3, q4⟩, -⟩ := id H
  refine qA_ofBreed (nd := nd) (br := m_br σ0) (by rw [e4]; exact q2) q1 hb (fun d hd => ?_) (fun y hy => ?_)
  · obtain ⟨m1, m2, m3⟩ := m_brk H hd
    rw [e34]
    exact ⟨by omega, m2⟩
  · refine qA_handlers (P := m_hp σ0 s b) (by rw [e4]; exact q2) q1 (fun d hd => ?_) ?_
    · rw [hy d (by omega), hx]
      unfold m_hp m_ent
      simp [hd, Bool.and_comm]
    · rw [e38]
      exact h
theorem qB_han {τ : xw_M} {s b : Nat} {W : Int32 → xw_M → Prop} (H : m_C σ0 τ0 nb nd ns nf live nr sz F) (e0 : τ.1 0 47 = τ0.1 0 47) (e37 : τ.1 37 = τ0.1 37) (e31 : τ.1 31 = τ0.1 31) (e35 : τ.1 35 = τ0.1 35) (hs : s < ns) (hb : b < 100) (h : W (m_han σ0 s b nd) τ) : xu_X12_handlersOf τ (nI s) (nI b) W := by
  obtain ⟨-, -, -, -, ⟨q1, q2, q3, q4⟩, ⟨p1, -⟩, -⟩ := id H
  refine qB_handlers (P := m_hp σ0 s b) (by rw [e0]; exact q3) q1 (by omega) (fun d hd => ?_) ?_
  · rw [e37, e31]
    exact m_hpB H hs hb hd
  · rw [e35, m_hanB H]
    exact h
end HAND
def m_ovl (σ : xw_M) (o b : Nat) (m e : Int32) : Bool := decide (¬ σ.1 (66 + o) (4 * b + 1) = -1) && (decide (σ.1 (66 + o) (4 * b + 2) < e) && decide (m < σ.1 (66 + o) (4 * b + 3)))
theorem pA_over {σ : xw_M} {o b : Nat} {m e : Int32} {Z : Int32 → xw_M → Prop} (hb : b < 6) (h1 : m_ovl σ o b m e = true → Z 1 σ) (h0 : m_ovl σ o b m e = false → Z 0 σ) : xu_X10_overlaps σ o (nI b) m e Z := by
  have c1 : (nI b * (4 : Int32) + (1 : Int32)).toNatClampNeg = 4 * b + 1 := by rw [show (1 : Int32) = nI 1 from rfl, ix4]; exact nI_clamp (by omega)
  have c2 : (nI b * (4 : Int32) + (2 : Int32)).toNatClampNeg = 4 * b + 2 := by rw [show (2 : Int32) = nI 2 from rfl, ix4]; exact nI_clamp (by omega)
  have c3 : (nI b * (4 : Int32) + (3 : Int32)).toNatClampNeg = 4 * b + 3 := by rw [show (3 : Int32) = nI 3 from rfl, ix4]; exact nI_clamp (by omega)
  have v1 : vp_in (nI b * (4 : Int32) + (1 : Int32)) 24 := by rw [show (1 : Int32) = nI 1 from rfl, ix4]; exact vp_in_nI (by omega) (by decide)
  have v2 : vp_in (nI b * (4 : Int32) + (2 : Int32)) 24 := by rw [show (2 : Int32) = nI 2 from rfl, ix4]; exact vp_in_nI (by omega) (by decide)
  have v3 : vp_in (nI b * (4 : Int32) + (3 : Int32)) 24 := by rw [show (3 : Int32) = nI 3 from rfl, ix4]; exact vp_in_nI (by omega) (by decide)
  unfold xu_X10_overlaps
  rw [c1, c2, c3]
  refine ⟨fun z => absurd z (nI_pos (by omega)), fun _ => ⟨fun _ => ⟨v1, fun z => ⟨by simp, h0 ?_⟩, fun z1 => ⟨v2, fun z => ⟨by simp, h0 ?_⟩, fun z2 => ⟨v3, fun z => ⟨by simp, h0 ?_⟩, fun z3 => ⟨by simp, h1 ?_⟩⟩⟩⟩, fun z => absurd (nI_lt (b := 6) hb (by decide)) z⟩⟩
  · simp [m_ovl, z]
  · have : ¬ σ.1 (66 + o) (4 * b + 2) < e := by rw [i_lt]; rw [i_le] at z; omega
    simp [m_ovl, this]
  · have : ¬ m < σ.1 (66 + o) (4 * b + 3) := by rw [i_lt]; rw [i_le] at z; omega
    simp [m_ovl, this]
  · have g2 : σ.1 (66 + o) (4 * b + 2) < e := by rw [i_lt]; rw [i_le] at z2; omega
    have g3 : m < σ.1 (66 + o) (4 * b + 3) := by rw [i_lt]; rw [i_le] at z3; omega
    simp [m_ovl, z1, g2, g3]
def m_oth (σ : xw_M) (s k nd : Nat) (m e : Int32) : Nat → Int32
  | 0 => 0
  | b + 1 => if b ≠ k ∧ m_ovl σ s b m e = true then m_oth σ s k nd m e b ||| m_han σ s b nd else m_oth σ s k nd m e b
def m_cl (σ : xw_M) (s k nb nd : Nat) (m : Int32) : Int32 := m_han σ s k nd &&& m_oth σ s k nd m (m + σ.1 (66 + s) (4 * k + 3) - σ.1 (66 + s) (4 * k + 2)) nb
theorem s_clash : ∀ σ τ, r_R tX σ τ → ∀ a0 a1 a2 : Int32, xu_X11_clash σ a0 a1 a2 (fun r σ1 => xu_X12_clash τ a0 a1 a2 (fun r2 τ1 => r = r2 ∧ r_R tX σ1 τ1)) := by
  intro σ τ hR a b m
  obtain ⟨nb, nd, ns, nf, live, nr, sz, F, H⟩ := r_R_C hR
  obtain ⟨-, -, -, ⟨q1, q2, q3, q4⟩, ⟨d1, d2, d3, d4⟩, ⟨p1, p2, p3, -⟩, -, h10, -⟩ := id H
  have none_ : (¬ (0 ≤ a.toInt ∧ a.toInt < ns) ∨ ¬ (0 ≤ b.toInt ∧ b.toInt < nb) ∨ ¬ (0 ≤ m.toInt ∧ m.toInt ≤ 9999)) → xu_X12_clash τ a b m (fun r2 τ1 => -1 = r2 ∧ r_R tX σ τ1) := by
    intro no K hK
    refine pB_isPlanned p3 p1 q3 q1 (fun s k hs hk ea eb hj => ⟨fun z => absurd z (by decide), fun _ => ?_⟩) (fun _ => ⟨fun _ => ⟨rfl, hR⟩, fun z => absurd rfl z⟩)
    have hc : ¬ (0 ≤ m.toInt ∧ m.toInt ≤ 9999) := by
      rw [ea, eb, i_nI (by omega), i_nI (by omega)] at no
      omega
    refine ⟨fun _ => ⟨rfl, hR⟩, fun z => ⟨fun z2 => absurd hc ?_, fun _ => ⟨rfl, hR⟩⟩⟩
    rw [i_lt, i_0] at z
    rw [i_le, i_9999] at z2
    omega
  refine pA_show p2 (by omega) (fun a1 a2 => ⟨fun g => absurd g (by decide), fun _ => ?_⟩) (fun g => ⟨fun _ => none_ (Or.inl g), fun z => absurd rfl z⟩)
  refine pA_breed q2 (by omega) (fun b1 b2 => ⟨fun g => absurd g (by decide), fun _ => ?_⟩) (fun g => ⟨fun _ => none_ (Or.inr (Or.inl g)), fun z => absurd rfl z⟩)
  refine pA_within (fun c1 c2 => ⟨fun _ => ⟨i_in a1 (by omega), ?_⟩, fun g => absurd g (by decide)⟩) (fun g => ⟨fun z => absurd rfl z, fun _ => none_ (Or.inr (Or.inr (by simpa only [i_0, i_9999] using g)))⟩)
  rw [i_0] at c1
  rw [i_9999] at c2
  obtain ⟨s, hs, rfl, -, es⟩ := i_of (n := ns) a1 a2
  obtain ⟨k, hk, rfl, ek, -⟩ := i_of (n := nb) b1 b2
  rw [es]
  have pl := h10 s (by omega)
  have jd := fun o ho => m_judk H (s := s) (b := o) (by omega) ho
  intro K hK
  refine pA_has (by omega) (fun y => ⟨fun _ => ?_, fun z => absurd z (by decide)⟩) (fun y => ⟨fun z => absurd rfl z, fun _ => ⟨fun z => absurd rfl z, fun _ => ?_⟩⟩)
  · refine pA_at (w := 3) (by omega) (by decide) (pA_at (w := 2) (by omega) (by decide) ?_)
    refine qA_han H rfl rfl rfl rfl (by omega) ?_
    have fin : ∀ X : Int32 → xw_M → Prop, (m_cl σ s k nb nd m = 0 → X (-1) τ) → (∀ i, i < 32 → bt (m_cl σ s k nb nd m) i = true → (∀ j, j < i → bt (m_cl σ s k nb nd m) j = false) → X (nI i) τ) → xu_X12_clash τ (nI s) (nI k) m X := by
      intro X x0 x1 K hK
      refine pB_isPlanned p3 p1 q3 q1 (fun s' k' hs' hk' ea eb hj => ⟨fun z => absurd z (by decide), fun _ => ?_⟩) (fun no => ?_)
      · obtain rfl : s = s' := (nI_eq (by omega) (by omega)).mp ea
        obtain rfl : k = k' := (nI_eq (by omega) (by omega)).mp eb
        have vx : vp_in ((6 : Int32) * nI s + nI k) 30 := by rw [ix6]; exact vp_in_nI (by omega) (by decide)
        have cx : ((6 : Int32) * nI s + nI k).toNatClampNeg = 6 * s + k := by rw [ix6]; exact nI_clamp (by omega)
        refine ⟨fun z => absurd z (by rw [i_lt, i_0]; omega), fun _ => ⟨fun _ => ⟨vx, vx, fun x3 e3 => ?_⟩, fun z => absurd (by rw [i_le, i_9999]; exact c2) z⟩⟩
        rw [cx] at e3
        obtain ⟨g1, g2⟩ := pl k (by omega)
        have g2' := g2.resolve_left (fun z => hj (by rw [← g1]; exact z.2.1))
        rw [← g2'.2.2.1, ← g2'.2.2.2.1] at e3
        change x3 = m + σ.1 (66 + s) (4 * k + 3) - σ.1 (66 + s) (4 * k + 2) at e3
        have key : ∀ (j o : Nat), o + j = nb → K τ x3 (m_oth σ s k nd m x3 o) (nI o) := by
          intro j
          induction j with
          | zero =>
            intro o ho
            obtain rfl : o = nb := by omega
            apply hK
            unfold xb_X12_clash_55
            rw [q3]
            refine ⟨fun _ => qB_han H rfl rfl rfl rfl hs (by omega) ?_, fun z => absurd (nI_le (Nat.le_refl o) (by omega)) z⟩
            have ec : m_oth σ s k nd m x3 o &&& m_han σ s k nd = m_cl σ s k o nd m := by
              unfold m_cl
              rw [← e3, Int32.and_comm]
            rw [ec]
            refine ⟨fun z => ?_, fun z => x0 z⟩
            obtain ⟨i, i1, i2, i3⟩ := b_low z
            exact qB_least i1 i2 i3 (x1 i i1 i2 i3)
          | succ j ih =>
            intro o ho
            have next := ih (o + 1) (by omega)
            simp only [m_oth] at next
            apply hK
            unfold xb_X12_clash_55
            obtain ⟨g1o, g2o⟩ := pl o (by omega)
            change σ.1 (66 + s) (4 * o + 1) = _ at g1o
            have ovn : σ.1 (66 + s) (4 * o + 1) = -1 → m_ovl σ s o m x3 = false := fun z => by simp [m_ovl, z]
            rw [q3, nI_1]
            refine ⟨fun z => absurd z (nI_ge (by omega) (by omega)), fun _ => ⟨fun z => ?_, fun z => ?_⟩⟩
            · have : o = k := (nI_eq (by omega) (by omega)).mp z
              rw [if_neg (fun q => q.1 this)] at next
              exact next
            · have ok : o ≠ k := fun q => z (by rw [q])
              refine pB_isPlanned p3 p1 q3 q1 (fun s' k' hs' hk' ea eb hj => ⟨fun z => absurd z (by decide), fun _ => ?_⟩) (fun no => ⟨fun _ => ?_, fun z => absurd rfl z⟩)
              · obtain rfl : s = s' := (nI_eq (by omega) (by omega)).mp ea
                obtain rfl : o = k' := (nI_eq (by omega) (by omega)).mp eb
                have vy : vp_in ((6 : Int32) * nI s + nI o) 30 := by rw [ix6]; exact vp_in_nI (by omega) (by decide)
                have cy : ((6 : Int32) * nI s + nI o).toNatClampNeg = 6 * s + o := by rw [ix6]; exact nI_clamp (by omega)
                have g2' := g2o.resolve_left (fun z => hj (by rw [← g1o]; exact z.2.1))
                have gf : τ.1 46 (6 * s + o) = σ.1 (66 + s) (4 * o + 2) := g2'.2.2.1.symm
                have gt : τ.1 47 (6 * s + o) = σ.1 (66 + s) (4 * o + 3) := g2'.2.2.2.1.symm
                rw [cy, gf, gt]
                rw [← g1o] at hj
                refine ⟨vy, fun z1 => ?_, fun z1 => ⟨vy, fun z2 => ?_, fun z2 => qB_han H rfl rfl rfl rfl hs (by omega) ?_⟩⟩
                · have e : m_ovl σ s o m x3 = false := by
                    have : ¬ σ.1 (66 + s) (4 * o + 2) < x3 := by rw [i_lt]; rw [i_le] at z1; omega
                    simp [m_ovl, this]
                  rw [if_neg (fun q => by rw [e] at q; exact absurd q.2 (by decide))] at next
                  exact next
                · have e : m_ovl σ s o m x3 = false := by
                    have : ¬ m < σ.1 (66 + s) (4 * o + 3) := by rw [i_lt]; rw [i_le] at z2; omega
                    simp [m_ovl, this]
                  rw [if_neg (fun q => by rw [e] at q; exact absurd q.2 (by decide))] at next
                  exact next
                · have e : m_ovl σ s o m x3 = true := by
                    have t1 : σ.1 (66 + s) (4 * o + 2) < x3 := by rw [i_lt]; rw [i_le] at z1; omega
                    have t2 : m < σ.1 (66 + s) (4 * o + 3) := by rw [i_lt]; rw [i_le] at z2; omega
                    simp [m_ovl, t1, t2, hj]
                  rw [if_pos ⟨ok, e⟩] at next
                  exact next
              · have e : m_ovl σ s o m x3 = false := by
                  refine ovn ?_
                  rcases no with no | no | ⟨s', k', hs', hk', ea, eb, hj⟩
                  · exact absurd ⟨a1, a2⟩ no
                  · exact absurd ⟨by rw [i_nI (by omega)]; omega, by rw [i_nI (by omega)]; omega⟩ no
                  · obtain rfl : s = s' := (nI_eq (by omega) (by omega)).mp ea
                    obtain rfl : o = k' := (nI_eq (by omega) (by omega)).mp eb
                    rw [g1o]; exact hj
                rw [if_neg (fun q => by rw [e] at q; exact absurd q.2 (by decide))] at next
                exact next
        exact key nb 0 (by omega)
      · exfalso
        rcases no with no | no | ⟨s', k', hs', hk', ea, eb, hj⟩
        · exact absurd ⟨a1, a2⟩ no
        · exact absurd ⟨b1, b2⟩ no
        · obtain rfl : s = s' := (nI_eq (by omega) (by omega)).mp ea
          obtain rfl : k = k' := (nI_eq (by omega) (by omega)).mp eb
          exact y (((pl k (by omega)).1).trans hj)
    have key : ∀ (j o : Nat), o + j = nb → K σ (m + σ.1 (66 + s) (4 * k + 3) - σ.1 (66 + s) (4 * k + 2)) (m_han σ s k nd) (m_oth σ s k nd m (m + σ.1 (66 + s) (4 * k + 3) - σ.1 (66 + s) (4 * k + 2)) o) (nI o) := by
      intro j
      induction j with
      | zero =>
        intro o ho
        obtain rfl : o = nb := by omega
        apply hK
        unfold xb_X11_handlersInTwoRings_63
        rw [q2]
        refine ⟨fun _ => ?_, fun z => absurd (nI_le (Nat.le_refl o) (by omega)) z⟩
        show (¬ m_cl σ s k o nd m = 0 → _) ∧ (m_cl σ s k o nd m = 0 → _)
        refine ⟨fun z => ?_, fun z => ?_⟩
        · obtain ⟨i, i1, i2, i3⟩ := b_low z
          have i12 : i < 12 := by
            refine Classical.byContradiction fun c => ?_
            unfold m_cl at i2
            rw [b_and, m_han12 H i (by omega) i1] at i2
            simp at i2
          refine qJ_ntz (by omega) i2 i3 ?_
          refine fin _ (fun z2 => absurd z2 z) (fun i' i1' i2' i3' => ⟨?_, hR⟩)
          congr 1
          rcases Nat.lt_trichotomy i i' with c | c | c
          · rw [i3' i c] at i2; exact absurd i2 (by decide)
          · exact c
          · rw [i3 i' c] at i2'; exact absurd i2' (by decide)
        · refine fin _ (fun _ => ⟨rfl, hR⟩) (fun i' i1' i2' i3' => ?_)
          rw [z, b_0] at i2'
          exact absurd i2' (by decide)
      | succ j ih =>
        intro o ho
        have next := ih (o + 1) (by omega)
        simp only [m_oth] at next
        apply hK
        unfold xb_X11_handlersInTwoRings_63
        rw [q2, nI_1]
        refine ⟨fun z => absurd z (nI_ge (by omega) (by omega)), fun _ => ⟨fun z => ?_, fun z => ?_⟩⟩
        · have : o = k := (nI_eq (by omega) (by omega)).mp z
          rw [if_neg (fun q => q.1 this)] at next
          exact next
        · have ok : o ≠ k := fun q => z (by rw [q])
          refine pA_over (by omega) (fun e => ⟨fun z => absurd z (by decide), fun _ => ?_⟩) (fun e => ⟨fun _ => ?_, fun z => absurd rfl z⟩)
          · refine qA_han H rfl rfl rfl rfl (by omega) ?_
            rw [if_pos ⟨ok, e⟩] at next
            exact next
          · rw [if_neg (fun q => by rw [e] at q; exact absurd q.2 (by decide))] at next
            exact next
    exact key nb 0 (by omega)
  · intro K hK
    refine pB_isPlanned p3 p1 q3 q1 (fun s' k' hs' hk' ea eb hj => ?_) (fun no => ⟨fun _ => ⟨rfl, hR⟩, fun z => absurd rfl z⟩)
    obtain rfl : s = s' := (nI_eq (by omega) (by omega)).mp ea
    obtain rfl : k = k' := (nI_eq (by omega) (by omega)).mp eb
    exact absurd (((pl k (by omega)).1).symm.trans y) hj
