/-! facts -/
def u_factA (σ : xw_M) (n : Nat) (k s d v y : Int32) : xw_M := xw_i (xw_i (xw_i (xw_i (xw_i (xw_i σ 39 n k) 40 n s) 41 n d) 42 n v) 43 n y) 5 6 (nI (n + 1))
def u_factB (τ : xw_M) (n : Nat) (k i d v : Int32) : xw_M := xw_i (xw_i (xw_i (xw_i (xw_i τ 38 n k) 39 n i) 40 n d) 41 n v) 0 56 (nI (n + 1))
theorem pA_add {σ : xw_M} {n : Nat} {k s d v y : Int32} {Z : Int32 → xw_M → Prop} (hn : σ.1 5 6 = nI n) (hlt : n < 200) (h : Z (nI n) (u_factA σ n k s d v y)) : xu_X1_add σ k s d v y Z := by
  have hin : vp_in (σ.1 5 6) 200 := by rw [hn]; exact vp_in_nI hlt (by decide)
  have ec : (σ.1 5 6).toNatClampNeg = n := by rw [hn]; exact nI_clamp (by omega)
  refine ⟨fun _ => ⟨hin, fun σ1 e1 => ?_⟩, fun g => absurd (show σ.1 5 6 < 200 by rw [hn]; exact nI_lt hlt (by decide)) g⟩
  subst e1
  refine ⟨hin, fun σ2 e2 => ?_⟩
  subst e2
  refine ⟨hin, fun σ3 e3 => ?_⟩
  subst e3
  refine ⟨hin, fun σ4 e4 => ?_⟩
  subst e4
  refine ⟨hin, fun σ5 e5 => ?_⟩
  subst e5
  intro σ6 e6
  subst e6
  show Z (σ.1 5 6 + 1 - 1) (xw_i (xw_i (xw_i (xw_i (xw_i (xw_i σ 39 (σ.1 5 6).toNatClampNeg k) 40 (σ.1 5 6).toNatClampNeg s) 41 (σ.1 5 6).toNatClampNeg d) 42 (σ.1 5 6).toNatClampNeg v) 43 (σ.1 5 6).toNatClampNeg y) 5 6 (σ.1 5 6 + 1))
  rw [ec, hn, i_pred, nI_1]
  exact h
theorem pB_tells {τ : xw_M} {n : Nat} {k i d v : Int32} {Z : Int32 → xw_M → Prop} (hn : τ.1 0 56 = nI n) (hlt : n < 200) (h : Z (nI n) (u_factB τ n k i d v)) : xu_X12_tells τ k i d v 1 Z := by
  have hin : vp_in (τ.1 0 56) 200 := by rw [hn]; exact vp_in_nI hlt (by decide)
  have ec : (τ.1 0 56).toNatClampNeg = n := by rw [hn]; exact nI_clamp (by omega)
  refine ⟨fun _ => ⟨hin, fun σ1 e1 => ?_⟩, fun g => absurd g (by decide)⟩
  subst e1
  refine ⟨hin, fun σ2 e2 => ?_⟩
  subst e2
  refine ⟨hin, fun σ3 e3 => ?_⟩
  subst e3
  refine ⟨hin, fun σ4 e4 => ?_⟩
  subst e4
  intro σ5 e5
  subst e5
  show Z (τ.1 0 56 + 1 - 1) (xw_i (xw_i (xw_i (xw_i (xw_i τ 38 (τ.1 0 56).toNatClampNeg k) 39 (τ.1 0 56).toNatClampNeg i) 40 (τ.1 0 56).toNatClampNeg d) 41 (τ.1 0 56).toNatClampNeg v) 0 56 (τ.1 0 56 + 1))
  rw [ec, hn, i_pred, nI_1]
  exact h
theorem pB_tells0 {τ : xw_M} {k i d v : Int32} {Z : Int32 → xw_M → Prop} (h : Z (-1) τ) : xu_X12_tells τ k i d v 0 Z := ⟨fun g => absurd rfl g, fun _ => h⟩
def ok_val (k v : Int32) : Prop := (k = 0 ∧ 1 ≤ v.toInt ∧ v.toInt ≤ 20) ∨ (k = 1 ∧ v = 0) ∨ (k = 2 ∧ v = 0) ∨ (k = 3 ∧ 0 ≤ v.toInt ∧ v.toInt ≤ 99)
theorem pA_value {σ : xw_M} {k v : Int32} {Z : Int32 → xw_M → Prop} (h1 : ok_val k v → Z 1 σ) (h0 : ¬ ok_val k v → Z 0 σ) : xu_X11_isFactValue σ k v Z := by
  refine ⟨fun g => ?_, fun g0 => ⟨fun g => ?_, fun g1 => ⟨fun g => ?_, fun g2 => ⟨fun g => ?_, fun g3 => ⟨by simp, h0 ?_⟩⟩⟩⟩⟩
  · subst g
    exact pA_within (fun a b => ⟨by simp, h1 (Or.inl ⟨rfl, a, b⟩)⟩) (fun a => ⟨by simp, h0 (fun o => by
      rcases o with o | o | o | o
      · exact a o.2
      · exact absurd o.1 (by decide)
      · exact absurd o.1 (by decide)
      · exact absurd o.1 (by decide))⟩)
  · subst g
    exact ⟨fun a => ⟨by simp, h0 (fun o => by
      rcases o with o | o | o | o
      · exact absurd o.1 (by decide)
      · exact a o.2
      · exact absurd o.1 (by decide)
      · exact absurd o.1 (by decide))⟩, fun a => ⟨by simp, h1 (Or.inr (Or.inl ⟨rfl, a⟩))⟩⟩
  · subst g
    exact ⟨fun a => ⟨by simp, h0 (fun o => by
      rcases o with o | o | o | o
      · exact absurd o.1 (by decide)
      · exact absurd o.1 (by decide)
      · exact a o.2
      · exact absurd o.1 (by decide))⟩, fun a => ⟨by simp, h1 (Or.inr (Or.inr (Or.inl ⟨rfl, a⟩)))⟩⟩
  · subst g
    exact pA_within (fun a b => ⟨by simp, h1 (Or.inr (Or.inr (Or.inr ⟨rfl, a, b⟩)))⟩) (fun a => ⟨by simp, h0 (fun o => by
      rcases o with o | o | o | o
      · exact absurd o.1 (by decide)
      · exact absurd o.1 (by decide)
      · exact absurd o.1 (by decide)
      · exact a o.2)⟩)
  · intro o
    rcases o with o | o | o | o
    · exact g0 o.1
    · exact g1 o.1
    · exact g2 o.1
    · exact g3 o.1
def ok_fact (ns nd n : Nat) (k s d v : Int32) : Prop := n < 200 ∧ (0 ≤ s.toInt ∧ s.toInt < ns) ∧ (0 ≤ d.toInt ∧ d.toInt < nd) ∧ ok_val k v
theorem pA_factM {σ : xw_M} {ns nd n : Nat} {k s d v : Int32} {Z : Int32 → xw_M → Prop} (hs : σ.1 0 9 = nI ns) (hs5 : ns ≤ 5) (hd : σ.1 4 12 = nI nd) (hd20 : nd ≤ 20) (hn : σ.1 5 6 = nI n) (hn2 : n ≤ 200) (h1 : ok_fact ns nd n k s d v → Z (nI n) (u_factA σ n k s d v (-1))) (h0 : ¬ ok_fact ns nd n k s d v → Z (-1) σ) : xu_X11_fact σ k s d v Z := by
  refine pA_show hs (by omega) (fun a1 a2 => ⟨fun g => absurd g (by decide), fun _ => ?_⟩) (fun a => ⟨fun _ => h0 (fun o => a o.2.1), fun g => absurd rfl g⟩)
  refine pA_dog hd (by omega) (fun b1 b2 => ⟨fun g => absurd g (by decide), fun _ => ?_⟩) (fun a => ⟨fun _ => h0 (fun o => a o.2.2.1), fun g => absurd rfl g⟩)
  refine pA_value (fun c => ⟨fun g => absurd g (by decide), fun _ => ?_⟩) (fun a => ⟨fun _ => h0 (fun o => a o.2.2.2), fun g => absurd rfl g⟩)
  refine ⟨fun g => ?_, fun g => h0 (fun o => g (by rw [hn]; exact nI_lt o.1 (by decide)))⟩
  have hlt : n < 200 := by rw [hn, i_lt, i_nI (by omega), i_200] at g; omega
  exact pA_add hn hlt (h1 ⟨hlt, ⟨a1, a2⟩, ⟨b1, b2⟩, c⟩)
theorem pB_factM {τ : xw_M} {ns nd n : Nat} {k s d v : Int32} {Z : Int32 → xw_M → Prop} (hs : τ.1 0 53 = nI ns) (hs5 : ns ≤ 5) (hd : τ.1 0 47 = nI nd) (hd20 : nd ≤ 20) (hn : τ.1 0 56 = nI n) (hn2 : n ≤ 200) (h1 : ok_fact ns nd n k s d v → Z (nI n) (u_factB τ n k s d v)) (h0 : ¬ ok_fact ns nd n k s d v → Z (-1) τ) : xu_X12_fact τ k s d v Z := by
  refine ⟨fun g => h0 (fun o => by have := o.1; rw [hn, i_eq, i_nI (by omega), i_200] at g; omega), fun g => ?_⟩
  have hlt : n < 200 := by rw [hn, i_eq, i_nI (by omega), i_200] at g; omega
  have kk : ∀ {x : Int32}, k = x → ok_val k v → 0 ≤ k.toInt ∧ k.toInt ≤ 3 := by
    intro x _ o
    rcases o with o | o | o | o <;> rw [o.1] <;> decide
  refine ⟨fun g => h0 (fun o => by have := (kk rfl o.2.2.2).1; rw [i_lt, i_0] at g; omega), fun g1 => ⟨fun g => h0 (fun o => by have := (kk rfl o.2.2.2).2; rw [i_lt, i_3] at g; omega), fun g2 => ?_⟩⟩
  rw [i_lt, i_0] at g1
  rw [i_lt, i_3] at g2
  refine pB_show hs (by omega) (fun a1 a2 => ⟨fun g => absurd g (by decide), fun _ => ?_⟩) (fun a => ⟨fun _ => h0 (fun o => a o.2.1), fun g => absurd rfl g⟩)
  refine pB_dog hd (by omega) (fun b1 b2 => ⟨fun _ => ?_, fun g => absurd g (by decide)⟩) (fun a => ⟨fun g => absurd rfl g, fun _ => h0 (fun o => a o.2.2.1)⟩)
  have yes : ok_val k v → Z (nI n) (u_factB τ n k s d v) := fun c => h1 ⟨hlt, ⟨a1, a2⟩, ⟨b1, b2⟩, c⟩
  have no : ¬ ok_val k v → Z (-1) τ := fun c => h0 (fun o => c o.2.2.2)
  refine ⟨fun k0 => ⟨fun k3 => ⟨fun v0 => pB_tells0 (no ?_), fun v0 => pB_tells hn hlt (yes ?_)⟩, fun k3 => ⟨fun v0 => pB_tells0 (no ?_), fun v0 => ⟨fun v1 => pB_tells0 (no ?_), fun v1 => pB_tells hn hlt (yes ?_)⟩⟩⟩, fun k0 => ⟨fun v0 => pB_tells0 (no ?_), fun v0 => ⟨fun v1 => pB_tells0 (no ?_), fun v1 => pB_tells hn hlt (yes ?_)⟩⟩⟩
  · intro o
    rcases o with o | o | o | o
    · exact k0 o.1
    · exact v0 o.2
    · exact v0 o.2
    · exact k3 o.1
  · have : k = 1 ∨ k = 2 := by
      rw [i_eq, i_0] at k0
      rw [i_eq, i_3] at k3
      rw [i_eq (y := 1), i_eq (y := 2), i_1, i_2]
      omega
    rcases this with h | h
    · exact Or.inr (Or.inl ⟨h, v0⟩)
    · exact Or.inr (Or.inr (Or.inl ⟨h, v0⟩))
  · intro o
    rw [i_lt, i_0] at v0
    rcases o with o | o | o | o
    · exact k0 o.1
    · rw [k3] at o; exact absurd o.1 (by decide)
    · rw [k3] at o; exact absurd o.1 (by decide)
    · omega
  · intro o
    rw [i_lt, i_99] at v1
    rcases o with o | o | o | o
    · exact k0 o.1
    · rw [k3] at o; exact absurd o.1 (by decide)
    · rw [k3] at o; exact absurd o.1 (by decide)
    · omega
  · exact Or.inr (Or.inr (Or.inr ⟨k3, (by simp only [i_lt, i_le, i_eq, i_m1, i_0, i_1, i_2, i_3, i_4, i_5, i_6, i_9, i_10, i_11, i_12, i_20, i_63, i_99, i_200, i_1980, i_2000, i_9999] at v0 ⊢; omega), (by simp only [i_lt, i_le, i_eq, i_m1, i_0, i_1, i_2, i_3, i_4, i_5, i_6, i_9, i_10, i_11, i_12, i_20, i_63, i_99, i_200, i_1980, i_2000, i_9999] at v1 ⊢; omega)⟩))
  · intro o
    rw [i_lt, i_1] at v0
    rcases o with o | o | o | o
    · omega
    · rw [k0] at o; exact absurd o.1 (by decide)
    · rw [k0] at o; exact absurd o.1 (by decide)
    · rw [k0] at o; exact absurd o.1 (by decide)
  · intro o
    rw [i_lt, i_20] at v1
    rcases o with o | o | o | o
    · omega
    · rw [k0] at o; exact absurd o.1 (by decide)
    · rw [k0] at o; exact absurd o.1 (by decide)
    · rw [k0] at o; exact absurd o.1 (by decide)
  · exact Or.inl ⟨k0, (by simp only [i_lt, i_le, i_eq, i_m1, i_0, i_1, i_2, i_3, i_4, i_5, i_6, i_9, i_10, i_11, i_12, i_20, i_63, i_99, i_200, i_1980, i_2000, i_9999] at v0 ⊢; omega), (by simp only [i_lt, i_le, i_eq, i_m1, i_0, i_1, i_2, i_3, i_4, i_5, i_6, i_9, i_10, i_11, i_12, i_20, i_63, i_99, i_200, i_1980, i_2000, i_9999] at v1 ⊢; omega)⟩
def ok_owned (nd n : Nat) (d p y : Int32) : Prop := n < 200 ∧ (0 ≤ d.toInt ∧ d.toInt < nd) ∧ (0 ≤ p.toInt ∧ p.toInt < 12) ∧ (0 ≤ y.toInt ∧ y.toInt < 10000)
theorem pA_ownedM {σ : xw_M} {nd n : Nat} {d p y : Int32} {Z : Int32 → xw_M → Prop} (hd : σ.1 4 12 = nI nd) (hd20 : nd ≤ 20) (hn : σ.1 5 6 = nI n) (hn2 : n ≤ 200) (h1 : ok_owned nd n d p y → Z (nI n) (u_factA σ n 4 (-1) d p y)) (h0 : ¬ ok_owned nd n d p y → Z (-1) σ) : xu_X11_owned σ d p y Z := by
  refine pA_dog hd (by omega) (fun a1 a2 => ⟨fun g => absurd g (by decide), fun _ => ?_⟩) (fun a => ⟨fun _ => h0 (fun o => a o.2.1), fun g => absurd rfl g⟩)
  refine pA_person (fun b1 b2 => ⟨fun g => absurd g (by decide), fun _ => ?_⟩) (fun a => ⟨fun _ => h0 (fun o => a o.2.2.1), fun g => absurd rfl g⟩)
  refine pA_day (fun c1 c2 => ⟨fun g => absurd g (by decide), fun _ => ?_⟩) (fun a => ⟨fun _ => h0 (fun o => a o.2.2.2), fun g => absurd rfl g⟩)
  refine ⟨fun g => ?_, fun g => h0 (fun o => g (by rw [hn]; exact nI_lt o.1 (by decide)))⟩
  have hlt : n < 200 := by rw [hn, i_lt, i_nI (by omega), i_200] at g; omega
  exact pA_add hn hlt (h1 ⟨hlt, ⟨a1, a2⟩, ⟨b1, b2⟩, ⟨c1, c2⟩⟩)
theorem pB_ownedM {τ : xw_M} {nd n : Nat} {d p y : Int32} {Z : Int32 → xw_M → Prop} (hd : τ.1 0 47 = nI nd) (hd20 : nd ≤ 20) (hn : τ.1 0 56 = nI n) (hn2 : n ≤ 200) (h1 : ok_owned nd n d p y → Z (nI n) (u_factB τ n 4 y d p)) (h0 : ¬ ok_owned nd n d p y → Z (-1) τ) : xu_X12_owned τ d p y Z := by
  refine ⟨fun g => h0 (fun o => by have := o.1; rw [hn, i_eq, i_nI (by omega), i_200] at g; omega), fun g => ?_⟩
  have hlt : n < 200 := by rw [hn, i_eq, i_nI (by omega), i_200] at g; omega
  refine pB_dog hd (by omega) (fun a1 a2 => ⟨fun g => absurd g (by decide), fun _ => ?_⟩) (fun a => ⟨fun _ => h0 (fun o => a o.2.1), fun g => absurd rfl g⟩)
  refine pB_person (fun b1 b2 => ⟨fun g => absurd g (by decide), fun _ => ?_⟩) (fun a => ⟨fun _ => h0 (fun o => a o.2.2.1), fun g => absurd rfl g⟩)
  refine pB_day (fun c1 c2 => ⟨fun _ => ?_, fun g => absurd g (by decide)⟩) (fun a => ⟨fun g => absurd rfl g, fun _ => h0 (fun o => a o.2.2.2)⟩)
  exact pB_tells hn hlt (h1 ⟨hlt, ⟨a1, a2⟩, ⟨b1, b2⟩, ⟨c1, c2⟩⟩)
section FACTS
variable {tx : xw_M → xw_M → Prop}
theorem s_told (htx : r_txOk tx) {σ τ : xw_M} {nt nb nd ns nf : Nat} {k s i d v y : Int32} (h1 : r_tape nt (σ.1 1 1) (τ.1 0 2) (σ.1 24) (τ.1 1)) (h2 : r_kin (σ.1 28) (τ.1 25)) (h3 : r_permits (σ.1 29) (τ.1 26)) (h4 : r_rings (σ.1 0 10) (τ.1 0 41)) (h5 : σ.1 0 11 = τ.1 0 17)
    (h6 : r_breeds nb (σ.1 4 11) (τ.1 0 42) (σ.1 30) (σ.1 31) (σ.1 32) (σ.1 33) (τ.1 27) (τ.1 28) (τ.1 29) (τ.1 30)) (h7 : r_dogs nb nd (σ.1 4 12) (τ.1 0 47) (σ.1 34) (σ.1 35) (σ.1 36) (σ.1 37) (σ.1 38) (τ.1 31) (τ.1 32) (τ.1 33) (τ.1 34) (τ.1 35))
    (h8 : r_shows ns nd (σ.1 0 9) (τ.1 0 53) (fun i => σ.1 (11 + i)) (τ.1 36) (τ.1 37)) (h9 : r_facts nf ns nd (σ.1 5 6) (τ.1 0 56) (σ.1 39) (σ.1 40) (σ.1 41) (σ.1 42) (σ.1 43) (τ.1 38) (τ.1 39) (τ.1 40) (τ.1 41)) (h10 : r_plan nb (fun i => σ.1 (66 + i)) (τ.1 44) (τ.1 45) (τ.1 46) (τ.1 47)) (h11 : tx σ τ) (hlt : nf < 200) (hd : ∃ j : Nat, j < nd ∧ d = nI j)
    (hf : (k = 4 ∧ s = -1 ∧ y = i ∧ 0 ≤ y.toInt ∧ y.toInt < 10000 ∧ ∃ j : Nat, j < 12 ∧ v = nI j) ∨ ((k = 0 ∨ k = 1 ∨ k = 2 ∨ k = 3) ∧ s = i ∧ y = -1 ∧ (∃ j : Nat, j < ns ∧ s = nI j) ∧ 0 ≤ v.toInt ∧ v.toInt ≤ 99 ∧ (k = 0 → 1 ≤ v.toInt ∧ v.toInt ≤ 20))) : r_R tx (u_factA σ nf k s d v y) (u_factB τ nf k i d v) := by
  obtain ⟨w1, w2, w3, w4⟩ := h9
  refine ⟨nt, nb, nd, ns, nf + 1, h1, h2, h3, h4, h5, h6, h7, r_shows_c h8 (fun i hi => ?_), ⟨by omega, rfl, rfl, fun i hi => ?_⟩, r_plan_c h10 (fun i hi => ?_), htx _ _ _ _ h11 rfl (by intro c hc; rcases hc with rfl | rfl | rfl | rfl | rfl | rfl | rfl | rfl | rfl <;> rfl) rfl (fun c hc h => ?_)⟩
  · unfold u_factA
    rw [xw_ne (by omega), xw_ne (by omega), xw_ne (by omega), xw_ne (by omega), xw_ne (by omega), xw_ne (by omega)]
  · by_cases hin : i = nf
    · subst hin
      simp only [u_factA, u_factB, xw_i]
      simp only [true_and, and_true, if_true, and_self, if_pos, show ((39 : Nat) = 40) = False by simp, show ((39 : Nat) = 41) = False by simp, show ((39 : Nat) = 42) = False by simp, show ((39 : Nat) = 43) = False by simp, show ((39 : Nat) = 5) = False by simp, show ((40 : Nat) = 41) = False by simp, show ((40 : Nat) = 42) = False by simp, show ((40 : Nat) = 43) = False by simp, show ((40 : Nat) = 5) = False by simp, show ((41 : Nat) = 42) = False by simp, show ((41 : Nat) = 43) = False by simp, show ((41 : Nat) = 5) = False by simp, show ((42 : Nat) = 43) = False by simp, show ((42 : Nat) = 5) = False by simp, show ((43 : Nat) = 5) = False by simp, show ((38 : Nat) = 39) = False by simp, show ((38 : Nat) = 40) = False by simp, show ((38 : Nat) = 41) = False by simp, show ((38 : Nat) = 0) = False by simp, show ((39 : Nat) = 0) = False by simp, show ((40 : Nat) = 0) = False by simp, show ((41 : Nat) = 0) = False by simp, false_and, if_false]
      exact ⟨hd, hf⟩
    · have h := w4 i (by omega)
      simp only [u_factA, u_factB, xw_i, hin, and_false, if_false]
      simp only [show ((39 : Nat) = 5) = False by simp, show ((40 : Nat) = 5) = False by simp, show ((41 : Nat) = 5) = False by simp, show ((42 : Nat) = 5) = False by simp, show ((43 : Nat) = 5) = False by simp, show ((38 : Nat) = 0) = False by simp, show ((39 : Nat) = 0) = False by simp, show ((40 : Nat) = 0) = False by simp, show ((41 : Nat) = 0) = False by simp, false_and, if_false]
      exact h
  · unfold u_factA
    rw [xw_ne (by omega), xw_ne (by omega), xw_ne (by omega), xw_ne (by omega), xw_ne (by omega), xw_ne (by omega)]
  · unfold u_factB
    rw [xw_ne (by omega), xw_ne (by omega), xw_ne (by omega), xw_ne (by omega), xw_ne (by omega)]
theorem s_fact (htx : r_txOk tx) : ∀ σ τ, r_R tx σ τ → ∀ a0 a1 a2 a3 : Int32, xu_X11_fact σ a0 a1 a2 a3 (fun r σ1 => xu_X12_fact τ a0 a1 a2 a3 (fun r2 τ1 => r = r2 ∧ r_R tx σ1 τ1)) := by
  intro σ τ hR k s d v
  obtain ⟨nt, nb, nd, ns, nf, h1, h2, h3, h4, h5, h6, h7, h8, h9, h10, h11⟩ := id hR
  obtain ⟨q1, q2, q3, q4⟩ := id h7
  obtain ⟨p1, p2, p3, p4⟩ := id h8
  obtain ⟨w1, w2, w3, w4⟩ := id h9
  refine pA_factM p2 p1 q2 q1 w2 w1 (fun ok => pB_factM p3 p1 q3 q1 w3 w1 (fun _ => ⟨rfl, ?_⟩) (fun h => absurd ok h)) (fun no => pB_factM p3 p1 q3 q1 w3 w1 (fun ok => absurd ok no) (fun _ => ⟨rfl, hR⟩))
  obtain ⟨o1, ⟨o2, o3⟩, ⟨o4, o5⟩, o6⟩ := ok
  obtain ⟨j, hj, ej, -⟩ := i_of o2 o3
  obtain ⟨j2, hj2, ej2, -⟩ := i_of o4 o5
  refine s_told htx h1 h2 h3 h4 h5 h6 h7 h8 h9 h10 h11 o1 ⟨j2, hj2, ej2⟩ (Or.inr ⟨?_, rfl, rfl, ⟨j, hj, ej⟩, ?_⟩)
  · rcases o6 with o | o | o | o
    · exact Or.inl o.1
    · exact Or.inr (Or.inl o.1)
    · exact Or.inr (Or.inr (Or.inl o.1))
    · exact Or.inr (Or.inr (Or.inr o.1))
  · rcases o6 with o | o | o | o
    · exact ⟨by omega, by omega, fun _ => o.2⟩
    · rw [o.1, o.2]; exact ⟨by decide, by decide, fun h => absurd h (by decide)⟩
    · rw [o.1, o.2]; exact ⟨by decide, by decide, fun h => absurd h (by decide)⟩
    · exact ⟨o.2.1, o.2.2, fun h => by rw [o.1] at h; exact absurd h (by decide)⟩
theorem s_owned (htx : r_txOk tx) : ∀ σ τ, r_R tx σ τ → ∀ a0 a1 a2 : Int32, xu_X11_owned σ a0 a1 a2 (fun r σ1 => xu_X12_owned τ a0 a1 a2 (fun r2 τ1 => r = r2 ∧ r_R tx σ1 τ1)) := by
  intro σ τ hR d p y
  obtain ⟨nt, nb, nd, ns, nf, h1, h2, h3, h4, h5, h6, h7, h8, h9, h10, h11⟩ := id hR
  obtain ⟨q1, q2, q3, q4⟩ := id h7
  obtain ⟨w1, w2, w3, w4⟩ := id h9
  refine pA_ownedM q2 q1 w2 w1 (fun ok => pB_ownedM q3 q1 w3 w1 (fun _ => ⟨rfl, ?_⟩) (fun h => absurd ok h)) (fun no => pB_ownedM q3 q1 w3 w1 (fun ok => absurd ok no) (fun _ => ⟨rfl, hR⟩))
  obtain ⟨o1, ⟨o2, o3⟩, ⟨o4, o5⟩, ⟨o6, o7⟩⟩ := ok
  obtain ⟨j, hj, ej, -⟩ := i_of o2 o3
  obtain ⟨j2, hj2, ej2, -⟩ := i_of o4 o5
  exact s_told htx h1 h2 h3 h4 h5 h6 h7 h8 h9 h10 h11 o1 ⟨j, hj, ej⟩ (Or.inl ⟨rfl, rfl, rfl, o6, o7, ⟨j2, hj2, ej2⟩⟩)
end FACTS
