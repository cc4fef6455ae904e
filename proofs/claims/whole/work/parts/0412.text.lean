/-! THE TEXT: what terms and conditions say, and how the two hold them -/
def t_op (k : Nat) (x y : Int32) : Int32 := if k = 0 then x + y else if k = 1 then x - y else x * y
def t_rel (s : Nat) (x y : Int32) : Bool := if s = 0 then decide (x = y) else if s = 1 then decide (¬ x = y) else if s = 2 then decide (x < y) else decide (x ≤ y)
def t_b (b : Bool) : Int32 := if b then 1 else 0
abbrev tF := (Nat → Int32) → Int32
abbrev tG := (Nat → Int32) → Bool
/-- the class's steps from i up to j say the term f -/
def tA (st nu : Nat → Int32) (i j : Nat) (f : tF) : Prop := ∀ P : Nat → Nat → tF → Prop, (∀ i, st i = 16 → P i (i + 1) (fun _ => nu i)) → (∀ i k, k < 9 → st i = nI k → P i (i + 1) (fun va => va k)) → (∀ i m n k f g, k < 3 → i < m → m < n → P i m f → P m n g → st n = nI (18 + k) → P i (n + 1) (fun va => t_op k (f va) (g va))) → P i j f
/-- the reference's codes -/
def tB (co ci : Nat → Int32) (i j : Nat) (f : tF) : Prop := ∀ P : Nat → Nat → tF → Prop, (∀ i, co i = 0 → P i (i + 1) (fun _ => ci i)) → (∀ i k, k < 9 → co i = 1 → ci i = nI k → P i (i + 1) (fun va => va k)) → (∀ i m n k f g, k < 3 → i < m → m < n → P i m f → P m n g → co n = nI (2 + k) → P i (n + 1) (fun va => t_op k (f va) (g va))) → P i j f
theorem tA_lt {st nu : Nat → Int32} {i j : Nat} {f : tF} (h : tA st nu i j f) : i < j := h (fun i j _ => i < j) (fun _ _ => by omega) (fun _ _ _ _ => by omega) (fun _ _ _ _ _ _ _ _ _ _ _ _ => by omega)
theorem tB_lt {st nu : Nat → Int32} {i j : Nat} {f : tF} (h : tB st nu i j f) : i < j := h (fun i j _ => i < j) (fun _ _ => by omega) (fun _ _ _ _ _ => by omega) (fun _ _ _ _ _ _ _ _ _ _ _ _ => by omega)
def tAr (st nu : Nat → Int32) (i j : Nat) (R : tG) : Prop := ∃ m n s f g, s < 4 ∧ tA st nu i m f ∧ tA st nu m n g ∧ st n = nI (21 + s) ∧ j = n + 1 ∧ R = fun va => t_rel s (f va) (g va)
def tAand (st nu : Nat → Int32) : List tG → Nat → Nat → Prop
  | [], i, j => i = j
  | R :: l, i, j => ∃ n, tAr st nu i n R ∧ st n = 15 ∧ tAand st nu l (n + 1) j
def tAall (st nu : Nat → Int32) : List tG → Nat → Nat → Prop
  | [], _, _ => False
  | R :: l, i, j => ∃ m, tAr st nu i m R ∧ tAand st nu l m j
def tAors (st nu : Nat → Int32) : List (List tG) → Nat → Nat → Prop
  | [], i, j => i = j
  | L :: l, i, j => ∃ n, tAall st nu L i n ∧ st n = 14 ∧ tAors st nu l (n + 1) j
def tAcond (st nu : Nat → Int32) : List (List tG) → Nat → Nat → Prop
  | [], i, j => i = j
  | L :: l, i, j => ∃ m, tAall st nu L i m ∧ tAors st nu l m j
def tBr (so le ri en co ci : Nat → Int32) (x : Nat) (R : tG) : Prop := ∃ s p q u f g, s < 4 ∧ so x = nI s ∧ le x = nI p ∧ ri x = nI q ∧ en x = nI u ∧ u ≤ 1000 ∧ u ≤ p + 500 ∧ tB co ci p q f ∧ tB co ci q u g ∧ R = fun va => t_rel s (f va) (g va)
def tBand (so le ri en og co ci : Nat → Int32) (o : Nat) : List tG → Nat → Nat → Prop
  | [], i, j => i = j
  | R :: l, i, j => og (o + i) = 0 ∧ tBr so le ri en co ci (o + i) R ∧ tBand so le ri en og co ci o l (i + 1) j
def tBall (so le ri en og co ci : Nat → Int32) (o : Nat) : List tG → Nat → Nat → Prop
  | [], _, _ => False
  | R :: l, i, j => og (o + i) = 1 ∧ tBr so le ri en co ci (o + i) R ∧ tBand so le ri en og co ci o l (i + 1) j
def tBcond (so le ri en og co ci : Nat → Int32) (o : Nat) : List (List tG) → Nat → Nat → Prop
  | [], i, j => i = j
  | L :: l, i, j => ∃ m, tBall so le ri en og co ci o L i m ∧ tBcond so le ri en og co ci o l m j
def t_all (va : Nat → Int32) (l : List tG) : Bool := l.all (fun R => R va)
def t_cond (va : Nat → Int32) (c : List (List tG)) : Bool := c.any (t_all va)
/-! the class works a term out -/
def t_join (c : Nat) (x y : Int32) : Int32 := if c = 14 then x ||| y else if c = 15 then x &&& y else if c = 18 then x + y else if c = 19 then x - y else if c = 20 then x * y else if c = 21 then t_b (decide (x = y)) else if c = 22 then t_b (decide (¬ x = y)) else if c = 23 then t_b (decide (x < y)) else t_b (decide (x ≤ y))
def vA_cl (o : Nat) (a1 a2 : Int32) (Z : Int32 → xw_M → Prop) (K6 : xw_M → Int32 → Int32 → Prop) (K65 K102 K234 K251 K268 K285 : xw_M → Int32 → Int32 → Int32 → Prop) : Prop :=
  (∀ (σ : xw_M) (v4 : Int32) (v5 : Int32), xb_X9_valueOf_6 o a1 a2 K6 K65 K102 K234 K251 K268 K285 Z σ v4 v5 → K6 σ v4 v5) ∧ (∀ (σ : xw_M) (v4 : Int32) (v5 : Int32) (v6 : Int32), xb_X9_valueOf_65 o a1 a2 K6 K65 K102 K234 K251 K268 K285 Z σ v4 v5 v6 → K65 σ v4 v5 v6) ∧ (∀ (σ : xw_M) (v4 : Int32) (v5 : Int32) (v6 : Int32), xb_X9_valueOf_102 o a1 a2 K6 K65 K102 K234 K251 K268 K285 Z σ v4 v5 v6 → K102 σ v4 v5 v6) ∧ (∀ (σ : xw_M) (s0 : Int32) (v4 : Int32) (v5 : Int32), xb_X9_valueOf_234 o a1 a2 K6 K65 K102 K234 K251 K268 K285 Z σ s0 v4 v5 → K234 σ s0 v4 v5) ∧ (∀ (σ : xw_M) (s0 : Int32) (v4 : Int32) (v5 : Int32), xb_X9_valueOf_251 o a1 a2 K6 K65 K102 K234 K251 K268 K285 Z σ s0 v4 v5 → K251 σ s0 v4 v5) ∧ (∀ (σ : xw_M) (s0 : Int32) (v4 : Int32) (v5 : Int32), xb_X9_valueOf_268 o a1 a2 K6 K65 K102 K234 K251 K268 K285 Z σ s0 v4 v5 → K268 σ s0 v4 v5) ∧ (∀ (σ : xw_M) (s0 : Int32) (v4 : Int32) (v5 : Int32), xb_X9_valueOf_285 o a1 a2 K6 K65 K102 K234 K251 K268 K285 Z σ s0 v4 v5 → K285 σ s0 v4 v5)
section EVALA
variable {o : Nat} {a1 a2 : Int32} {Z : Int32 → xw_M → Prop} {K6 : xw_M → Int32 → Int32 → Prop} {K65 K102 K234 K251 K268 K285 : xw_M → Int32 → Int32 → Int32 → Prop}
theorem vA_num (H : vA_cl o a1 a2 Z K6 K65 K102 K234 K251 K268 K285) {σ : xw_M} {t i to sz : Nat} (h2 : a2 = nI to) (hs : σ.1 (9 + o) 10 = nI sz) (hto : to ≤ 400) (hsz : sz ≤ 400) (hi : i < to) (hi2 : i < sz) (ht : t < 400) (e : σ.1 (60 + o) i = 16) (h : K6 (xw_i σ (64 + o) t (σ.1 (62 + o) i)) (nI (t + 1)) (nI (i + 1))) : K6 σ (nI t) (nI i) := by
  apply H.1
  have ci : (nI i).toNatClampNeg = i := nI_clamp (by omega)
  have ct : (nI t).toNatClampNeg = t := nI_clamp (by omega)
  refine ⟨fun g => absurd g (by rw [h2]; exact nI_ge hi (by omega)), fun _ => ⟨fun g => absurd g (by rw [hs]; exact nI_ge hi2 (by omega)), fun _ => ⟨vp_in_nI (by omega) (by decide), fun g => absurd (by rw [ci]; exact e) g, fun _ => ⟨fun g => absurd g (by exact nI_ge (b := 400) ht (by decide)), fun _ => ⟨vp_in_nI (by omega) (by decide), vp_in_nI ht (by decide), fun σ1 e1 => ?_⟩⟩⟩⟩⟩
  rw [ci, ct] at e1
  rw [e1, nI_1, nI_1]
  exact h
theorem vA_var (H : vA_cl o a1 a2 Z K6 K65 K102 K234 K251 K268 K285) {σ : xw_M} {t i to sz k : Nat} (h2 : a2 = nI to) (hs : σ.1 (9 + o) 10 = nI sz) (hto : to ≤ 400) (hsz : sz ≤ 400) (hi : i < to) (hi2 : i < sz) (ht : t < 400) (hk : k < 9) (e : σ.1 (60 + o) i = nI k) (h : K6 (xw_i σ (64 + o) t (σ.1 44 k)) (nI (t + 1)) (nI (i + 1))) : K6 σ (nI t) (nI i) := by
  apply H.1
  have ci : (nI i).toNatClampNeg = i := nI_clamp (by omega)
  have ct : (nI t).toNatClampNeg = t := nI_clamp (by omega)
  have ck : (nI k).toNatClampNeg = k := nI_clamp (by omega)
  refine ⟨fun g => absurd g (by rw [h2]; exact nI_ge hi (by omega)), fun _ => ⟨fun g => absurd g (by rw [hs]; exact nI_ge hi2 (by omega)), fun _ => ⟨vp_in_nI (by omega) (by decide), fun _ => ?_, fun g => ?_⟩⟩⟩
  · apply H.2.1
    rw [ci, e]
    refine ⟨fun g => absurd g (nI_pos (by omega)), fun _ => ⟨fun g => absurd g (by exact nI_ge (b := 9) hk (by decide)), fun _ => ⟨fun g => absurd g (by exact nI_ge (b := 400) ht (by decide)), fun _ => ⟨vp_in_nI hk (by decide), vp_in_nI ht (by decide), fun σ1 e1 => ?_⟩⟩⟩⟩
    rw [ct, ck] at e1
    rw [e1, nI_1, nI_1]
    exact h
  · rw [ci, e] at g
    exact absurd ((nI_eq (b := 16) (by omega) (by decide)).mp g) (by omega)
theorem vA_op (H : vA_cl o a1 a2 Z K6 K65 K102 K234 K251 K268 K285) {σ : xw_M} {t i to sz c : Nat} (h2 : a2 = nI to) (hs : σ.1 (9 + o) 10 = nI sz) (hto : to ≤ 400) (hsz : sz ≤ 400) (hi : i < to) (hi2 : i < sz) (ht : t + 2 ≤ 400) (hc : c = 14 ∨ c = 15 ∨ 18 ≤ c ∧ c ≤ 24) (e : σ.1 (60 + o) i = nI c) (h : K6 (xw_i σ (64 + o) t (t_join c (σ.1 (64 + o) t) (σ.1 (64 + o) (t + 1)))) (nI (t + 1)) (nI (i + 1))) : K6 σ (nI (t + 2)) (nI i) := by
  apply H.1
  have ci : (nI i).toNatClampNeg = i := nI_clamp (by omega)
  have ct : (nI t).toNatClampNeg = t := nI_clamp (by omega)
  have ct1 : (nI (t + 1)).toNatClampNeg = t + 1 := nI_clamp (by omega)
  have s2 : nI (t + 2) - (2 : Int32) = nI t := pk_sub (a := t + 2) (b := 2) (by omega)
  have s1 : nI (t + 2) - (1 : Int32) = nI (t + 1) := pk_sub (a := t + 2) (b := 1) (by omega)
  have iv : vp_in (nI (t + 2) - (2 : Int32)) 400 := by rw [s2]; exact vp_in_nI (by omega) (by decide)
  refine ⟨fun g => absurd g (by rw [h2]; exact nI_ge hi (by omega)), fun _ => ⟨fun g => absurd g (by rw [hs]; exact nI_ge hi2 (by omega)), fun _ => ⟨vp_in_nI (by omega) (by decide), fun _ => ?_, fun g => ?_⟩⟩⟩
  · apply H.2.1
    rw [ci, e]
    refine ⟨fun g => absurd g (nI_pos (by omega)), fun _ => ⟨fun _ => ?_, fun g => absurd (nI_le (a := 9) (by omega) (by omega)) g⟩⟩
    apply H.2.2.1
    refine ⟨fun g => absurd g (nI_nlt (b := 2) (by omega) (by omega)), fun _ => ⟨iv, fun x3 e3 => ⟨by rw [s1]; exact vp_in_nI (by omega) (by decide), fun x4 e4 => ?_⟩⟩⟩
    rw [s2, ct] at e3
    rw [s1, ct1] at e4
    rw [← e3, ← e4] at h
    have cc : ∀ (d : Nat), d < 100 → nI c = nI d → c = d := fun d hd g => (nI_eq (by omega) (by omega)).mp g
    refine ⟨fun g => ⟨iv, fun σ1 e1 => ?_⟩, fun g1 => ⟨fun g => ⟨iv, fun σ1 e1 => ?_⟩, fun g2 => ⟨fun g => ⟨iv, fun σ1 e1 => ?_⟩, fun g3 => ⟨fun g => ⟨iv, fun σ1 e1 => ?_⟩, fun g4 => ⟨fun g => ⟨iv, fun σ1 e1 => ?_⟩, fun g5 => ⟨fun g => ?_, fun g6 => ⟨fun g => ?_, fun g7 => ⟨fun g => ?_, fun g8 => ⟨fun g => ?_, fun g9 => ?_⟩⟩⟩⟩⟩⟩⟩⟩⟩
    · rw [s2, ct] at e1
      obtain rfl := cc 14 (by decide) g
      rw [e1, pk_m1, nI_1]; exact h
    · rw [s2, ct] at e1
      obtain rfl := cc 15 (by decide) g
      rw [e1, pk_m1, nI_1]; exact h
    · rw [s2, ct] at e1
      obtain rfl := cc 18 (by decide) g
      rw [e1, pk_m1, nI_1]; exact h
    · rw [s2, ct] at e1
      obtain rfl := cc 19 (by decide) g
      rw [e1, pk_m1, nI_1]; exact h
    · rw [s2, ct] at e1
      obtain rfl := cc 20 (by decide) g
      rw [e1, pk_m1, nI_1]; exact h
    · obtain rfl := cc 21 (by decide) g
      refine ⟨fun g => H.2.2.2.1 _ _ _ _ ⟨iv, fun σ1 e1 => ?_⟩, fun g => H.2.2.2.1 _ _ _ _ ⟨iv, fun σ1 e1 => ?_⟩⟩
      · rw [s2, ct] at e1
        rw [e1, pk_m1, nI_1]; simpa [t_join, t_b, g] using h
      · rw [s2, ct] at e1
        rw [e1, pk_m1, nI_1]; simpa [t_join, t_b, g] using h
    · obtain rfl := cc 22 (by decide) g
      refine ⟨fun g => H.2.2.2.2.1 _ _ _ _ ⟨iv, fun σ1 e1 => ?_⟩, fun g => H.2.2.2.2.1 _ _ _ _ ⟨iv, fun σ1 e1 => ?_⟩⟩
      · rw [s2, ct] at e1
        rw [e1, pk_m1, nI_1]; simpa [t_join, t_b, g] using h
      · rw [s2, ct] at e1
        rw [e1, pk_m1, nI_1]; simpa [t_join, t_b, g] using h
    · obtain rfl := cc 23 (by decide) g
      refine ⟨fun g => H.2.2.2.2.2.1 _ _ _ _ ⟨iv, fun σ1 e1 => ?_⟩, fun g => H.2.2.2.2.2.1 _ _ _ _ ⟨iv, fun σ1 e1 => ?_⟩⟩
      · rw [s2, ct] at e1
        have g2 : ¬ x3 < x4 := by rw [i_le] at g; rw [i_lt]; omega
        rw [e1, pk_m1, nI_1]; simpa [t_join, t_b, g2] using h
      · rw [s2, ct] at e1
        have g2 : x3 < x4 := by rw [i_le] at g; rw [i_lt]; omega
        rw [e1, pk_m1, nI_1]; simpa [t_join, t_b, g2] using h
    · obtain rfl := cc 24 (by decide) g
      refine ⟨fun g => H.2.2.2.2.2.2 _ _ _ _ ⟨iv, fun σ1 e1 => ?_⟩, fun g => H.2.2.2.2.2.2 _ _ _ _ ⟨iv, fun σ1 e1 => ?_⟩⟩
      · rw [s2, ct] at e1
        have g2 : ¬ x3 ≤ x4 := by rw [i_lt] at g; rw [i_le]; omega
        rw [e1, pk_m1, nI_1]; simpa [t_join, t_b, g2] using h
      · rw [s2, ct] at e1
        have g2 : x3 ≤ x4 := by rw [i_lt] at g; rw [i_le]; omega
        rw [e1, pk_m1, nI_1]; simpa [t_join, t_b, g2] using h
    · exfalso
      rcases hc with rfl | rfl | ⟨ha, hb⟩
      · exact g1 rfl
      · exact g2 rfl
      · rcases (show c = 18 ∨ c = 19 ∨ c = 20 ∨ c = 21 ∨ c = 22 ∨ c = 23 ∨ c = 24 by omega) with rfl | rfl | rfl | rfl | rfl | rfl | rfl
        · exact g3 rfl
        · exact g4 rfl
        · exact g5 rfl
        · exact g6 rfl
        · exact g7 rfl
        · exact g8 rfl
        · exact g9 rfl
  · rw [ci, e] at g
    exact absurd ((nI_eq (b := 16) (by omega) (by decide)).mp g) (by omega)
end EVALA
