/-- σ1 is σ but for the class's stack (of the text o) from t on -/
def vA_fr (o t : Nat) (σ σ1 : xw_M) : Prop := (∀ c, c ≠ 64 + o → σ1.1 c = σ.1 c) ∧ ∀ j, j < t → σ1.1 (64 + o) j = σ.1 (64 + o) j
theorem vA_fr_i {o t j : Nat} {σ : xw_M} {v : Int32} (h : t ≤ j) : vA_fr o t σ (xw_i σ (64 + o) j v) := ⟨fun c hc => xw_ne hc, fun k hk => xw_nj (by omega)⟩
theorem vA_fr_t {o t u : Nat} {σ σ1 σ2 : xw_M} (h1 : vA_fr o t σ σ1) (h2 : vA_fr o u σ1 σ2) (h : t ≤ u) : vA_fr o t σ σ2 := ⟨fun c hc => (h2.1 c hc).trans (h1.1 c hc), fun k hk => (h2.2 k (by omega)).trans (h1.2 k hk)⟩
/-- the steps i .. j, done with t on the stack, leave t + 1 there, x on top -/
def vA_D (o : Nat) (K6 : xw_M → Int32 → Int32 → Prop) (σ0 : xw_M) (to i j : Nat) (x : Int32) : Prop := j ≤ to → ∀ (σ : xw_M) (t : Nat), (∀ c, c ≠ 64 + o → σ.1 c = σ0.1 c) → t + (j - i) ≤ 400 → (∀ σ1, vA_fr o t σ σ1 → σ1.1 (64 + o) t = x → K6 σ1 (nI (t + 1)) (nI j)) → K6 σ (nI t) (nI i)
section EVALA2
variable {o : Nat} {a1 a2 : Int32} {Z : Int32 → xw_M → Prop} {K6 : xw_M → Int32 → Int32 → Prop} {K65 K102 K234 K251 K268 K285 : xw_M → Int32 → Int32 → Int32 → Prop}
theorem vA_two (H : vA_cl o a1 a2 Z K6 K65 K102 K234 K251 K268 K285) {σ0 : xw_M} {to sz i m n c : Nat} {x y : Int32} (h2 : a2 = nI to) (hs : σ0.1 (9 + o) 10 = nI sz) (hto : to ≤ sz) (hsz : sz ≤ 400) (ho : o < 10) (him : i < m) (hmn : m < n) (ha : vA_D o K6 σ0 to i m x) (hb : vA_D o K6 σ0 to m n y) (hc : c = 14 ∨ c = 15 ∨ 18 ≤ c ∧ c ≤ 24) (e : σ0.1 (60 + o) n = nI c) : vA_D o K6 σ0 to i (n + 1) (t_join c x y) := by
  intro hj σ t hf ht hk
  refine ha (by omega) σ t hf (by omega) (fun σ1 f1 e1 => ?_)
  refine hb (by omega) σ1 (t + 1) (fun c hc => (f1.1 c hc).trans (hf c hc)) (by omega) (fun σ2 f2 e2 => ?_)
  have g : ∀ c, c ≠ 64 + o → σ2.1 c = σ0.1 c := fun c hc => (f2.1 c hc).trans ((f1.1 c hc).trans (hf c hc))
  refine vA_op H h2 (by rw [g _ (by omega)]; exact hs) (by omega) hsz (by omega) (by omega) (by omega) hc (by rw [g _ (by omega)]; exact e) ?_
  rw [e2, f2.2 t (by omega), e1]
  exact hk _ (vA_fr_t (vA_fr_t f1 f2 (by omega)) (vA_fr_i (Nat.le_refl t)) (Nat.le_refl t)) xw_eq
theorem vA_term (H : vA_cl o a1 a2 Z K6 K65 K102 K234 K251 K268 K285) {σ0 : xw_M} {to sz : Nat} (h2 : a2 = nI to) (hs : σ0.1 (9 + o) 10 = nI sz) (hto : to ≤ sz) (hsz : sz ≤ 400) (ho : o < 10) {i j : Nat} {f : tF} (h : tA (σ0.1 (60 + o)) (σ0.1 (62 + o)) i j f) : vA_D o K6 σ0 to i j (f (σ0.1 44)) := by
  refine h (fun i j f => vA_D o K6 σ0 to i j (f (σ0.1 44))) ?_ ?_ ?_
  · intro i e hj σ t hf ht hk
    refine vA_num H h2 (by rw [hf _ (by omega)]; exact hs) (by omega) hsz (by omega) (by omega) (by omega) (by rw [hf _ (by omega)]; exact e) ?_
    exact hk _ (vA_fr_i (Nat.le_refl t)) (by rw [xw_eq, hf _ (by omega)])
  · intro i k hk e hj σ t hf ht hk2
    refine vA_var H h2 (by rw [hf _ (by omega)]; exact hs) (by omega) hsz (by omega) (by omega) (by omega) hk (by rw [hf _ (by omega)]; exact e) ?_
    exact hk2 _ (vA_fr_i (Nat.le_refl t)) (by rw [xw_eq, hf _ (by omega)])
  · intro i m n k f g hk him hmn ha hb e
    have := vA_two H h2 hs hto hsz ho him hmn ha hb (by omega) e
    have ej : t_join (18 + k) (f (σ0.1 44)) (g (σ0.1 44)) = t_op k (f (σ0.1 44)) (g (σ0.1 44)) := by
      rcases (show k = 0 ∨ k = 1 ∨ k = 2 by omega) with rfl | rfl | rfl <;> rfl
    rw [ej] at this
    exact this
theorem tAr_lt {st nu : Nat → Int32} {i j : Nat} {R : tG} (h : tAr st nu i j R) : i < j := by
  obtain ⟨m, n, s, f, g, _, h1, h2, _, rfl, _⟩ := h
  have := tA_lt h1
  have := tA_lt h2
  omega
theorem vA_rel (H : vA_cl o a1 a2 Z K6 K65 K102 K234 K251 K268 K285) {σ0 : xw_M} {to sz : Nat} (h2 : a2 = nI to) (hs : σ0.1 (9 + o) 10 = nI sz) (hto : to ≤ sz) (hsz : sz ≤ 400) (ho : o < 10) {i j : Nat} {R : tG} (h : tAr (σ0.1 (60 + o)) (σ0.1 (62 + o)) i j R) : vA_D o K6 σ0 to i j (t_b (R (σ0.1 44))) := by
  obtain ⟨m, n, s, f, g, hs4, ha, hb, e, rfl, rfl⟩ := h
  have := vA_two H h2 hs hto hsz ho (tA_lt ha) (tA_lt hb) (vA_term H h2 hs hto hsz ho ha) (vA_term H h2 hs hto hsz ho hb) (by omega) e
  have ej : t_join (21 + s) (f (σ0.1 44)) (g (σ0.1 44)) = t_b (t_rel s (f (σ0.1 44)) (g (σ0.1 44))) := by
    rcases (show s = 0 ∨ s = 1 ∨ s = 2 ∨ s = 3 by omega) with rfl | rfl | rfl | rfl <;> rfl
  rw [ej] at this
  exact this
theorem t_and (a b : Bool) : t_b a &&& t_b b = t_b (a && b) := by cases a <;> cases b <;> decide
theorem t_or (a b : Bool) : t_b a ||| t_b b = t_b (a || b) := by cases a <;> cases b <;> decide
theorem tAand_le {st nu : Nat → Int32} : ∀ {l : List tG} {i j : Nat}, tAand st nu l i j → i ≤ j
  | [], _, _, h => Nat.le_of_eq h
  | R :: l, i, j, ⟨n, h1, _, h2⟩ => by have := tAr_lt h1; have := tAand_le h2; omega
theorem tAall_lt {st nu : Nat → Int32} : ∀ {l : List tG} {i j : Nat}, tAall st nu l i j → i < j
  | [], _, _, h => h.elim
  | R :: l, i, j, ⟨n, h1, h2⟩ => by have := tAr_lt h1; have := tAand_le h2; omega
theorem tAors_le {st nu : Nat → Int32} : ∀ {l : List (List tG)} {i j : Nat}, tAors st nu l i j → i ≤ j
  | [], _, _, h => Nat.le_of_eq h
  | R :: l, i, j, ⟨n, h1, _, h2⟩ => by have := tAall_lt h1; have := tAors_le h2; omega
theorem vA_and (H : vA_cl o a1 a2 Z K6 K65 K102 K234 K251 K268 K285) {σ0 : xw_M} {to sz : Nat} (h2 : a2 = nI to) (hs : σ0.1 (9 + o) 10 = nI sz) (hto : to ≤ sz) (hsz : sz ≤ 400) (ho : o < 10) : ∀ {l : List tG} {i m j : Nat} {b : Bool}, i < m → vA_D o K6 σ0 to i m (t_b b) → tAand (σ0.1 (60 + o)) (σ0.1 (62 + o)) l m j → vA_D o K6 σ0 to i j (t_b (b && t_all (σ0.1 44) l))
  | [], i, m, j, b, hm, hd, h => by
    obtain rfl : m = j := h
    simpa [t_all] using hd
  | R :: l, i, m, j, b, hm, hd, ⟨n, h1, e, h3⟩ => by
    have d1 := vA_rel H h2 hs hto hsz ho h1
    have d2 := vA_two H h2 hs hto hsz ho (c := 15) hm (tAr_lt h1) hd d1 (by omega) e
    have d3 := vA_and H h2 hs hto hsz ho (i := i) (b := b && R (σ0.1 44)) (by have := tAr_lt h1; omega) (by rw [← t_and]; exact d2) h3
    simpa [t_all, Bool.and_assoc] using d3
theorem vA_all (H : vA_cl o a1 a2 Z K6 K65 K102 K234 K251 K268 K285) {σ0 : xw_M} {to sz : Nat} (h2 : a2 = nI to) (hs : σ0.1 (9 + o) 10 = nI sz) (hto : to ≤ sz) (hsz : sz ≤ 400) (ho : o < 10) : ∀ {l : List tG} {i j : Nat}, tAall (σ0.1 (60 + o)) (σ0.1 (62 + o)) l i j → vA_D o K6 σ0 to i j (t_b (t_all (σ0.1 44) l))
  | [], i, j, h => h.elim
  | R :: l, i, j, ⟨m, h1, h3⟩ => by
    have d3 := vA_and H h2 hs hto hsz ho (tAr_lt h1) (vA_rel H h2 hs hto hsz ho h1) h3
    simpa [t_all] using d3
theorem vA_ors (H : vA_cl o a1 a2 Z K6 K65 K102 K234 K251 K268 K285) {σ0 : xw_M} {to sz : Nat} (h2 : a2 = nI to) (hs : σ0.1 (9 + o) 10 = nI sz) (hto : to ≤ sz) (hsz : sz ≤ 400) (ho : o < 10) : ∀ {l : List (List tG)} {i m j : Nat} {b : Bool}, i < m → vA_D o K6 σ0 to i m (t_b b) → tAors (σ0.1 (60 + o)) (σ0.1 (62 + o)) l m j → vA_D o K6 σ0 to i j (t_b (b || t_cond (σ0.1 44) l))
  | [], i, m, j, b, hm, hd, h => by
    obtain rfl : m = j := h
    simpa [t_cond] using hd
  | R :: l, i, m, j, b, hm, hd, ⟨n, h1, e, h3⟩ => by
    have d1 := vA_all H h2 hs hto hsz ho h1
    have d2 := vA_two H h2 hs hto hsz ho (c := 14) hm (tAall_lt h1) hd d1 (by omega) e
    have d3 := vA_ors H h2 hs hto hsz ho (i := i) (b := b || t_all (σ0.1 44) R) (by have := tAall_lt h1; omega) (by rw [← t_or]; exact d2) h3
    simpa [t_cond, Bool.or_assoc] using d3
theorem vA_cond (H : vA_cl o a1 a2 Z K6 K65 K102 K234 K251 K268 K285) {σ0 : xw_M} {to sz : Nat} (h2 : a2 = nI to) (hs : σ0.1 (9 + o) 10 = nI sz) (hto : to ≤ sz) (hsz : sz ≤ 400) (ho : o < 10) {L : List tG} {l : List (List tG)} {i j : Nat} (h : tAcond (σ0.1 (60 + o)) (σ0.1 (62 + o)) (L :: l) i j) : vA_D o K6 σ0 to i j (t_b (t_cond (σ0.1 44) (L :: l))) := by
  obtain ⟨m, h1, h3⟩ := h
  have d3 := vA_ors H h2 hs hto hsz ho (tAall_lt h1) (vA_all H h2 hs hto hsz ho h1) h3
  simpa [t_cond] using d3
end EVALA2
theorem vA_run {o : Nat} {σ : xw_M} {i j sz : Nat} {x : Int32} {Z : Int32 → xw_M → Prop} (hij : i ≤ j) (hs : σ.1 (9 + o) 10 = nI sz) (hjs : j ≤ sz) (hsz : sz ≤ 400) (hd : ∀ K6 K65 K102 K234 K251 K268 K285, vA_cl o (nI i) (nI j) Z K6 K65 K102 K234 K251 K268 K285 → vA_D o K6 σ j i j x) (h : ∀ σ1, (∀ c, c ≠ 64 + o → σ1.1 c = σ.1 c) → Z x σ1) : xu_X9_valueOf σ o (nI i) (nI j) Z := by
  intro K6 K65 K102 K234 K251 K268 K285 h6 h65 h102 h234 h251 h268 h285
  refine hd _ _ _ _ _ _ _ ⟨h6, h65, h102, h234, h251, h268, h285⟩ (Nat.le_refl j) σ 0 (fun _ _ => rfl) (by omega) (fun σ1 f1 e1 => ?_)
  apply h6
  refine ⟨fun _ => ⟨fun g => absurd g (by decide), fun _ => ⟨vp_in_nI (n := 0) (by decide) (by decide), ?_⟩⟩, fun g => absurd (nI_le (Nat.le_refl j) (by omega)) g⟩
  show Z (σ1.1 (64 + o) 0) σ1
  rw [e1]
  exact h σ1 f1.1
theorem qA_term {o : Nat} {σ : xw_M} {i j sz : Nat} {f : tF} {Z : Int32 → xw_M → Prop} (ho : o < 10) (hs : σ.1 (9 + o) 10 = nI sz) (hjs : j ≤ sz) (hsz : sz ≤ 400) (ht : tA (σ.1 (60 + o)) (σ.1 (62 + o)) i j f) (h : ∀ σ1, (∀ c, c ≠ 64 + o → σ1.1 c = σ.1 c) → Z (f (σ.1 44)) σ1) : xu_X9_valueOf σ o (nI i) (nI j) Z :=
  vA_run (Nat.le_of_lt (tA_lt ht)) hs hjs hsz (fun _ _ _ _ _ _ _ H => vA_term H rfl hs hjs hsz ho ht) h
theorem qA_cond {o : Nat} {σ : xw_M} {i j sz : Nat} {L : List tG} {l : List (List tG)} {Z : Int32 → xw_M → Prop} (ho : o < 10) (hs : σ.1 (9 + o) 10 = nI sz) (hjs : j ≤ sz) (hsz : sz ≤ 400) (ht : tAcond (σ.1 (60 + o)) (σ.1 (62 + o)) (L :: l) i j) (h : ∀ σ1, (∀ c, c ≠ 64 + o → σ1.1 c = σ.1 c) → Z (t_b (t_cond (σ.1 44) (L :: l))) σ1) : xu_X9_valueOf σ o (nI i) (nI j) Z := by
  have hij : i ≤ j := by
    obtain ⟨m, h1, h2⟩ := ht
    have := tAall_lt h1
    have := tAors_le h2
    omega
  exact vA_run hij hs hjs hsz (fun _ _ _ _ _ _ _ H => vA_cond H rfl hs hjs hsz ho ht) h
