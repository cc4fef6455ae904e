/-! the reference places a BREED, and goes to the next order -/
def b_rel (τ : xw_M) (acc : List pE) : Prop := ∀ p, p ∈ acc → τ.1 52 p.1 = nI p.2.1 ∧ τ.1 53 p.1 = nI p.2.2.1 ∧ τ.1 54 p.1 = nI p.2.2.2
def b_env (V : pV) (nb : Nat) (τ : xw_M) : Prop := (∀ b, b < nb → τ.1 48 b = nI (V.1 b) ∧ (p_B V b → τ.1 49 b = V.2.1 b) ∧ τ.1 50 b = V.2.2.1 b) ∧ τ.1 0 41 = nI V.2.2.2
def b_ord (τ : xw_M) (o : List Nat) : Prop := ∀ j, j < o.length → τ.1 51 j = nI (n_f o j)
def b_key (o : List Nat) (i : Nat) (acc : List pE) : Prop := (∀ p, p ∈ acc → ∃ j, j < i ∧ n_f o j = p.1) ∧ ∀ j, j < i → ∃ p, p ∈ acc ∧ p.1 = n_f o j
def b_put (τ : xw_M) (b : Nat) (e : Nat × Nat × Nat) : xw_M := xw_i (xw_i (xw_i τ 54 b (nI e.2.2)) 52 b (nI e.1)) 53 b (nI e.2.1)
theorem b_lane : ∀ R, R < 4 → ∀ q, q < 32 → bt ((1 : Int32) <<< (nI R &&& 31) - 1) q = decide (q < R) := by decide +kernel
theorem b_clr (x : Int32) {r i : Nat} (hr : r < 32) (hi : i < 32) : bt (x &&& (((1 : Int32) <<< (nI r &&& 31)) ^^^ (-1))) i = (bt x i && decide (i ≠ r)) := by
  rw [b_and, b_xor, b_m1 i hi, b_shl r hr 1 hi, bt_1 _ (by omega)]
  by_cases c : i = r
  · subst c; simp
  · by_cases c2 : r ≤ i
    · simp [c, show ¬ i - r = 0 by omega]
    · simp [c, c2]
section PLACEB
variable {V : pV} {nb : Nat} {τ : xw_M} {o : List Nat} {acc : List pE} {i : Nat}
theorem b_places {e : Nat × Nat × Nat} {Z : xw_M → Prop} (hV : p_V V) (n6 : nb ≤ 6) (l6 : acc.length ≤ 6) (ok : p_ok V nb acc) (env : b_env V nb τ) (ord : b_ord τ o) (rel : b_rel τ acc) (ky : b_key o i acc) (hi : i < o.length) (o6 : o.length ≤ 6) (ho : ∀ j, j < o.length → n_f o j < nb) (hB : p_B V (n_f o i)) (he : p_is V acc (n_f o i) e) (h : Z (b_put τ (n_f o i) e)) : xu_X12_places τ (nI i) Z := by
  have hb := ho i hi
  have tb := hV.2.2.1 (n_f o i)
  have le := p_is_le hV hB he
  have l1 := ok.1
  have R1 := hV.1
  have R3 := hV.2.1
  obtain ⟨en, er⟩ := env
  have oi := ord i hi
  generalize hbb : n_f o i = b at *
  have vb : vp_in (nI b) 6 := vp_in_nI (by omega) (by decide)
  have cb : (nI b).toNatClampNeg = b := nI_clamp (by omega)
  intro K9 K33 h9 h33
  refine ⟨vp_in_nI (by omega) (by decide), ?_⟩
  rw [nI_clamp (n := i) (by omega), oi]
  have D : ∀ (t j : Nat), j < i → ∃ p, p ∈ acc ∧ p.1 = n_f o j ∧ τ.1 54 (n_f o j) = nI p.2.2.2 ∧ τ.1 52 (n_f o j) = nI p.2.1 ∧ τ.1 53 (n_f o j) = nI p.2.2.1 ∧ ∀ q, q ∈ acc → q.1 = n_f o j → q.2.2.2 = p.2.2.2 ∧ q.2.1 = p.2.1 ∧ q.2.2.1 = p.2.2.1 := by
    intro t j hj
    obtain ⟨p, p1, p2⟩ := ky.2 j hj
    obtain ⟨r1, r2, r3⟩ := rel p p1
    have bd := p_bd l6 ok p1
    have k1 := ok.2.2 p p1
    rw [p2] at r1 r2 r3
    refine ⟨p, p1, p2, r3, r1, r2, fun q q1 q2 => ?_⟩
    obtain ⟨s1, s2, s3⟩ := rel q q1
    have bq := p_bd l6 ok q1
    have k2 := ok.2.2 q q1
    rw [q2] at s1 s2 s3
    rw [s1] at r1
    rw [s2] at r2
    rw [s3] at r3
    exact ⟨(nI_eq (by omega) (by omega)).mp r3, (nI_eq (by omega) (by omega)).mp r1, (nI_eq (by omega) (by omega)).mp r2⟩
  have tick : ∀ t, t ≤ e.2.2 → (t < e.2.2 → K9 τ (nI b) (nI (t + 1))) → K9 τ (nI b) (nI t) := by
    intro t ht next
    apply h9
    unfold xb_X12_places_9
    rw [cb, (en b hb).2.1 hB, er]
    refine ⟨vb, fun x1 e1 => ?_⟩
    have key : ∀ (k j : Nat) (free lanes cl : Int32), j + k = i → (∀ q, q < 32 → (bt lanes q = true ↔ q < V.2.2.2 ∧ ¬ ∃ p, p ∈ acc ∧ (∃ j', j' < j ∧ p.1 = n_f o j') ∧ p_ov V b t p ∧ p.2.1 = q)) → (∀ q, q < 32 → (bt free q = true ↔ bt (V.2.1 b) q = true ∧ ¬ ∃ p, p ∈ acc ∧ (∃ j', j' < j ∧ p.1 = n_f o j') ∧ p_ov V b t p ∧ p.2.2.1 = q)) → ((cl = 0 ∧ ∀ p, p ∈ acc → (∃ j', j' < j ∧ p.1 = n_f o j') → p_ov V b t p → V.2.2.1 p.1 &&& V.2.2.1 b = 0) ∨ (cl = 1 ∧ ∃ p, p ∈ acc ∧ (∃ j', j' < j ∧ p.1 = n_f o j') ∧ p_ov V b t p ∧ ¬ V.2.2.1 p.1 &&& V.2.2.1 b = 0)) → K33 τ (nI b) (nI t) free lanes cl (nI j) := by
      intro k
      induction k with
      | zero =>
        intro j free lanes cl hj hl hf hc
        obtain rfl : j = i := by omega
        have all : ∀ p, p ∈ acc → ∃ j', j' < j ∧ p.1 = n_f o j' := fun p hp => by
          obtain ⟨j', a1, a2⟩ := ky.1 p hp
          exact ⟨j', a1, a2.symm⟩
        have hl' : ∀ q, q < 32 → (bt lanes q = true ↔ q < V.2.2.2 ∧ ¬ p_r V acc b t q) := by
          intro q hq
          rw [hl q hq]
          refine and_congr Iff.rfl (not_congr ⟨fun ⟨p, p1, _, p2, p3⟩ => ⟨p, p1, p2, p3⟩, fun ⟨p, p1, p2, p3⟩ => ⟨p, p1, all p p1, p2, p3⟩⟩)
        have hf' : ∀ q, q < 32 → (bt free q = true ↔ bt (V.2.1 b) q = true ∧ ¬ p_j V acc b t q) := by
          intro q hq
          rw [hf q hq]
          refine and_congr Iff.rfl (not_congr ⟨fun ⟨p, p1, _, p2, p3⟩ => ⟨p, p1, p2, p3⟩, fun ⟨p, p1, p2, p3⟩ => ⟨p, p1, all p p1, p2, p3⟩⟩)
        have no : ¬ p_fit V acc b t → K9 τ (nI b) (nI t + 1) := by
          intro g
          rw [nI_1]
          refine next (Nat.lt_of_le_of_ne ht (fun c => g ?_))
          rw [c]
          exact he.1
        apply h33
        unfold xb_X12_places_33
        rw [cb]
        refine ⟨fun _ => ⟨fun z => no (fun f => ?_), fun z => ⟨fun z1 => no (fun f => ?_), fun z1 => ⟨fun z2 => ?_, fun z2 => no (fun f => ?_)⟩⟩⟩, fun z => absurd (nI_le (Nat.le_refl j) (by omega)) z⟩
        · rcases hc with ⟨g, _⟩ | ⟨_, p, p1, _, p2, p3⟩
          · exact z g
          · exact f.2.2 ⟨p, p1, p2, p3⟩
        · obtain ⟨q, q1, q2⟩ := f.1
          have := (hl' q (by omega)).mpr ⟨q1, q2⟩
          rw [z1, b_0] at this
          exact absurd this (by decide)
        · have fit : p_fit V acc b t := by
            refine ⟨?_, ?_, ?_⟩
            · obtain ⟨q, q1, q2, _⟩ := b_low z1
              exact ⟨q, (hl' q q1).mp q2⟩
            · obtain ⟨q, q1, q2, _⟩ := b_low z2
              have g := (hf' q q1).mp q2
              have q12 : q < 12 := Nat.not_le.mp (fun c => by rw [hV.2.2.2 b q c q1] at g; exact absurd g.1 (by decide))
              exact ⟨q, q12, g⟩
            · rintro ⟨p, p1, p2, p3⟩
              rcases hc with ⟨_, g⟩ | ⟨g, _⟩
              · exact p3 (g p p1 (all p p1) p2)
              · rw [g] at z; exact absurd z (by decide)
          have te : t = e.2.2 := by
            have : ¬ t < e.2.2 := fun c => he.2.1 t c fit
            omega
          subst te
          obtain ⟨_, _, ⟨r1, r2, r3⟩, j1, j2, j3, j4⟩ := id he
          refine ⟨vb, fun τ2 e2 => qB_least (k := e.1) (by omega) ((hl' _ (by omega)).mpr ⟨r1, r2⟩) (fun q hq => ?_) ⟨vb, fun τ5 e5 => qB_least (k := e.2.1) (by omega) ((hf' _ (by omega)).mpr ⟨j2, j3⟩) (fun q hq => ?_) ⟨vb, fun τ8 e8 => ?_⟩⟩⟩
          · cases hb : bt lanes q
            · rfl
            · exact absurd (r3 q hq) ((hl' q (by omega)).mp hb).2
          · cases hb : bt free q
            · rfl
            · have g := (hf' q (by omega)).mp hb
              exact absurd (j4 q hq g.1) g.2
          · rw [e8, e5, e2]
            exact h
        · obtain ⟨q, q1, q2, q3⟩ := f.2.1
          have := (hf' q (by omega)).mpr ⟨q2, q3⟩
          rw [z2, b_0] at this
          exact absurd this (by decide)
      | succ k ih =>
        intro j free lanes cl hj hl hf hc
        have hjo := ho j (by omega)
        obtain ⟨p, p1, p2, c54, c52, c53, uni⟩ := D t j (by omega)
        have bd := p_bd l6 ok p1
        have k1 := ok.2.2 p p1
        have tk := hV.2.2.1 p.1
        have tkj := hV.2.2.1 (n_f o j)
        have oj := ord j (by omega)
        have vo : vp_in (nI (n_f o j)) 6 := vp_in_nI (by omega) (by decide)
        have ovp : p_ov V b t p ↔ p.2.2.2 < t + V.1 b ∧ t < p.2.2.2 + V.1 (n_f o j) := by
          rw [← p2]; exact Iff.rfl
        have split : ∀ q : pE, q ∈ acc → ((∃ j', j' < j + 1 ∧ q.1 = n_f o j') ↔ (∃ j', j' < j ∧ q.1 = n_f o j') ∨ q.1 = n_f o j) := by
          intro q _
          constructor
          · rintro ⟨j', a1, a2⟩
            by_cases c : j' = j
            · subst c; exact Or.inr a2
            · exact Or.inl ⟨j', by omega, a2⟩
          · rintro (⟨j', a1, a2⟩ | a2)
            · exact ⟨j', by omega, a2⟩
            · exact ⟨j, by omega, a2⟩
        have ovq : ∀ q, q ∈ acc → q.1 = n_f o j → (p_ov V b t q ↔ p_ov V b t p) := by
          intro q q1 q2
          have u := uni q q1 q2
          unfold p_ov p_end
          rw [u.1, q2, p2]
        have skip : ¬ p_ov V b t p → K33 τ (nI b) (nI t) free lanes cl (nI (j + 1)) := by
          intro nov
          refine ih (j + 1) free lanes cl (by omega) (fun q hq => ?_) (fun q hq => ?_) ?_
          · rw [hl q hq]
            refine and_congr Iff.rfl (not_congr ⟨fun ⟨x, x1, x2, x3, x4⟩ => ⟨x, x1, (split x x1).mpr (Or.inl x2), x3, x4⟩, fun ⟨x, x1, x2, x3, x4⟩ => ⟨x, x1, ?_, x3, x4⟩⟩)
            exact ((split x x1).mp x2).resolve_right (fun c => nov ((ovq x x1 c).mp x3))
          · rw [hf q hq]
            refine and_congr Iff.rfl (not_congr ⟨fun ⟨x, x1, x2, x3, x4⟩ => ⟨x, x1, (split x x1).mpr (Or.inl x2), x3, x4⟩, fun ⟨x, x1, x2, x3, x4⟩ => ⟨x, x1, ?_, x3, x4⟩⟩)
            exact ((split x x1).mp x2).resolve_right (fun c => nov ((ovq x x1 c).mp x3))
          · rcases hc with ⟨g, f⟩ | ⟨g, x, x1, x2, x3, x4⟩
            · refine Or.inl ⟨g, fun x x1 x2 x3 => f x x1 ?_ x3⟩
              exact ((split x x1).mp x2).resolve_right (fun c => nov ((ovq x x1 c).mp x3))
            · exact Or.inr ⟨g, x, x1, (split x x1).mpr (Or.inl x2), x3, x4⟩
        have step : p_ov V b t p → ∀ cl', ((cl' = 0 ∧ cl = 0 ∧ V.2.2.1 (n_f o j) &&& V.2.2.1 b = 0) ∨ (cl' = 1 ∧ (cl = 1 ∨ ¬ V.2.2.1 (n_f o j) &&& V.2.2.1 b = 0))) → K33 τ (nI b) (nI t) (free &&& (((1 : Int32) <<< (nI p.2.2.1 &&& 31)) ^^^ (-1))) (lanes &&& (((1 : Int32) <<< (nI p.2.1 &&& 31)) ^^^ (-1))) cl' (nI (j + 1)) := by
          intro ov cl' hcl
          refine ih (j + 1) _ _ cl' (by omega) (fun q hq => ?_) (fun q hq => ?_) ?_
          · rw [b_clr lanes (by omega) hq, Bool.and_eq_true, decide_eq_true_iff, hl q hq]
            constructor
            · rintro ⟨⟨y1, y2⟩, y3⟩
              refine ⟨y1, fun ⟨x, x1, x2, x3, x4⟩ => ?_⟩
              rcases (split x x1).mp x2 with c | c
              · exact y2 ⟨x, x1, c, x3, x4⟩
              · have := (uni x x1 c).2.1
                omega
            · rintro ⟨y1, y2⟩
              refine ⟨⟨y1, fun ⟨x, x1, x2, x3, x4⟩ => y2 ⟨x, x1, (split x x1).mpr (Or.inl x2), x3, x4⟩⟩, fun c => y2 ⟨p, p1, (split p p1).mpr (Or.inr p2), ov, c.symm⟩⟩
          · rw [b_clr free (by omega) hq, Bool.and_eq_true, decide_eq_true_iff, hf q hq]
            constructor
            · rintro ⟨⟨y1, y2⟩, y3⟩
              refine ⟨y1, fun ⟨x, x1, x2, x3, x4⟩ => ?_⟩
              rcases (split x x1).mp x2 with c | c
              · exact y2 ⟨x, x1, c, x3, x4⟩
              · have := (uni x x1 c).2.2
                omega
            · rintro ⟨y1, y2⟩
              refine ⟨⟨y1, fun ⟨x, x1, x2, x3, x4⟩ => y2 ⟨x, x1, (split x x1).mpr (Or.inl x2), x3, x4⟩⟩, fun c => y2 ⟨p, p1, (split p p1).mpr (Or.inr p2), ov, c.symm⟩⟩
          · rcases hcl with ⟨a1, a2, a3⟩ | ⟨a1, a2⟩
            · refine Or.inl ⟨a1, fun x x1 x2 x3 => ?_⟩
              rcases (split x x1).mp x2 with c | c
              · rcases hc with ⟨_, f⟩ | ⟨g, _⟩
                · exact f x x1 c x3
                · rw [a2] at g; exact absurd g (by decide)
              · rw [c]; exact a3
            · refine Or.inr ⟨a1, ?_⟩
              rcases a2 with a2 | a2
              · rcases hc with ⟨g, _⟩ | ⟨_, x, x1, x2, x3, x4⟩
                · rw [a2] at g; exact absurd g (by decide)
                · exact ⟨x, x1, (split x x1).mpr (Or.inl x2), x3, x4⟩
              · exact ⟨p, p1, (split p p1).mpr (Or.inr p2), ov, by rw [p2]; exact a2⟩
        apply h33
        unfold xb_X12_places_33
        rw [nI_clamp (n := j) (by omega), oj, nI_clamp (n := n_f o j) (by omega), cb, c54, c52, c53, (en b hb).1, (en (n_f o j) hjo).1, (en (n_f o j) hjo).2.2, (en b hb).2.2, nI_add, nI_add, nI_1 j]
        refine ⟨fun z => absurd z (nI_ge (by omega) (by omega)), fun _ => ⟨vp_in_nI (by omega) (by decide), vo, vb, fun z => skip (fun ov => ?_), fun z => ⟨vo, vo, fun z1 => ⟨vo, fun x9 e9 => ⟨vo, fun x10 e10 => ?_⟩⟩, fun z1 => skip (fun ov => ?_)⟩⟩⟩
        · have := (nI_leI (by omega) (by omega)).mp z
          have := (ovp.mp ov).1
          omega
        · have ov : p_ov V b t p := ovp.mpr ⟨Nat.not_le.mp fun c => z (nI_le c (by omega)), (nI_ltI (by omega) (by omega)).mp z1⟩
          rw [e9, e10]
          refine ⟨fun y => step ov 1 (Or.inr ⟨rfl, Or.inl ?_⟩), fun y => ⟨vo, vb, fun y2 => step ov 0 (Or.inl ⟨rfl, y, y2⟩), fun y2 => step ov 1 (Or.inr ⟨rfl, Or.inr y2⟩)⟩⟩
          rcases hc with ⟨g, _⟩ | ⟨g, _⟩
          · exact absurd g y
          · exact g
        · exact z1 (nI_lt (ovp.mp ov).2 (by omega))
    refine key i 0 (V.2.1 b) x1 0 (by omega) (fun q hq => ?_) (fun q hq => ?_) (Or.inl ⟨rfl, fun p _ ⟨j', c, _⟩ => absurd c (by omega)⟩)
    · rw [e1, b_lane _ (by omega) q hq, decide_eq_true_iff]
      exact ⟨fun c => ⟨c, fun ⟨p, _, ⟨j', c2, _⟩, _⟩ => absurd c2 (by omega)⟩, fun c => c.1⟩
    · exact ⟨fun c => ⟨c, fun ⟨p, _, ⟨j', c2, _⟩, _⟩ => absurd c2 (by omega)⟩, fun c => c.1⟩
  have key : ∀ (k t : Nat), t + k = e.2.2 → K9 τ (nI b) (nI t) := by
    intro k
    induction k with
    | zero =>
      intro t ht
      exact tick t (by omega) (fun c => absurd c (by omega))
    | succ k ih =>
      intro t ht
      exact tick t (by omega) (fun _ => ih (t + 1) (by omega))
  exact key e.2.2 0 (by omega)
theorem b_next {f : Nat → Nat} {n : Nat} {Z : Int32 → xw_M → Prop} (hn : n ≤ 6) (hf : ∀ j, j < n → f j < 1000) (ord : ∀ j, j < n → τ.1 51 j = nI (f j)) (h1 : ∀ g τ1, n_next f n = some g → (∀ j, j < n → τ1.1 51 j = nI (g j)) → (∀ c, c ≠ 51 → τ1.1 c = τ.1 c) → τ1.2 = τ.2 → Z 1 τ1) (h0 : n_next f n = none → Z 0 τ) : xu_X12_nextOrder τ (nI n) Z := by
  intro K4 K41 K100 h4 h41 h100
  have neg : ∀ v : Int32, v < 0 → n_next f n = none → K4 τ v := by
    intro v hv g
    apply h4
    refine ⟨fun _ => ⟨fun z => ?_, fun _ => ⟨by simp, h0 g⟩⟩, fun z => absurd hv z⟩
    exfalso
    rw [i_lt, i_0] at hv
    rw [i_le, i_0] at z
    omega
  by_cases hn0 : n = 0
  · subst hn0
    exact neg _ (by decide) rfl
  have sw : ∀ (τ' : xw_M) (g : Nat → Nat) (a b : Nat), a < n → b < n → (∀ j, j < n → τ'.1 51 j = nI (g j)) → ∀ j, j < n → (xw_i (xw_i τ' 51 a (τ'.1 51 b)) 51 b (τ'.1 51 a)).1 51 j = nI (n_sw g a b j) := by
    intro τ' g a b ha hb hg j hj
    unfold n_sw
    by_cases c : j = b
    · subst c
      rw [xw_eq, if_pos rfl, hg a ha]
    · rw [xw_nj c, if_neg c]
      by_cases c2 : j = a
      · subst c2
        rw [xw_eq, if_pos rfl, hg b hb]
      · rw [xw_nj c2, if_neg c2, hg j hj]
  have rev : ∀ (k : Nat) (g : Nat → Nat) (a b : Nat) (τ' : xw_M), b ≤ a + k → a ≤ 100 → b < n → (∀ j, j < n → τ'.1 51 j = nI (g j)) → (∀ c, c ≠ 51 → τ'.1 c = τ.1 c) → τ'.2 = τ.2 → n_next f n = some (n_rev k g a b) → K100 τ' (nI a) (nI b) := by
    intro k
    induction k with
    | zero =>
      intro g a b τ' hab ha hb hg hc h2 e
      apply h100
      exact ⟨fun _ => ⟨by simp, h1 g τ' e hg hc h2⟩, fun z => absurd (nI_le (by omega) (by omega)) z⟩
    | succ k ih =>
      intro g a b τ' hab ha hb hg hc h2 e
      simp only [n_rev] at e
      apply h100
      unfold xb_X12_nextOrder_100
      by_cases c : b ≤ a
      · rw [if_pos c] at e
        exact ⟨fun _ => ⟨by simp, h1 g τ' e hg hc h2⟩, fun z => absurd (nI_le c (by omega)) z⟩
      · rw [if_neg c] at e
        have va : vp_in (nI a) 6 := vp_in_nI (by omega) (by decide)
        have vb : vp_in (nI b) 6 := vp_in_nI (by omega) (by decide)
        rw [nI_clamp (n := a) (by omega), nI_clamp (n := b) (by omega), nI_1, show nI b + (-1) = nI (b - 1) by rw [show b = (b - 1) + 1 by omega, pk_m1]; rfl]
        refine ⟨fun z => absurd z (nI_ge (by omega) (by omega)), fun _ => ⟨va, vb, va, fun τ3 e3 => ⟨vb, fun τ4 e4 => ?_⟩⟩⟩
        rw [e3] at e4
        refine ih (n_sw g a b) (a + 1) (b - 1) τ4 (by omega) (by omega) (by omega) (fun j hj => ?_) (fun c hc' => ?_) ?_ e
        · rw [e4]
          exact sw τ' g a b (by omega) hb hg j hj
        · rw [e4, xw_ne hc', xw_ne hc']
          exact hc c hc'
        · rw [e4]
          exact h2
  have found : ∀ (i : Nat), i + 1 < n → ¬ f (i + 1) < f i → n_next f n = some (n_rev 6 (n_sw f i (n_j f (f i) (n - 1))) (i + 1) (n - 1)) → ∀ (k j : Nat), j = i + 1 + k → j < n → n_j f (f i) (n - 1) = n_j f (f i) j → K41 τ (nI i) (nI j) := by
    intro i hi hfi e k
    have vi : vp_in (nI i) 6 := vp_in_nI (by omega) (by decide)
    have fi := hf i (by omega)
    induction k with
    | zero =>
      intro j hj hjn ej
      subst hj
      have fj := hf (i + 1) (by omega)
      have vj : vp_in (nI (i + 1)) 6 := vp_in_nI (by omega) (by decide)
      apply h41
      unfold xb_X12_nextOrder_41
      rw [nI_clamp (n := i) (by omega), nI_clamp (n := i + 1) (by omega), ord i (by omega), ord (i + 1) (by omega)]
      have ejj : n_j f (f i) (n - 1) = i + 1 := by rw [ej]; simp only [n_j]; rw [if_neg hfi]
      rw [ejj] at e
      refine ⟨vj, vi, fun _ => ⟨vi, vj, vi, fun τ1 e1 => ⟨vj, fun τ2 e2 => ?_⟩⟩, fun z => absurd (nI_le (by omega) (by omega)) z⟩
      rw [← ord (i + 1) (by omega)] at e1
      rw [← ord i (by omega), e1] at e2
      rw [nI_1, show nI n - 1 = nI (n - 1) by rw [show n = (n - 1) + 1 by omega, nI_pred]; rfl]
      refine rev 6 _ (i + 1) (n - 1) τ2 (by omega) (by omega) (by omega) (fun j hj => ?_) (fun c hc' => ?_) ?_ e
      · rw [e2]; exact sw τ f i (i + 1) (by omega) (by omega) ord j hj
      · rw [e2, xw_ne hc', xw_ne hc']
      · rw [e2]; rfl
    | succ k ih =>
      intro j hj hjn ej
      have fj := hf j hjn
      have vj : vp_in (nI j) 6 := vp_in_nI (by omega) (by decide)
      apply h41
      unfold xb_X12_nextOrder_41
      rw [nI_clamp (n := i) (by omega), nI_clamp (n := j) (by omega), ord i (by omega), ord j hjn]
      have un : n_j f (f i) j = if f j < f i then n_j f (f i) (j - 1) else j := by
        conv => lhs; rw [show j = (j - 1) + 1 by omega]
        simp only [n_j]
        rw [show j - 1 + 1 = j by omega]
      refine ⟨vj, vi, fun z => ⟨vi, vj, vi, fun τ1 e1 => ⟨vj, fun τ2 e2 => ?_⟩⟩, fun z => ?_⟩
      · have z2 := (nI_leI (by omega) (by omega)).mp z
        rw [if_neg (by omega)] at un
        rw [ej, un] at e
        rw [← ord j hjn] at e1
        rw [← ord i (by omega), e1] at e2
        rw [nI_1, show nI n - 1 = nI (n - 1) by rw [show n = (n - 1) + 1 by omega, nI_pred]; rfl]
        refine rev 6 _ (i + 1) (n - 1) τ2 (by omega) (by omega) (by omega) (fun j' hj' => ?_) (fun c hc' => ?_) ?_ e
        · rw [e2]; exact sw τ f i j (by omega) hjn ord j' hj'
        · rw [e2, xw_ne hc', xw_ne hc']
        · rw [e2]; rfl
      · have z2 : f j < f i := Nat.not_le.mp fun c => z (nI_le c (by omega))
        rw [if_pos z2] at un
        rw [show nI j + (-1) = nI (j - 1) by rw [show j = (j - 1) + 1 by omega, pk_m1]; rfl]
        exact ih (j - 1) (by omega) (by omega) (ej.trans un)
  have down : ∀ (k : Nat), k ≤ n - 1 → n_i f (n - 1) = n_i f k → K4 τ (nI k - 1) := by
    intro k
    induction k with
    | zero =>
      intro _ e
      refine neg _ (by decide) ?_
      unfold n_next
      rw [e]
      rfl
    | succ k ih =>
      intro hk e
      simp only [n_i] at e
      have vk : vp_in (nI k) 6 := vp_in_nI (by omega) (by decide)
      have vk1 : vp_in (nI (k + 1)) 6 := vp_in_nI (by omega) (by decide)
      have fk := hf k (by omega)
      have fk1 := hf (k + 1) (by omega)
      rw [nI_pred]
      apply h4
      unfold xb_X12_nextOrder_4
      rw [nI_1, nI_clamp (n := k) (by omega), nI_clamp (n := k + 1) (by omega), ord k (by omega), ord (k + 1) (by omega)]
      refine ⟨fun z => absurd z (nI_pos (by omega)), fun _ => ⟨vk, vk1, fun z => ⟨fun _ => ?_, fun z => absurd (nI_pos' (by omega)) z⟩, fun z => ?_⟩⟩
      · have z2 := (nI_leI (by omega) (by omega)).mp z
        rw [if_neg (by omega)] at e
        rw [show nI n - 1 = nI (n - 1) by rw [show n = (n - 1) + 1 by omega, nI_pred]; rfl]
        refine found k (by omega) (by omega) (by unfold n_next; rw [e]) (n - 1 - (k + 1)) (n - 1) (by omega) (by omega) rfl
      · have z2 : f (k + 1) < f k := Nat.not_le.mp fun c => z (nI_le c (by omega))
        rw [if_pos z2] at e
        rw [i_s1]
        exact ih (by omega) e
  have := down (n - 1) (Nat.le_refl _) rfl
  show K4 τ (nI n - 2)
  rw [show nI n - 2 = nI (n - 1) - 1 by
    rw [show nI n = nI (n - 1) + 1 by rw [nI_1]; congr 1; omega]
    generalize nI (n - 1) = x
    rw [Int32.sub_eq_add_neg, Int32.sub_eq_add_neg, Int32.add_assoc]
    rfl]
  exact this
end PLACEB
