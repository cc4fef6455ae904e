/-! THE GRAMMAR, apart from any memory: a result is a FAULT and the token that it stands at, or the token behind and what was said -/
abbrev pR (α : Type) := Sum (Nat × Nat) (Nat × α)
def gr_bd {α β : Type} (r : pR α) (g : Nat → α → pR β) : pR β := match r with
  | .inl e => .inl e
  | .inr x => g x.1 x.2
def pc {α : Type} (r : pR α) (F : Nat → Nat → Prop) (Z : Nat → α → Prop) : Prop := match r with
  | .inl e => F e.1 e.2
  | .inr x => Z x.1 x.2
theorem pc_bd {α β : Type} {r : pR α} {g : Nat → α → pR β} {F : Nat → Nat → Prop} {Z : Nat → β → Prop} : pc (gr_bd r g) F Z = pc r F (fun q x => pc (g q x) F Z) := by cases r <;> rfl
theorem pc_mono {α : Type} {r : pR α} {F F' : Nat → Nat → Prop} {Z Z' : Nat → α → Prop} (h : pc r F Z) (hF : ∀ k p, F k p → F' k p) (hZ : ∀ q x, Z q x → Z' q x) : pc r F' Z' := by
  cases r with
  | inl e => exact hF _ _ h
  | inr x => exact hZ _ _ h
def gr_tk (kd : Nat → Nat) (k pos : Nat) : pR Unit := if kd pos = k then (if pos < 400 then .inr (pos + 1, ()) else .inl (2, pos)) else .inl (1, pos)
theorem pc_tk1 {kd : Nat → Nat} {k pos : Nat} {F : Nat → Nat → Prop} {Z : Nat → Unit → Prop} (h : pc (gr_tk kd k pos) F Z) (e : kd pos = k) (l : pos < 400) : Z (pos + 1) () := by
  unfold gr_tk at h
  rw [if_pos e, if_pos l] at h
  exact h
theorem pc_tk2 {kd : Nat → Nat} {k pos : Nat} {F : Nat → Nat → Prop} {Z : Nat → Unit → Prop} (h : pc (gr_tk kd k pos) F Z) (e : kd pos = k) (l : ¬ pos < 400) : F 2 pos := by
  unfold gr_tk at h
  rw [if_pos e, if_neg l] at h
  exact h
theorem pc_tk0 {kd : Nat → Nat} {k pos : Nat} {F : Nat → Nat → Prop} {Z : Nat → Unit → Prop} (h : pc (gr_tk kd k pos) F Z) (e : ¬ kd pos = k) : F 1 pos := by
  unfold gr_tk at h
  rw [if_neg e] at h
  exact h
def gr_unit (kd : Nat → Nat) (va : Nat → Int32) (P : Option (Nat → pR tF)) (pos : Nat) : pR tF :=
  if kd pos = 16 then gr_bd (gr_tk kd 16 pos) (fun q _ => .inr (q, fun _ => va pos))
  else if kd pos < 9 then gr_bd (gr_tk kd (kd pos) pos) (fun q _ => .inr (q, fun v => v (kd pos)))
  else if kd pos = 25 then (match P with
    | none => .inl (2, pos)
    | some e => gr_bd (gr_tk kd 25 pos) (fun q _ => gr_bd (e q) (fun q2 f => gr_bd (gr_tk kd 26 q2) (fun q3 _ => .inr (q3, f)))))
  else .inl (1, pos)
def j_lv (lv k : Nat) : Bool := if lv = 0 then decide (k = 14) else if lv = 1 then decide (k = 15) else if lv = 2 then decide (21 ≤ k ∧ k ≤ 24) else if lv = 3 then decide (k = 18 ∨ k = 19) else decide (k = 20)
def gr_lp (kd : Nat → Nat) (lv : Nat) (u : Nat → pR tF) : Nat → Nat → tF → pR tF
  | 0, pos, f => .inr (pos, f)
  | n + 1, pos, f => if j_lv lv (kd pos) then gr_bd (gr_tk kd (kd pos) pos) (fun q _ => gr_bd (u q) (fun q2 g => gr_lp kd lv u n q2 (fun v => t_op (kd pos - 18) (f v) (g v)))) else .inr (pos, f)
def gr_lv (kd : Nat → Nat) (lv : Nat) (u : Nat → pR tF) (pos : Nat) : pR tF := gr_bd (u pos) (fun q f => gr_lp kd lv u 400 q f)
def gr_E (kd : Nat → Nat) (u : Nat → pR tF) : Nat → pR tF := gr_lv kd 3 (gr_lv kd 4 u)
def gr_un (kd : Nat → Nat) (va : Nat → Int32) : Nat → Nat → pR tF
  | 0 => gr_unit kd va none
  | b + 1 => gr_unit kd va (some (gr_E kd (gr_un kd va b)))
def gr_ex (kd : Nat → Nat) (va : Nat → Int32) : Nat → pR tF := gr_E kd (gr_un kd va 6)
def gr_rel (kd : Nat → Nat) (va : Nat → Int32) (pos : Nat) : pR tG := gr_bd (gr_ex kd va pos) (fun q f => if j_lv 2 (kd q) then gr_bd (gr_tk kd (kd q) q) (fun q2 _ => gr_bd (gr_ex kd va q2) (fun q3 g => .inr (q3, fun v => t_rel (kd q - 21) (f v) (g v)))) else .inl (1, q))
def gr_lst {α : Type} (kd : Nat → Nat) (lv : Nat) (r : Nat → pR α) : Nat → Nat → pR (List α)
  | 0, pos => .inr (pos, [])
  | n + 1, pos => if j_lv lv (kd pos) then gr_bd (gr_tk kd (kd pos) pos) (fun q _ => gr_bd (r q) (fun q2 x => gr_bd (gr_lst kd lv r n q2) (fun q3 l => .inr (q3, x :: l)))) else .inr (pos, [])
def gr_sep {α : Type} (kd : Nat → Nat) (lv : Nat) (r : Nat → pR α) (pos : Nat) : pR (List α) := gr_bd (r pos) (fun q x => gr_bd (gr_lst kd lv r 400 q) (fun q2 l => .inr (q2, x :: l)))
def gr_all (kd : Nat → Nat) (va : Nat → Int32) : Nat → pR (List tG) := gr_sep kd 1 (gr_rel kd va)
def gr_cond (kd : Nat → Nat) (va : Nat → Int32) : Nat → pR (List (List tG)) := gr_sep kd 0 (gr_all kd va)
def gr_int (kd : Nat → Nat) (va : Nat → Int32) (pos : Nat) : pR Int32 := gr_bd (gr_tk kd 16 pos) (fun q _ => .inr (q, va pos))
def gr_fst (kd : Nat → Nat) (va : Nat → Int32) (k q : Nat) : pR Int32 := if k = 4 ∨ k = 12 then gr_int kd va q else .inr (q, 0)
def gr_snd (kd : Nat → Nat) (va : Nat → Int32) (k q : Nat) : pR Int32 := if k = 12 then gr_bd (gr_tk kd 13 q) (fun q2 _ => gr_int kd va q2) else .inr (q, 0)
def gr_trm (kd : Nat → Nat) (va : Nat → Int32) (k q : Nat) : pR tF := if k = 11 then gr_ex kd va q else .inr (q, fun _ => 0)
def gr_cnd (kd : Nat → Nat) (va : Nat → Int32) (k q : Nat) : pR (List (List tG)) := if k = 9 ∨ k = 4 ∨ (k = 11 ∧ kd q = 10) then gr_bd (gr_tk kd 10 q) (fun q2 _ => gr_cond kd va q2) else .inr (q, [])
def gr_kd (k : Nat) : Nat := if k = 9 then 0 else if k = 4 then 1 else if k = 11 then 2 else 3
def gr_rst (kd : Nat → Nat) (va : Nat → Int32) (k q : Nat) : pR tU := gr_bd (gr_fst kd va k q) (fun q1 i1 => gr_bd (gr_snd kd va k q1) (fun q2 i2 => gr_bd (gr_trm kd va k q2) (fun q3 f => gr_bd (gr_cnd kd va k q3) (fun q4 C => gr_bd (gr_tk kd 17 q4) (fun q5 _ => .inr (q5, (gr_kd k, i1, i2, f, C)))))))
def gr_rule (kd : Nat → Nat) (va : Nat → Int32) (nr pos : Nat) : pR tU := if kd pos = 9 ∨ kd pos = 4 ∨ kd pos = 11 ∨ kd pos = 12 then (if nr < 16 then gr_bd (gr_tk kd (kd pos) pos) (fun q _ => gr_rst kd va (kd pos) q) else .inl (2, pos)) else .inl (1, pos)
def gr_text (kd : Nat → Nat) (va : Nat → Int32) : Nat → Nat → Nat → (Nat → tU) → pR (Nat × (Nat → tU))
  | 0, _, pos, _ => .inl (2, pos)
  | n + 1, nr, pos, F => if kd pos = 27 then .inr (pos, (nr, F)) else gr_bd (gr_rule kd va nr pos) (fun q U => gr_text kd va n (nr + 1) q (fun r => if r = nr then U else F r))
/-- where the grammar may stand -/
def gr_go (kd : Nat → Nat) (pos : Nat) : Prop := pos ≤ 400 ∧ ∀ j, j < pos → kd j ≠ 27 ∧ kd j ≠ 28
theorem gr_go_s {kd : Nat → Nat} {pos : Nat} (h : gr_go kd pos) (l : pos < 400) (e : kd pos < 27) : gr_go kd (pos + 1) := by
  refine ⟨by omega, fun j hj => ?_⟩
  by_cases q : j = pos
  · rw [q]; omega
  · exact h.2 j (by omega)
/-! terms stay where what they rest on stays -/
theorem tA_int {st nu : Nat → Int32} {i : Nat} (h : st i = 16) : tA st nu i (i + 1) (fun _ => nu i) := fun _ p1 _ _ => p1 i h
theorem tA_var {st nu : Nat → Int32} {i k : Nat} (hk : k < 9) (h : st i = nI k) : tA st nu i (i + 1) (fun v => v k) := fun _ _ p2 _ => p2 i k hk h
theorem tA_op {st nu : Nat → Int32} {i m n k : Nat} {f g : tF} (hk : k < 3) (h1 : tA st nu i m f) (h2 : tA st nu m n g) (e : st n = nI (18 + k)) : tA st nu i (n + 1) (fun v => t_op k (f v) (g v)) := fun P p1 p2 p3 => p3 i m n k f g hk (tA_lt h1) (tA_lt h2) (h1 P p1 p2 p3) (h2 P p1 p2 p3) e
theorem tA_c {st nu st' nu' : Nat → Int32} {i j : Nat} {f : tF} (h : tA st nu i j f) (e : ∀ x, x < j → st' x = st x ∧ nu' x = nu x) : tA st' nu' i j f := by
  refine (h (fun i j f => i < j ∧ ((∀ x, x < j → st' x = st x ∧ nu' x = nu x) → tA st' nu' i j f)) ?_ ?_ ?_).2 e
  · intro i h
    refine ⟨by omega, fun q => ?_⟩
    rw [← (q i (by omega)).2]
    exact tA_int ((q i (by omega)).1.trans h)
  · intro i k hk h
    exact ⟨by omega, fun q => tA_var hk ((q i (by omega)).1.trans h)⟩
  · intro i m n k f g hk him hmn a b h
    exact ⟨by omega, fun q => tA_op hk (a.2 (fun x hx => q x (by omega))) (b.2 (fun x hx => q x (by omega))) ((q n (by omega)).1.trans h)⟩
theorem tB_int {st nu : Nat → Int32} {i : Nat} (h : st i = 0) : tB st nu i (i + 1) (fun _ => nu i) := fun _ p1 _ _ => p1 i h
theorem tB_var {st nu : Nat → Int32} {i k : Nat} (hk : k < 9) (h : st i = 1) (h' : nu i = nI k) : tB st nu i (i + 1) (fun v => v k) := fun _ _ p2 _ => p2 i k hk h h'
theorem tB_op {st nu : Nat → Int32} {i m n k : Nat} {f g : tF} (hk : k < 3) (h1 : tB st nu i m f) (h2 : tB st nu m n g) (e : st n = nI (2 + k)) : tB st nu i (n + 1) (fun v => t_op k (f v) (g v)) := fun P p1 p2 p3 => p3 i m n k f g hk (tB_lt h1) (tB_lt h2) (h1 P p1 p2 p3) (h2 P p1 p2 p3) e
theorem tB_c {st nu st' nu' : Nat → Int32} {i j : Nat} {f : tF} (h : tB st nu i j f) (e : ∀ x, i ≤ x → x < j → st' x = st x ∧ nu' x = nu x) : tB st' nu' i j f := by
  refine (h (fun i j f => i < j ∧ ((∀ x, i ≤ x → x < j → st' x = st x ∧ nu' x = nu x) → tB st' nu' i j f)) ?_ ?_ ?_).2 e
  · intro i h
    refine ⟨by omega, fun q => ?_⟩
    rw [← (q i (by omega) (by omega)).2]
    exact tB_int ((q i (by omega) (by omega)).1.trans h)
  · intro i k hk h h'
    exact ⟨by omega, fun q => tB_var hk ((q i (by omega) (by omega)).1.trans h) ((q i (by omega) (by omega)).2.trans h')⟩
  · intro i m n k f g hk him hmn a b h
    exact ⟨by omega, fun q => tB_op hk (a.2 (fun x x1 hx => q x (by omega) (by omega))) (b.2 (fun x x1 hx => q x (by omega) (by omega))) ((q n (by omega) (by omega)).1.trans h)⟩
theorem tAr_c {st nu st' nu' : Nat → Int32} {i j : Nat} {R : tG} (h : tAr st nu i j R) (e : ∀ x, x < j → st' x = st x ∧ nu' x = nu x) : tAr st' nu' i j R := by
  obtain ⟨m, n, s, f, g, hs, h1, h2, h3, rfl, hR⟩ := h
  have := tA_lt h2
  exact ⟨m, n, s, f, g, hs, tA_c h1 (fun x hx => e x (by omega)), tA_c h2 (fun x hx => e x (by omega)), (e n (by omega)).1.trans h3, rfl, hR⟩
theorem tAand_c {st nu st' nu' : Nat → Int32} : ∀ {l : List tG} {i j : Nat}, tAand st nu l i j → (∀ x, x < j → st' x = st x ∧ nu' x = nu x) → tAand st' nu' l i j
  | [], _, _, h, _ => h
  | R :: l, i, j, ⟨n, h1, h2, h3⟩, e => by
    have := tAand_le h3
    exact ⟨n, tAr_c h1 (fun x hx => e x (by omega)), (e n (by omega)).1.trans h2, tAand_c h3 e⟩
theorem tAall_c {st nu st' nu' : Nat → Int32} : ∀ {l : List tG} {i j : Nat}, tAall st nu l i j → (∀ x, x < j → st' x = st x ∧ nu' x = nu x) → tAall st' nu' l i j
  | [], _, _, h, _ => h
  | R :: l, i, j, ⟨n, h1, h2⟩, e => by
    have := tAand_le h2
    exact ⟨n, tAr_c h1 (fun x hx => e x (by omega)), tAand_c h2 e⟩
theorem tAors_c {st nu st' nu' : Nat → Int32} : ∀ {l : List (List tG)} {i j : Nat}, tAors st nu l i j → (∀ x, x < j → st' x = st x ∧ nu' x = nu x) → tAors st' nu' l i j
  | [], _, _, h, _ => h
  | R :: l, i, j, ⟨n, h1, h2, h3⟩, e => by
    have := tAors_le h3
    exact ⟨n, tAall_c h1 (fun x hx => e x (by omega)), (e n (by omega)).1.trans h2, tAors_c h3 e⟩
theorem tAcond_c {st nu st' nu' : Nat → Int32} : ∀ {l : List (List tG)} {i j : Nat}, tAcond st nu l i j → (∀ x, x < j → st' x = st x ∧ nu' x = nu x) → tAcond st' nu' l i j
  | [], _, _, h, _ => h
  | R :: l, i, j, ⟨n, h1, h3⟩, e => by
    have := tAors_le h3
    exact ⟨n, tAall_c h1 (fun x hx => e x (by omega)), tAors_c h3 e⟩
