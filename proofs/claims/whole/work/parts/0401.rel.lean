/-! THE RELATION between the class's memory σ and the reference's τ, part by part over the rows that each speaks of -/
def r_tape (n : Nat) (la lb : Int32) (ba bb : Nat → Int32) : Prop := n ≤ 2000 ∧ la = nI n ∧ lb = nI n ∧ ∀ j, j < n → ba j = bb j
def r_kin (ka kb : Nat → Int32) : Prop := ∀ p q, p < 12 → q < 12 → kb (12 * p + q) = if bt (ka p) q then 1 else 0
def r_permits (pa pb : Nat → Int32) : Prop := ∀ p, p < 12 → pa p = pb p ∧ 0 ≤ (pa p).toInt ∧ (pa p).toInt ≤ 63
def r_rings (a b : Int32) : Prop := a = b ∧ 1 ≤ a.toInt ∧ a.toInt ≤ 3
def r_breeds (n : Nat) (ca cb : Int32) (ga ma fa ta gb mb fb tb : Nat → Int32) : Prop := n ≤ 6 ∧ ca = nI n ∧ cb = nI n ∧ ∀ i, i < n → ga i = gb i ∧ ma i = mb i ∧ fa i = fb i ∧ ta i = tb i ∧ 0 ≤ (ga i).toInt ∧ (ga i).toInt ≤ 2 ∧ 1 ≤ (ma i).toInt ∧ (ma i).toInt ≤ 9 ∧ 0 ≤ (fa i).toInt ∧ (fa i).toInt ≤ (ta i).toInt ∧ (ta i).toInt ≤ 99
def r_dogs (nb n : Nat) (ca cb : Int32) (da ba sa oa ha db bb sb ob hb : Nat → Int32) : Prop := n ≤ 20 ∧ ca = nI n ∧ cb = nI n ∧ ∀ i, i < n → da i = db i ∧ ba i = bb i ∧ sa i = sb i ∧ oa i = ob i ∧ ha i = hb i ∧ (∃ k : Nat, k < nb ∧ da i = nI k) ∧ 0 ≤ (ba i).toInt ∧ (ba i).toInt < 10000 ∧ 0 ≤ (sa i).toInt ∧ (sa i).toInt ≤ 1 ∧ (∃ k : Nat, k < 12 ∧ oa i = nI k) ∧ ∃ k : Nat, k < 12 ∧ ha i = nI k
/-- the class's SHOWS: rows of the five objects -/
def r_shows (n nd : Nat) (ca cb : Int32) (sh : Nat → Nat → Int32) (db eb : Nat → Int32) : Prop := n ≤ 5 ∧ ca = nI n ∧ cb = nI n ∧ (∀ i, i < 5 → sh i 0 = nI i) ∧ (∀ i, i < n → sh i 2 = db i ∧ 0 ≤ (db i).toInt ∧ (db i).toInt < 10000) ∧ ∀ i, i < 5 → ∀ d, d < 32 → (bt (sh i 3) d = true → i < n ∧ d < nd) ∧ (d < 20 → eb (20 * i + d) = if bt (sh i 3) d then 1 else 0)
def r_facts (n ns nd : Nat) (ca cb : Int32) (ka sa da va ya kb ib db vb : Nat → Int32) : Prop := n ≤ 200 ∧ ca = nI n ∧ cb = nI n ∧ ∀ i, i < n → ka i = kb i ∧ da i = db i ∧ va i = vb i ∧ (∃ k : Nat, k < nd ∧ da i = nI k) ∧ ((ka i = 4 ∧ sa i = -1 ∧ ya i = ib i ∧ 0 ≤ (ya i).toInt ∧ (ya i).toInt < 10000 ∧ ∃ k : Nat, k < 12 ∧ va i = nI k) ∨ ((ka i = 0 ∨ ka i = 1 ∨ ka i = 2 ∨ ka i = 3) ∧ sa i = ib i ∧ ya i = -1 ∧ (∃ k : Nat, k < ns ∧ sa i = nI k) ∧ 0 ≤ (va i).toInt ∧ (va i).toInt ≤ 99 ∧ (ka i = 0 → 1 ≤ (va i).toInt ∧ (va i).toInt ≤ 20)))
/-- what is PLANNED: the class's timetables of the five SHOWS -/
def r_plan (nb : Nat) (ta : Nat → Nat → Int32) (rb jb fb ub : Nat → Int32) : Prop := ∀ i, i < 5 → ∀ b, b < 6 → ta i (4 * b + 1) = jb (6 * i + b) ∧ ((ta i (4 * b) = -1 ∧ ta i (4 * b + 1) = -1 ∧ ta i (4 * b + 2) = -1 ∧ ta i (4 * b + 3) = -1) ∨ (b < nb ∧ ta i (4 * b) = rb (6 * i + b) ∧ ta i (4 * b + 2) = fb (6 * i + b) ∧ ta i (4 * b + 3) = ub (6 * i + b) ∧ 0 ≤ (ta i (4 * b)).toInt ∧ (ta i (4 * b)).toInt ≤ 2 ∧ (∃ k : Nat, k < 12 ∧ ta i (4 * b + 1) = nI k) ∧ 0 ≤ (ta i (4 * b + 2)).toInt ∧ (ta i (4 * b + 2)).toInt ≤ (ta i (4 * b + 3)).toInt ∧ (ta i (4 * b + 3)).toInt ≤ 100000))
/-- THE RELATION (tx: how the two hold the text, given later) -/
def r_R (tx : xw_M → xw_M → Prop) (σ τ : xw_M) : Prop := ∃ nt nb nd ns nf : Nat,
  r_tape nt (σ.1 1 1) (τ.1 0 2) (σ.1 24) (τ.1 1) ∧ r_kin (σ.1 28) (τ.1 25) ∧ r_permits (σ.1 29) (τ.1 26) ∧ r_rings (σ.1 0 10) (τ.1 0 41) ∧ σ.1 0 11 = τ.1 0 17 ∧
  r_breeds nb (σ.1 4 11) (τ.1 0 42) (σ.1 30) (σ.1 31) (σ.1 32) (σ.1 33) (τ.1 27) (τ.1 28) (τ.1 29) (τ.1 30) ∧
  r_dogs nb nd (σ.1 4 12) (τ.1 0 47) (σ.1 34) (σ.1 35) (σ.1 36) (σ.1 37) (σ.1 38) (τ.1 31) (τ.1 32) (τ.1 33) (τ.1 34) (τ.1 35) ∧
  r_shows ns nd (σ.1 0 9) (τ.1 0 53) (fun i => σ.1 (11 + i)) (τ.1 36) (τ.1 37) ∧
  r_facts nf ns nd (σ.1 5 6) (τ.1 0 56) (σ.1 39) (σ.1 40) (σ.1 41) (σ.1 42) (σ.1 43) (τ.1 38) (τ.1 39) (τ.1 40) (τ.1 41) ∧
  r_plan nb (fun i => σ.1 (66 + i)) (τ.1 44) (τ.1 45) (τ.1 46) (τ.1 47) ∧ tx σ τ
/-- which rows a text's relation may speak of -/
def r_txOk (tx : xw_M → xw_M → Prop) : Prop := ∀ σ τ σ1 τ1, tx σ τ → τ1.2 7 = τ.2 7 → (∀ c, c = 9 ∨ c = 48 ∨ c = 50 ∨ c = 52 ∨ c = 54 ∨ c = 56 ∨ c = 58 ∨ c = 60 ∨ c = 62 → σ1.1 c = σ.1 c) → τ1.1 0 18 = τ.1 0 18 → (∀ c, 8 ≤ c → c ≤ 23 → τ1.1 c = τ.1 c) → tx σ1 τ1
