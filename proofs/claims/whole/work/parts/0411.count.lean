theorem nx_and (a b : Nat) : nI a &&& nI b = nI (a &&& b) := by
  apply Int32.toBitVec_inj.1
  show BitVec.ofNat 32 a &&& BitVec.ofNat 32 b = BitVec.ofNat 32 (a &&& b)
  apply BitVec.eq_of_getLsbD_eq
  intro i hi
  simp [hi]
/-! how many bits -/
theorem and16 {A m : Nat} (B M : Nat) (hA : A < 16) (hm : m < 16) : (A + 16 * B) &&& (m + 16 * M) = (A &&& m) + 16 * (B &&& M) := by
  have h1 : ((A + 16 * B) &&& (m + 16 * M)) % 2 ^ 4 = A &&& m := by
    rw [Nat.and_mod_two_pow]
    congr 1 <;> omega
  have h2 : ((A + 16 * B) &&& (m + 16 * M)) / 2 ^ 4 = B &&& M := by
    rw [Nat.and_div_two_pow]
    congr 1 <;> omega
  omega
def c_p (a : Nat) : Nat := (a / 2) &&& 5
def c_t (a : Nat) : Nat := ((a - c_p a) &&& 3) + (((a - c_p a) / 4) &&& 3)
theorem c_h1 : ∀ a, a < 16 → ∀ e, e < 2 → (a / 2 + 8 * e) &&& 5 = c_p a := by decide +kernel
theorem c_h2 : ∀ a, a < 16 → c_p a ≤ a ∧ a - c_p a < 16 ∧ c_t a ≤ 4 := by decide +kernel
theorem c_h3 : ∀ a, a < 16 → ∀ e, e < 4 → (a / 4 + 4 * e) &&& 3 = (a / 4) &&& 3 := by decide +kernel
theorem c_s1 {a : Nat} (n M : Nat) (ha : a < 16) : ((a + 16 * n) / 2) &&& (5 + 16 * M) = c_p a + 16 * ((n / 2) &&& M) := by
  rw [show (a + 16 * n) / 2 = (a / 2 + 8 * (n % 2)) + 16 * (n / 2) by omega, and16 _ _ (by omega) (by decide), c_h1 a ha _ (by omega)]
theorem c_s2 {a : Nat} (n M : Nat) (ha : a < 16) : ((a + 16 * n) / 4) &&& (3 + 16 * M) = ((a / 4) &&& 3) + 16 * ((n / 4) &&& M) := by
  rw [show (a + 16 * n) / 4 = (a / 4 + 4 * (n % 4)) + 16 * (n / 4) by omega, and16 _ _ (by omega) (by decide), c_h3 a ha _ (by omega)]
theorem c_e1 : ∀ a, a < 16 → (a / 2) &&& 21845 = c_p a := by decide +kernel
theorem c_e2 : ∀ a, a < 16 → a &&& 13107 = a &&& 3 := by decide +kernel
theorem c_e3 : ∀ a, a < 16 → (a / 4) &&& 13107 = (a / 4) &&& 3 := by decide +kernel
theorem c_half {a b c d e : Nat} (ha : a < 16) (hb : b < 16) (hc : c < 16) (hd : d < 16) (he : e < 16) : ((a + 16 * (b + 16 * (c + 16 * (d + 16 * e)))) / 2) &&& 1431655765 = c_p a + 16 * (c_p b + 16 * (c_p c + 16 * (c_p d + 16 * c_p e))) := by
  rw [show (1431655765 : Nat) = 5 + 16 * (5 + 16 * (5 + 16 * (5 + 16 * 21845))) from rfl, c_s1 _ _ ha, c_s1 _ _ hb, c_s1 _ _ hc, c_s1 _ _ hd, c_e1 e he]
theorem c_quart {a b c d e : Nat} (ha : a < 16) (hb : b < 16) (hc : c < 16) (hd : d < 16) (he : e < 16) : ((a + 16 * (b + 16 * (c + 16 * (d + 16 * e)))) &&& 858993459) + (((a + 16 * (b + 16 * (c + 16 * (d + 16 * e)))) / 4) &&& 858993459) = ((a &&& 3) + ((a / 4) &&& 3)) + 16 * (((b &&& 3) + ((b / 4) &&& 3)) + 16 * (((c &&& 3) + ((c / 4) &&& 3)) + 16 * (((d &&& 3) + ((d / 4) &&& 3)) + 16 * ((e &&& 3) + ((e / 4) &&& 3))))) := by
  rw [show (858993459 : Nat) = 3 + 16 * (3 + 16 * (3 + 16 * (3 + 16 * 13107))) from rfl, c_s2 _ _ ha, c_s2 _ _ hb, c_s2 _ _ hc, c_s2 _ _ hd, c_e3 e he, and16 _ _ ha (by decide), and16 _ _ hb (by decide), and16 _ _ hc (by decide), and16 _ _ hd (by decide), c_e2 e he]
  omega
def c_g (x : Nat) : Nat :=
  let y := (x + x / 16) &&& 252645135
  let z := y + y / 256
  (z + z / 65536) &&& 63
theorem c_last : ∀ a, a < 5 → ∀ b, b < 5 → ∀ c, c < 5 → ∀ d, d < 5 → ∀ e, e < 5 → c_g (a + 16 * (b + 16 * (c + 16 * (d + 16 * e)))) = a + b + c + d + e := by decide +kernel
theorem c_nib : ∀ a, a < 16 → fb_ct (fun i => a.testBit i) 4 = c_t a := by decide +kernel
theorem c_bits (k : Nat) (hk : k < 2 ^ 32) (i : Nat) (hi : i < 32) : bt (nI k) i = k.testBit i := by
  unfold bt
  show (BitVec.ofNat 32 k).getLsbD i = _
  rw [BitVec.getLsbD_ofNat]
  simp [hi]
theorem c_tb {a : Nat} (n i : Nat) (ha : a < 16) (hi : i < 4) : (a + 16 * n).testBit i = a.testBit i := by
  rw [show a + 16 * n = 2 ^ 4 * n + a by omega, Nat.testBit_two_pow_mul_add _ (by omega)]
  simp [hi]
theorem c_tb2 {a : Nat} (n i : Nat) (ha : a < 16) : (a + 16 * n).testBit (4 + i) = n.testBit i := by
  rw [show a + 16 * n = 2 ^ 4 * n + a by omega, Nat.testBit_two_pow_mul_add _ (by omega)]
  simp
  intro h
  omega
theorem c_sum {a b c d e : Nat} (ha : a < 16) (hb : b < 16) (hc : c < 16) (hd : d < 16) (he : e < 16) : fb_ct (fun i => (a + 16 * (b + 16 * (c + 16 * (d + 16 * e)))).testBit i) 20 = c_t a + c_t b + c_t c + c_t d + c_t e := by
  rw [show (20 : Nat) = 4 + 16 from rfl, fb_ct_split, show (16 : Nat) = 4 + 12 from rfl, fb_ct_split, show (12 : Nat) = 4 + 8 from rfl, fb_ct_split, show (8 : Nat) = 4 + 4 from rfl, fb_ct_split]
  rw [fb_ct_cong (q := fun i => a.testBit i) (fun i hi => c_tb _ i ha hi), c_nib a ha]
  rw [fb_ct_cong (q := fun i => b.testBit i) (fun i hi => by rw [c_tb2 _ _ ha, c_tb _ i hb hi]), c_nib b hb]
  rw [fb_ct_cong (q := fun i => c.testBit i) (fun i hi => by rw [c_tb2 _ _ ha, c_tb2 _ _ hb, c_tb _ i hc hi]), c_nib c hc]
  rw [fb_ct_cong (q := fun i => d.testBit i) (fun i hi => by rw [c_tb2 _ _ ha, c_tb2 _ _ hb, c_tb2 _ _ hc, c_tb _ i hd hi]), c_nib d hd]
  rw [fb_ct_cong (q := fun i => e.testBit i) (fun i hi => by rw [c_tb2 _ _ ha, c_tb2 _ _ hb, c_tb2 _ _ hc, c_tb2 _ _ hd]), c_nib e he]
  omega
theorem qJ_bits {σ : xw_M} {k : Nat} {Z : Int32 → xw_M → Prop} (hk : k < 2 ^ 20) (h : Z (nI (fb_ct (fun i => bt (nI k) i) 20)) σ) : xu_J6_bitCount_0f7a4 σ (nI k) Z := by
  obtain ⟨a, b, c, d, e, ha, hb, hc, hd, he, ek⟩ : ∃ a b c d e : Nat, a < 16 ∧ b < 16 ∧ c < 16 ∧ d < 16 ∧ e < 16 ∧ k = a + 16 * (b + 16 * (c + 16 * (d + 16 * e))) := ⟨k % 16, k / 16 % 16, k / 256 % 16, k / 4096 % 16, k / 65536, by omega, by omega, by omega, by omega, by omega, by omega⟩
  have hcnt : fb_ct (fun i => bt (nI k) i) 20 = c_t a + c_t b + c_t c + c_t d + c_t e := by
    rw [← c_sum ha hb hc hd he, ← ek]
    exact fb_ct_cong (fun i hi => c_bits k (by omega) i (by omega))
  have pa := c_h2 a ha
  have pb := c_h2 b hb
  have pc := c_h2 c hc
  have pd := c_h2 d hd
  have pe := c_h2 e he
  intro x1 e1 x2 e2 x3 e3 x4 e4 x5 e5
  rw [pk_ushrN (by omega) 1 1 (by decide), show (1431655765 : Int32) = nI 1431655765 from rfl, nx_and, show k / 2 ^ 1 = k / 2 by omega] at e1
  have half := c_half ha hb hc hd he
  rw [← ek] at half
  rw [half, pk_sub (by omega)] at e1
  have k1 : k - (c_p a + 16 * (c_p b + 16 * (c_p c + 16 * (c_p d + 16 * c_p e)))) = (a - c_p a) + 16 * ((b - c_p b) + 16 * ((c - c_p c) + 16 * ((d - c_p d) + 16 * (e - c_p e)))) := by omega
  rw [k1] at e1
  have qu := c_quart pa.2.1 pb.2.1 pc.2.1 pd.2.1 pe.2.1
  rw [e1, pk_ushrN (by omega) 2 2 (by decide), show (858993459 : Int32) = nI 858993459 from rfl, nx_and, nx_and, nI_add, show ∀ n : Nat, n / 2 ^ 2 = n / 4 from fun n => by omega, qu] at e2
  change x2 = nI (c_t a + 16 * (c_t b + 16 * (c_t c + 16 * (c_t d + 16 * c_t e)))) at e2
  generalize hx : c_t a + 16 * (c_t b + 16 * (c_t c + 16 * (c_t d + 16 * c_t e))) = x at e2
  have hxl : x < 2 ^ 20 := by omega
  rw [e2, pk_ushrN (by omega) 4 4 (by decide), nI_add, show (252645135 : Int32) = nI 252645135 from rfl, nx_and, show x / 2 ^ 4 = x / 16 by omega] at e3
  have l3 : (x + x / 16) &&& 252645135 < 2 ^ 22 := Nat.lt_of_le_of_lt Nat.and_le_left (by omega)
  rw [e3, pk_ushrN (by omega) 8 8 (by decide), nI_add] at e4
  generalize hy : (x + x / 16) &&& 252645135 = y at e4 l3
  rw [e4, pk_ushrN (by omega) 16 16 (by decide), nI_add] at e5
  rw [e5, show (63 : Int32) = nI 63 from rfl, nx_and]
  have lst := c_last (c_t a) (by omega) (c_t b) (by omega) (c_t c) (by omega) (c_t d) (by omega) (c_t e) (by omega)
  rw [hx] at lst
  simp only [c_g, hy] at lst
  rw [show y / 2 ^ 8 = y / 256 by omega, show (y + y / 256) / 2 ^ 16 = (y + y / 256) / 65536 by omega, lst, ← hcnt]
  exact h
