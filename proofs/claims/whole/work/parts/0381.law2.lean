set_option maxRecDepth 100000 in
set_option maxHeartbeats 8000000 in
theorem xq_loop {p : Program} {l : Launch} {e : Env} {s : State} {m : MethodId} {below : List Frame} {meth : Method} {c : Code} {D : va_G} {cy : Nat → ClassId} {qa qb : Nat → Nat} {b L ak av : Nat} {xs : Nat → Int32} {R : xw_M → xw_M → Prop} (hL : L ≤ 3072) (C0 : lw_At p s m meth c b L xs) (hT : ∀ w ∈ xw_T, w.before #[Value.ref b] s = true) (hN : xw_N s) (hK : va_K D vwCl (xw_ty cy) s) (hst : xq_S s qa qb) (hG : xs_G ak av (fun q : Nat => s.heap.size ≤ q) s s.heap) (hSim : xq_Sim R) :
    ∀ (n i : Nat), L + 1 ≤ i + n → i ≤ 3078 → ∀ (σ τ : xw_M), R σ τ → ∀ (H : Heap) (locs : List Loc), xq_L D cy qa qb s σ τ H locs → ∀ (ls : Array Slot), lv_has ls 4 [(0, .ref b), (1, .ref (qa 0)), (2, .ref (qb 0)), (3, .int (nI i))] → W p l e room_1 s m #[Value.ref b] below meth c H locs 131 19108 (lw_Z below #[Value.ref b] s) (F0 m 18 ls []) := by
  obtain ⟨hx, hb, hret, hml, hown, hts, hX, hbl, hlocks, hgv⟩ := C0
  obtain ⟨s0, s1, s2, s3, s4, s5, s6, s7, s8, s9, s10, s11, s12, s13, s14, s15, s16, s17, s18, s19, s20, s21, s22, s23, s24, s25⟩ := hSim
  have hbA : ¬ (fun q : Nat => s.heap.size ≤ q) b := Nat.not_le.mpr hbl
  have XA : xr_X p s m #[Value.ref b] c cL_law 4 RL D cy xl_A qa := ⟨hx, hb, hml, hown, hT, hN, hK, hst.1⟩
  have XB : xr_X p s m #[Value.ref b] c cL_law 4 RL D cy xl_B qb := ⟨hx, hb, hml, hown, hT, hN, hK, hst.2.1⟩
  have hGA : xs_G ak av (xw_A xl_A qa s.heap.size) s s.heap := by
    obtain ⟨g1, g2, g3, g4, g5, g6, g7⟩ := hG
    have hn : ∀ a, xw_A xl_A qa s.heap.size a → s.heap.size ≤ a := by
      intro a h
      rcases h with ⟨k, hk, rfl⟩ | h
      · exact hst.2.2.1 k hk
      · exact h
    exact ⟨g1.narrow hn, g2.narrow hn, g3.narrow hn, g4.narrow hn, g5.narrow hn, g6.narrow hn, g7⟩
  intro n
  induction n with
  | zero =>
    intro i h1 h2 σ τ hr H locs hw ls hl
    refine lv_iload_n hx hb dL_law_18 rfl (lv_at hl 3 rfl) ?_
    refine lv_aload_n hx hb dL_law_19 rfl (lv_at hl 0 rfl) ?_
    refine va_slen hx hb hX hbl hbA hw.2.2 dL_law_20 ?_
    refine lv_bipush (v := (6 : Int32)) hx hb dL_law_21 (by decide) ?_
    refine lv_isub hx hb dL_law_23 ?_
    refine lv_icmp_gt (tgt := 1156) hx hb dL_law_24 (by decide) (fun hc => ?_) (fun hc => ?_)
    · refine lv_iconst (v := 1) hx hb dL_law_1156 (by decide) ?_
      refine va_forget (fun q hq => hw.2.2.2.2 q hq) ?_
      refine W.widen (k := 600000) (n := 7302250) (Nat.le_of_ble_eq_true rfl) (Nat.le_of_ble_eq_true rfl) ?_
      exact lw_ret hx hb hret hlocks dL_law_1157
    · exact absurd (xq_go (by omega) hL hc) (by omega)
  | succ n ih =>
  intro i h1 h2 σ τ hr H locs hw ls hl
  refine lv_iload_n hx hb dL_law_18 rfl (lv_at hl 3 rfl) ?_
  refine lv_aload_n hx hb dL_law_19 rfl (lv_at hl 0 rfl) ?_
  refine va_slen hx hb hX hbl hbA hw.2.2 dL_law_20 ?_
  refine lv_bipush (v := (6 : Int32)) hx hb dL_law_21 (by decide) ?_
  refine lv_isub hx hb dL_law_23 ?_
  refine lv_icmp_gt (tgt := 1156) hx hb dL_law_24 (by decide) (fun hc => ?_) (fun hc => ?_)
  · refine lv_iconst (v := 1) hx hb dL_law_1156 (by decide) ?_
    refine va_forget (fun q hq => hw.2.2.2.2 q hq) ?_
    refine W.widen (k := 600000) (n := 7302250) (Nat.le_of_ble_eq_true rfl) (Nat.le_of_ble_eq_true rfl) ?_
    exact lw_ret hx hb hret hlocks dL_law_1157
  have hi : i + 6 ≤ L := xq_go (by omega) hL hc
  have htail : ∀ (σ τ : xw_M), R σ τ → ∀ (H : Heap) (locs : List Loc), xq_L D cy qa qb s σ τ H locs → ∀ (ls : Array Slot), lv_has ls 4 [(0, .ref b), (1, .ref (qa 0)), (2, .ref (qb 0)), (3, .int (nI i))] → W p l e room_1 s m #[Value.ref b] below meth c H locs 131 19108 (lw_Z below #[Value.ref b] s) (F0 m 1150 ls []) := by
    intro σ τ hr H locs hw ls hl
    refine lv_iinc (v := nI (i + 6)) (lv' := [(3, .int (nI (i + 6))), (0, .ref b), (1, .ref (qa 0)), (2, .ref (qb 0))]) hx hb dL_law_1150 hl (k := 3) rfl (nI_add i 6) (by decide) rfl (fun ls hl => ?_)
    refine lv_goto (tgt := 18) hx hb dL_law_1153 (by decide) ?_
    exact ih (i + 6) (by omega) (by omega) σ τ hr H locs hw ls (lv_sub hl [1, 2, 3, 0] rfl)
  refine lv_aload_n hx hb dL_law_27 rfl (lv_at hl 0 rfl) ?_
  refine lv_iload_n hx hb dL_law_28 rfl (lv_at hl 3 rfl) ?_
  refine va_sld hx hb hX hbl hbA hw.2.2 (xq_ix0 hi hL) dL_law_29 ?_
  refine lv_bipush (v := (31 : Int32)) hx hb dL_law_30 (by decide) ?_
  refine lv_iand hx hb dL_law_32 ?_
  by_cases hc0 : xs (nI i).toNatClampNeg &&& 31 = (0 : Int32)
  · refine lv_tableIn (tgt := 152) hx hb dL_law_33 (by rw [hc0]; decide) (by rw [hc0]; decide) (by rw [hc0]; rfl) (by decide) ?_
    refine lv_aload_n hx hb dL_law_152 rfl (lv_at hl 1 rfl) ?_
    refine lv_aload_n hx hb dL_law_153 rfl (lv_at hl 0 rfl) ?_
    refine lv_iload_n hx hb dL_law_154 rfl (lv_at hl 3 rfl) ?_
    refine lv_iconst (v := (1 : Int32)) hx hb dL_law_155 (by decide) ?_
    refine lv_iadd hx hb dL_law_156 ?_
    refine va_sld hx hb hX hbl hbA hw.2.2 (xq_ix hi hL 1 (by decide)) dL_law_157 ?_
    refine lv_aload_n hx hb dL_law_158 rfl (lv_at hl 0 rfl) ?_
    refine lv_iload_n hx hb dL_law_159 rfl (lv_at hl 3 rfl) ?_
    refine lv_iconst (v := (2 : Int32)) hx hb dL_law_160 (by decide) ?_
    refine lv_iadd hx hb dL_law_161 ?_
    refine va_sld hx hb hX hbl hbA hw.2.2 (xq_ix hi hL 2 (by decide)) dL_law_162 ?_
    refine lv_aload_n hx hb dL_law_163 rfl (lv_at hl 0 rfl) ?_
    refine lv_iload_n hx hb dL_law_164 rfl (lv_at hl 3 rfl) ?_
    refine lv_iconst (v := (3 : Int32)) hx hb dL_law_165 (by decide) ?_
    refine lv_iadd hx hb dL_law_166 ?_
    refine va_sld hx hb hX hbl hbA hw.2.2 (xq_ix hi hL 3 (by decide)) dL_law_167 ?_
    refine lv_aload_n hx hb dL_law_168 rfl (lv_at hl 0 rfl) ?_
    refine lv_iload_n hx hb dL_law_169 rfl (lv_at hl 3 rfl) ?_
    refine lv_iconst (v := (4 : Int32)) hx hb dL_law_170 (by decide) ?_
    refine lv_iadd hx hb dL_law_171 ?_
    refine va_sld hx hb hX hbl hbA hw.2.2 (xq_ix hi hL 4 (by decide)) dL_law_172 ?_
    refine lv_aload_n hx hb dL_law_173 rfl (lv_at hl 0 rfl) ?_
    refine lv_iload_n hx hb dL_law_174 rfl (lv_at hl 3 rfl) ?_
    refine lv_iconst (v := (5 : Int32)) hx hb dL_law_175 (by decide) ?_
    refine lv_iadd hx hb dL_law_176 ?_
    refine va_sld hx hb hX hbl hbA hw.2.2 (xq_ix hi hL 5 (by decide)) dL_law_177 ?_
    refine xq_iA hst hw (xr_runV (As := [.int (xs (nI i + (1 : Int32)).toNatClampNeg), .int (xs (nI i + (2 : Int32)).toNatClampNeg), .int (xs (nI i + (3 : Int32)).toNatClampNeg), .int (xs (nI i + (4 : Int32)).toNatClampNeg), .int (xs (nI i + (5 : Int32)).toNatClampNeg)]) (rest := []) XA (xq_hA hw) 0 (xc_X11_feed l D cy qa σ (xs (nI i + (1 : Int32)).toNatClampNeg) (xs (nI i + (2 : Int32)).toNatClampNeg) (xs (nI i + (3 : Int32)).toNatClampNeg) (xs (nI i + (4 : Int32)).toNatClampNeg) (xs (nI i + (5 : Int32)).toNatClampNeg) (s0 σ τ hr (xs (nI i + (1 : Int32)).toNatClampNeg) (xs (nI i + (2 : Int32)).toNatClampNeg) (xs (nI i + (3 : Int32)).toNatClampNeg) (xs (nI i + (4 : Int32)).toNatClampNeg) (xs (nI i + (5 : Int32)).toNatClampNeg)) _) xm_X11_feed xt_2_149 xt_2_150 xt_2_151 ⟨Nat.le_of_ble_eq_true rfl, Nat.le_of_ble_eq_true rfl⟩ xl_A_ShowRings_at rfl rfl rfl rfl hl.1 (Nat.le_of_ble_eq_true rfl) dL_law_178 ⟨Nat.le_of_ble_eq_true rfl, Nat.le_of_ble_eq_true rfl⟩) (fun r σ1 H locs hB hw => ?_)
    refine lv_aload_n hx hb dL_law_181 rfl (lv_at hl 2 rfl) ?_
    refine lv_aload_n hx hb dL_law_182 rfl (lv_at hl 0 rfl) ?_
    refine lv_iload_n hx hb dL_law_183 rfl (lv_at hl 3 rfl) ?_
    refine lv_iconst (v := (1 : Int32)) hx hb dL_law_184 (by decide) ?_
    refine lv_iadd hx hb dL_law_185 ?_
    refine va_sld hx hb hX hbl hbA hw.2.2 (xq_ix hi hL 1 (by decide)) dL_law_186 ?_
    refine lv_aload_n hx hb dL_law_187 rfl (lv_at hl 0 rfl) ?_
    refine lv_iload_n hx hb dL_law_188 rfl (lv_at hl 3 rfl) ?_
    refine lv_iconst (v := (2 : Int32)) hx hb dL_law_189 (by decide) ?_
    refine lv_iadd hx hb dL_law_190 ?_
    refine va_sld hx hb hX hbl hbA hw.2.2 (xq_ix hi hL 2 (by decide)) dL_law_191 ?_
    refine lv_aload_n hx hb dL_law_192 rfl (lv_at hl 0 rfl) ?_
    refine lv_iload_n hx hb dL_law_193 rfl (lv_at hl 3 rfl) ?_
    refine lv_iconst (v := (3 : Int32)) hx hb dL_law_194 (by decide) ?_
    refine lv_iadd hx hb dL_law_195 ?_
    refine va_sld hx hb hX hbl hbA hw.2.2 (xq_ix hi hL 3 (by decide)) dL_law_196 ?_
    refine lv_aload_n hx hb dL_law_197 rfl (lv_at hl 0 rfl) ?_
    refine lv_iload_n hx hb dL_law_198 rfl (lv_at hl 3 rfl) ?_
    refine lv_iconst (v := (4 : Int32)) hx hb dL_law_199 (by decide) ?_
    refine lv_iadd hx hb dL_law_200 ?_
    refine va_sld hx hb hX hbl hbA hw.2.2 (xq_ix hi hL 4 (by decide)) dL_law_201 ?_
    refine lv_aload_n hx hb dL_law_202 rfl (lv_at hl 0 rfl) ?_
    refine lv_iload_n hx hb dL_law_203 rfl (lv_at hl 3 rfl) ?_
    refine lv_iconst (v := (5 : Int32)) hx hb dL_law_204 (by decide) ?_
    refine lv_iadd hx hb dL_law_205 ?_
    refine va_sld hx hb hX hbl hbA hw.2.2 (xq_ix hi hL 5 (by decide)) dL_law_206 ?_
    refine xq_iB hst hw (xr_runV (As := [.int (xs (nI i + (1 : Int32)).toNatClampNeg), .int (xs (nI i + (2 : Int32)).toNatClampNeg), .int (xs (nI i + (3 : Int32)).toNatClampNeg), .int (xs (nI i + (4 : Int32)).toNatClampNeg), .int (xs (nI i + (5 : Int32)).toNatClampNeg)]) (rest := [.int r]) XB (xq_hB hw) 0 (xc_X12_feed l D cy qb τ (xs (nI i + (1 : Int32)).toNatClampNeg) (xs (nI i + (2 : Int32)).toNatClampNeg) (xs (nI i + (3 : Int32)).toNatClampNeg) (xs (nI i + (4 : Int32)).toNatClampNeg) (xs (nI i + (5 : Int32)).toNatClampNeg) hB _) xm_X12_feed xt_5_166 xt_5_167 xt_5_168 ⟨Nat.le_of_ble_eq_true rfl, Nat.le_of_ble_eq_true rfl⟩ xl_B_ShowRingsModel_at rfl rfl rfl rfl hl.1 (Nat.le_of_ble_eq_true rfl) dL_law_207 ⟨Nat.le_of_ble_eq_true rfl, Nat.le_of_ble_eq_true rfl⟩) (fun r2 τ1 H locs hB hw => ?_)
    refine lv_icmp_eq (tgt := 1150) hx hb dL_law_210 (by decide) (fun _ => ?_) (fun hc => absurd hB.1 hc)
    exact htail _ _ hB.2 _ _ hw _ hl
  by_cases hc1 : xs (nI i).toNatClampNeg &&& 31 = (1 : Int32)
  · refine lv_tableIn (tgt := 215) hx hb dL_law_33 (by rw [hc1]; decide) (by rw [hc1]; decide) (by rw [hc1]; rfl) (by decide) ?_
    refine lv_aload_n hx hb dL_law_215 rfl (lv_at hl 1 rfl) ?_
    refine lv_aload_n hx hb dL_law_216 rfl (lv_at hl 0 rfl) ?_
    refine lv_iload_n hx hb dL_law_217 rfl (lv_at hl 3 rfl) ?_
    refine lv_iconst (v := (1 : Int32)) hx hb dL_law_218 (by decide) ?_
    refine lv_iadd hx hb dL_law_219 ?_
    refine va_sld hx hb hX hbl hbA hw.2.2 (xq_ix hi hL 1 (by decide)) dL_law_220 ?_
    refine xq_iA hst hw (xr_runV (As := [.int (xs (nI i + (1 : Int32)).toNatClampNeg)]) (rest := []) XA (xq_hA hw) 0 (xc_X11_back l D cy qa σ (xs (nI i + (1 : Int32)).toNatClampNeg) (s1 σ τ hr (xs (nI i + (1 : Int32)).toNatClampNeg)) _) xm_X11_back xt_2_157 xt_2_158 xt_2_159 ⟨Nat.le_of_ble_eq_true rfl, Nat.le_of_ble_eq_true rfl⟩ xl_A_ShowRings_at rfl rfl rfl rfl hl.1 (Nat.le_of_ble_eq_true rfl) dL_law_221 ⟨Nat.le_of_ble_eq_true rfl, Nat.le_of_ble_eq_true rfl⟩) (fun r σ1 H locs hB hw => ?_)
    refine lv_aload_n hx hb dL_law_224 rfl (lv_at hl 2 rfl) ?_
    refine lv_aload_n hx hb dL_law_225 rfl (lv_at hl 0 rfl) ?_
    refine lv_iload_n hx hb dL_law_226 rfl (lv_at hl 3 rfl) ?_
    refine lv_iconst (v := (1 : Int32)) hx hb dL_law_227 (by decide) ?_
    refine lv_iadd hx hb dL_law_228 ?_
    refine va_sld hx hb hX hbl hbA hw.2.2 (xq_ix hi hL 1 (by decide)) dL_law_229 ?_
    refine xq_iB hst hw (xr_runV (As := [.int (xs (nI i + (1 : Int32)).toNatClampNeg)]) (rest := [.int r]) XB (xq_hB hw) 0 (xc_X12_back l D cy qb τ (xs (nI i + (1 : Int32)).toNatClampNeg) hB _) xm_X12_back xt_5_174 xt_5_175 xt_5_176 ⟨Nat.le_of_ble_eq_true rfl, Nat.le_of_ble_eq_true rfl⟩ xl_B_ShowRingsModel_at rfl rfl rfl rfl hl.1 (Nat.le_of_ble_eq_true rfl) dL_law_230 ⟨Nat.le_of_ble_eq_true rfl, Nat.le_of_ble_eq_true rfl⟩) (fun r2 τ1 H locs hB hw => ?_)
    refine lv_icmp_eq (tgt := 1150) hx hb dL_law_233 (by decide) (fun _ => ?_) (fun hc => absurd hB.1 hc)
    exact htail _ _ hB.2 _ _ hw _ hl
  by_cases hc2 : xs (nI i).toNatClampNeg &&& 31 = (2 : Int32)
  · refine lv_tableIn (tgt := 238) hx hb dL_law_33 (by rw [hc2]; decide) (by rw [hc2]; decide) (by rw [hc2]; rfl) (by decide) ?_
    refine lv_aload_n hx hb dL_law_238 rfl (lv_at hl 1 rfl) ?_
    refine xq_iA hst hw (xs_runV (As := []) (rest := []) XA hGA (xq_hA hw) (xc_X11_read l D cy qa ak av σ  (s2 σ τ hr) _) xm_X11_read xt_2_161 xt_2_162 xt_2_163 ⟨Nat.le_of_ble_eq_true rfl, Nat.le_of_ble_eq_true rfl⟩ (xs_recL XA (xq_hA hw) xl_A_ShowRings_at rfl rfl) rfl rfl hl.1 (Nat.le_of_ble_eq_true rfl) dL_law_239 ⟨Nat.le_of_ble_eq_true rfl, Nat.le_of_ble_eq_true rfl⟩) (fun r σ1 H locs hB hw => ?_)
    refine lv_aload_n hx hb dL_law_242 rfl (lv_at hl 2 rfl) ?_
    refine xq_iB hst hw (xr_runV (As := []) (rest := [.int r]) XB (xq_hB hw) 0 (xc_X12_read l D cy qb τ  hB _) xm_X12_read xt_5_178 xt_5_179 xt_5_180 ⟨Nat.le_of_ble_eq_true rfl, Nat.le_of_ble_eq_true rfl⟩ xl_B_ShowRingsModel_at rfl rfl rfl rfl hl.1 (Nat.le_of_ble_eq_true rfl) dL_law_243 ⟨Nat.le_of_ble_eq_true rfl, Nat.le_of_ble_eq_true rfl⟩) (fun r2 τ1 H locs hB hw => ?_)
    refine lv_icmp_eq (tgt := 1150) hx hb dL_law_246 (by decide) (fun _ => ?_) (fun hc => absurd hB.1 hc)
    exact htail _ _ hB.2 _ _ hw _ hl
  by_cases hc3 : xs (nI i).toNatClampNeg &&& 31 = (3 : Int32)
  · refine lv_tableIn (tgt := 251) hx hb dL_law_33 (by rw [hc3]; decide) (by rw [hc3]; decide) (by rw [hc3]; rfl) (by decide) ?_
    refine lv_aload_n hx hb dL_law_251 rfl (lv_at hl 1 rfl) ?_
    refine xq_iA hst hw (xr_runV (As := []) (rest := []) XA (xq_hA hw) 0 (xc_X11_place l D cy qa σ  (s3 σ τ hr) _) xm_X11_place xt_3_69 xt_3_70 xt_3_71 ⟨Nat.le_of_ble_eq_true rfl, Nat.le_of_ble_eq_true rfl⟩ xl_A_ShowRings_at rfl rfl rfl rfl hl.1 (Nat.le_of_ble_eq_true rfl) dL_law_252 ⟨Nat.le_of_ble_eq_true rfl, Nat.le_of_ble_eq_true rfl⟩) (fun r σ1 H locs hB hw => ?_)
    refine lv_aload_n hx hb dL_law_255 rfl (lv_at hl 2 rfl) ?_
    refine xq_iB hst hw (xr_runV (As := []) (rest := [.int r]) XB (xq_hB hw) 0 (xc_X12_place l D cy qb τ  hB _) xm_X12_place xt_6_4 xt_6_5 xt_6_6 ⟨Nat.le_of_ble_eq_true rfl, Nat.le_of_ble_eq_true rfl⟩ xl_B_ShowRingsModel_at rfl rfl rfl rfl hl.1 (Nat.le_of_ble_eq_true rfl) dL_law_256 ⟨Nat.le_of_ble_eq_true rfl, Nat.le_of_ble_eq_true rfl⟩) (fun r2 τ1 H locs hB hw => ?_)
    refine lv_icmp_eq (tgt := 1150) hx hb dL_law_259 (by decide) (fun _ => ?_) (fun hc => absurd hB.1 hc)
    exact htail _ _ hB.2 _ _ hw _ hl
  by_cases hc4 : xs (nI i).toNatClampNeg &&& 31 = (4 : Int32)
  · refine lv_tableIn (tgt := 264) hx hb dL_law_33 (by rw [hc4]; decide) (by rw [hc4]; decide) (by rw [hc4]; rfl) (by decide) ?_
    refine lv_aload_n hx hb dL_law_264 rfl (lv_at hl 1 rfl) ?_
    refine lv_aload_n hx hb dL_law_265 rfl (lv_at hl 0 rfl) ?_
    refine lv_iload_n hx hb dL_law_266 rfl (lv_at hl 3 rfl) ?_
    refine lv_iconst (v := (1 : Int32)) hx hb dL_law_267 (by decide) ?_
    refine lv_iadd hx hb dL_law_268 ?_
    refine va_sld hx hb hX hbl hbA hw.2.2 (xq_ix hi hL 1 (by decide)) dL_law_269 ?_
    refine lv_aload_n hx hb dL_law_270 rfl (lv_at hl 0 rfl) ?_
    refine lv_iload_n hx hb dL_law_271 rfl (lv_at hl 3 rfl) ?_
    refine lv_iconst (v := (2 : Int32)) hx hb dL_law_272 (by decide) ?_
    refine lv_iadd hx hb dL_law_273 ?_
    refine va_sld hx hb hX hbl hbA hw.2.2 (xq_ix hi hL 2 (by decide)) dL_law_274 ?_
    refine xq_iA hst hw (xr_runV (As := [.int (xs (nI i + (1 : Int32)).toNatClampNeg), .int (xs (nI i + (2 : Int32)).toNatClampNeg)]) (rest := []) XA (xq_hA hw) 0 (xc_X11_kin l D cy qa σ (xs (nI i + (1 : Int32)).toNatClampNeg) (xs (nI i + (2 : Int32)).toNatClampNeg) (s4 σ τ hr (xs (nI i + (1 : Int32)).toNatClampNeg) (xs (nI i + (2 : Int32)).toNatClampNeg)) _) xm_X11_kin xt_3_73 xt_3_74 xt_3_75 ⟨Nat.le_of_ble_eq_true rfl, Nat.le_of_ble_eq_true rfl⟩ xl_A_ShowRings_at rfl rfl rfl rfl hl.1 (Nat.le_of_ble_eq_true rfl) dL_law_275 ⟨Nat.le_of_ble_eq_true rfl, Nat.le_of_ble_eq_true rfl⟩) (fun r σ1 H locs hB hw => ?_)
    refine lv_aload_n hx hb dL_law_278 rfl (lv_at hl 2 rfl) ?_
    refine lv_aload_n hx hb dL_law_279 rfl (lv_at hl 0 rfl) ?_
    refine lv_iload_n hx hb dL_law_280 rfl (lv_at hl 3 rfl) ?_
    refine lv_iconst (v := (1 : Int32)) hx hb dL_law_281 (by decide) ?_
    refine lv_iadd hx hb dL_law_282 ?_
    refine va_sld hx hb hX hbl hbA hw.2.2 (xq_ix hi hL 1 (by decide)) dL_law_283 ?_
    refine lv_aload_n hx hb dL_law_284 rfl (lv_at hl 0 rfl) ?_
    refine lv_iload_n hx hb dL_law_285 rfl (lv_at hl 3 rfl) ?_
    refine lv_iconst (v := (2 : Int32)) hx hb dL_law_286 (by decide) ?_
    refine lv_iadd hx hb dL_law_287 ?_
    refine va_sld hx hb hX hbl hbA hw.2.2 (xq_ix hi hL 2 (by decide)) dL_law_288 ?_
    refine xq_iB hst hw (xr_runV (As := [.int (xs (nI i + (1 : Int32)).toNatClampNeg), .int (xs (nI i + (2 : Int32)).toNatClampNeg)]) (rest := [.int r]) XB (xq_hB hw) 0 (xc_X12_kin l D cy qb τ (xs (nI i + (1 : Int32)).toNatClampNeg) (xs (nI i + (2 : Int32)).toNatClampNeg) hB _) xm_X12_kin xt_6_8 xt_6_9 xt_6_10 ⟨Nat.le_of_ble_eq_true rfl, Nat.le_of_ble_eq_true rfl⟩ xl_B_ShowRingsModel_at rfl rfl rfl rfl hl.1 (Nat.le_of_ble_eq_true rfl) dL_law_289 ⟨Nat.le_of_ble_eq_true rfl, Nat.le_of_ble_eq_true rfl⟩) (fun r2 τ1 H locs hB hw => ?_)
    refine lv_icmp_eq (tgt := 1150) hx hb dL_law_292 (by decide) (fun _ => ?_) (fun hc => absurd hB.1 hc)
    exact htail _ _ hB.2 _ _ hw _ hl
  by_cases hc5 : xs (nI i).toNatClampNeg &&& 31 = (5 : Int32)
  · refine lv_tableIn (tgt := 297) hx hb dL_law_33 (by rw [hc5]; decide) (by rw [hc5]; decide) (by rw [hc5]; rfl) (by decide) ?_
    refine lv_aload_n hx hb dL_law_297 rfl (lv_at hl 1 rfl) ?_
    refine lv_aload_n hx hb dL_law_298 rfl (lv_at hl 0 rfl) ?_
    refine lv_iload_n hx hb dL_law_299 rfl (lv_at hl 3 rfl) ?_
    refine lv_iconst (v := (1 : Int32)) hx hb dL_law_300 (by decide) ?_
    refine lv_iadd hx hb dL_law_301 ?_
    refine va_sld hx hb hX hbl hbA hw.2.2 (xq_ix hi hL 1 (by decide)) dL_law_302 ?_
    refine lv_aload_n hx hb dL_law_303 rfl (lv_at hl 0 rfl) ?_
    refine lv_iload_n hx hb dL_law_304 rfl (lv_at hl 3 rfl) ?_
    refine lv_iconst (v := (2 : Int32)) hx hb dL_law_305 (by decide) ?_
    refine lv_iadd hx hb dL_law_306 ?_
    refine va_sld hx hb hX hbl hbA hw.2.2 (xq_ix hi hL 2 (by decide)) dL_law_307 ?_
    refine lv_aload_n hx hb dL_law_308 rfl (lv_at hl 0 rfl) ?_
    refine lv_iload_n hx hb dL_law_309 rfl (lv_at hl 3 rfl) ?_
    refine lv_iconst (v := (3 : Int32)) hx hb dL_law_310 (by decide) ?_
    refine lv_iadd hx hb dL_law_311 ?_
    refine va_sld hx hb hX hbl hbA hw.2.2 (xq_ix hi hL 3 (by decide)) dL_law_312 ?_
    refine lv_aload_n hx hb dL_law_313 rfl (lv_at hl 0 rfl) ?_
    refine lv_iload_n hx hb dL_law_314 rfl (lv_at hl 3 rfl) ?_
    refine lv_iconst (v := (4 : Int32)) hx hb dL_law_315 (by decide) ?_
    refine lv_iadd hx hb dL_law_316 ?_
    refine va_sld hx hb hX hbl hbA hw.2.2 (xq_ix hi hL 4 (by decide)) dL_law_317 ?_
    refine xq_iA hst hw (xr_runV (As := [.int (xs (nI i + (1 : Int32)).toNatClampNeg), .int (xs (nI i + (2 : Int32)).toNatClampNeg), .int (xs (nI i + (3 : Int32)).toNatClampNeg), .int (xs (nI i + (4 : Int32)).toNatClampNeg)]) (rest := []) XA (xq_hA hw) 0 (xc_X11_breed l D cy qa σ (xs (nI i + (1 : Int32)).toNatClampNeg) (xs (nI i + (2 : Int32)).toNatClampNeg) (xs (nI i + (3 : Int32)).toNatClampNeg) (xs (nI i + (4 : Int32)).toNatClampNeg) (s5 σ τ hr (xs (nI i + (1 : Int32)).toNatClampNeg) (xs (nI i + (2 : Int32)).toNatClampNeg) (xs (nI i + (3 : Int32)).toNatClampNeg) (xs (nI i + (4 : Int32)).toNatClampNeg)) _) xm_X11_breed xt_3_92 xt_3_93 xt_3_94 ⟨Nat.le_of_ble_eq_true rfl, Nat.le_of_ble_eq_true rfl⟩ xl_A_ShowRings_at rfl rfl rfl rfl hl.1 (Nat.le_of_ble_eq_true rfl) dL_law_318 ⟨Nat.le_of_ble_eq_true rfl, Nat.le_of_ble_eq_true rfl⟩) (fun r σ1 H locs hB hw => ?_)
    refine lv_aload_n hx hb dL_law_321 rfl (lv_at hl 2 rfl) ?_
    refine lv_aload_n hx hb dL_law_322 rfl (lv_at hl 0 rfl) ?_
    refine lv_iload_n hx hb dL_law_323 rfl (lv_at hl 3 rfl) ?_
    refine lv_iconst (v := (1 : Int32)) hx hb dL_law_324 (by decide) ?_
    refine lv_iadd hx hb dL_law_325 ?_
    refine va_sld hx hb hX hbl hbA hw.2.2 (xq_ix hi hL 1 (by decide)) dL_law_326 ?_
    refine lv_aload_n hx hb dL_law_327 rfl (lv_at hl 0 rfl) ?_
    refine lv_iload_n hx hb dL_law_328 rfl (lv_at hl 3 rfl) ?_
    refine lv_iconst (v := (2 : Int32)) hx hb dL_law_329 (by decide) ?_
    refine lv_iadd hx hb dL_law_330 ?_
    refine va_sld hx hb hX hbl hbA hw.2.2 (xq_ix hi hL 2 (by decide)) dL_law_331 ?_
    refine lv_aload_n hx hb dL_law_332 rfl (lv_at hl 0 rfl) ?_
    refine lv_iload_n hx hb dL_law_333 rfl (lv_at hl 3 rfl) ?_
    refine lv_iconst (v := (3 : Int32)) hx hb dL_law_334 (by decide) ?_
    refine lv_iadd hx hb dL_law_335 ?_
    refine va_sld hx hb hX hbl hbA hw.2.2 (xq_ix hi hL 3 (by decide)) dL_law_336 ?_
    refine lv_aload_n hx hb dL_law_337 rfl (lv_at hl 0 rfl) ?_
    refine lv_iload_n hx hb dL_law_338 rfl (lv_at hl 3 rfl) ?_
    refine lv_iconst (v := (4 : Int32)) hx hb dL_law_339 (by decide) ?_
    refine lv_iadd hx hb dL_law_340 ?_
    refine va_sld hx hb hX hbl hbA hw.2.2 (xq_ix hi hL 4 (by decide)) dL_law_341 ?_
    refine xq_iB hst hw (xr_runV (As := [.int (xs (nI i + (1 : Int32)).toNatClampNeg), .int (xs (nI i + (2 : Int32)).toNatClampNeg), .int (xs (nI i + (3 : Int32)).toNatClampNeg), .int (xs (nI i + (4 : Int32)).toNatClampNeg)]) (rest := [.int r]) XB (xq_hB hw) 0 (xc_X12_breed l D cy qb τ (xs (nI i + (1 : Int32)).toNatClampNeg) (xs (nI i + (2 : Int32)).toNatClampNeg) (xs (nI i + (3 : Int32)).toNatClampNeg) (xs (nI i + (4 : Int32)).toNatClampNeg) hB _) xm_X12_breed xt_6_15 xt_6_16 xt_6_17 ⟨Nat.le_of_ble_eq_true rfl, Nat.le_of_ble_eq_true rfl⟩ xl_B_ShowRingsModel_at rfl rfl rfl rfl hl.1 (Nat.le_of_ble_eq_true rfl) dL_law_342 ⟨Nat.le_of_ble_eq_true rfl, Nat.le_of_ble_eq_true rfl⟩) (fun r2 τ1 H locs hB hw => ?_)
    refine lv_icmp_eq (tgt := 1150) hx hb dL_law_345 (by decide) (fun _ => ?_) (fun hc => absurd hB.1 hc)
    exact htail _ _ hB.2 _ _ hw _ hl
  by_cases hc6 : xs (nI i).toNatClampNeg &&& 31 = (6 : Int32)
  · refine lv_tableIn (tgt := 350) hx hb dL_law_33 (by rw [hc6]; decide) (by rw [hc6]; decide) (by rw [hc6]; rfl) (by decide) ?_
    refine lv_aload_n hx hb dL_law_350 rfl (lv_at hl 1 rfl) ?_
    refine lv_aload_n hx hb dL_law_351 rfl (lv_at hl 0 rfl) ?_
    refine lv_iload_n hx hb dL_law_352 rfl (lv_at hl 3 rfl) ?_
    refine lv_iconst (v := (1 : Int32)) hx hb dL_law_353 (by decide) ?_
    refine lv_iadd hx hb dL_law_354 ?_
    refine va_sld hx hb hX hbl hbA hw.2.2 (xq_ix hi hL 1 (by decide)) dL_law_355 ?_
    refine lv_aload_n hx hb dL_law_356 rfl (lv_at hl 0 rfl) ?_
    refine lv_iload_n hx hb dL_law_357 rfl (lv_at hl 3 rfl) ?_
    refine lv_iconst (v := (2 : Int32)) hx hb dL_law_358 (by decide) ?_
    refine lv_iadd hx hb dL_law_359 ?_
    refine va_sld hx hb hX hbl hbA hw.2.2 (xq_ix hi hL 2 (by decide)) dL_law_360 ?_
    refine lv_aload_n hx hb dL_law_361 rfl (lv_at hl 0 rfl) ?_
    refine lv_iload_n hx hb dL_law_362 rfl (lv_at hl 3 rfl) ?_
    refine lv_iconst (v := (3 : Int32)) hx hb dL_law_363 (by decide) ?_
    refine lv_iadd hx hb dL_law_364 ?_
    refine va_sld hx hb hX hbl hbA hw.2.2 (xq_ix hi hL 3 (by decide)) dL_law_365 ?_
    refine lv_aload_n hx hb dL_law_366 rfl (lv_at hl 0 rfl) ?_
    refine lv_iload_n hx hb dL_law_367 rfl (lv_at hl 3 rfl) ?_
    refine lv_iconst (v := (4 : Int32)) hx hb dL_law_368 (by decide) ?_
    refine lv_iadd hx hb dL_law_369 ?_
    refine va_sld hx hb hX hbl hbA hw.2.2 (xq_ix hi hL 4 (by decide)) dL_law_370 ?_
    refine lv_aload_n hx hb dL_law_371 rfl (lv_at hl 0 rfl) ?_
    refine lv_iload_n hx hb dL_law_372 rfl (lv_at hl 3 rfl) ?_
    refine lv_iconst (v := (5 : Int32)) hx hb dL_law_373 (by decide) ?_
    refine lv_iadd hx hb dL_law_374 ?_
    refine va_sld hx hb hX hbl hbA hw.2.2 (xq_ix hi hL 5 (by decide)) dL_law_375 ?_
    refine xq_iA hst hw (xr_runV (As := [.int (xs (nI i + (1 : Int32)).toNatClampNeg), .int (xs (nI i + (2 : Int32)).toNatClampNeg), .int (xs (nI i + (3 : Int32)).toNatClampNeg), .int (xs (nI i + (4 : Int32)).toNatClampNeg), .int (xs (nI i + (5 : Int32)).toNatClampNeg)]) (rest := []) XA (xq_hA hw) 0 (xc_X11_dog l D cy qa σ (xs (nI i + (1 : Int32)).toNatClampNeg) (xs (nI i + (2 : Int32)).toNatClampNeg) (xs (nI i + (3 : Int32)).toNatClampNeg) (xs (nI i + (4 : Int32)).toNatClampNeg) (xs (nI i + (5 : Int32)).toNatClampNeg) (s6 σ τ hr (xs (nI i + (1 : Int32)).toNatClampNeg) (xs (nI i + (2 : Int32)).toNatClampNeg) (xs (nI i + (3 : Int32)).toNatClampNeg) (xs (nI i + (4 : Int32)).toNatClampNeg) (xs (nI i + (5 : Int32)).toNatClampNeg)) _) xm_X11_dog xt_3_100 xt_3_101 xt_3_102 ⟨Nat.le_of_ble_eq_true rfl, Nat.le_of_ble_eq_true rfl⟩ xl_A_ShowRings_at rfl rfl rfl rfl hl.1 (Nat.le_of_ble_eq_true rfl) dL_law_376 ⟨Nat.le_of_ble_eq_true rfl, Nat.le_of_ble_eq_true rfl⟩) (fun r σ1 H locs hB hw => ?_)
    refine lv_aload_n hx hb dL_law_379 rfl (lv_at hl 2 rfl) ?_
    refine lv_aload_n hx hb dL_law_380 rfl (lv_at hl 0 rfl) ?_
    refine lv_iload_n hx hb dL_law_381 rfl (lv_at hl 3 rfl) ?_
    refine lv_iconst (v := (1 : Int32)) hx hb dL_law_382 (by decide) ?_
    refine lv_iadd hx hb dL_law_383 ?_
    refine va_sld hx hb hX hbl hbA hw.2.2 (xq_ix hi hL 1 (by decide)) dL_law_384 ?_
    refine lv_aload_n hx hb dL_law_385 rfl (lv_at hl 0 rfl) ?_
    refine lv_iload_n hx hb dL_law_386 rfl (lv_at hl 3 rfl) ?_
    refine lv_iconst (v := (2 : Int32)) hx hb dL_law_387 (by decide) ?_
    refine lv_iadd hx hb dL_law_388 ?_
    refine va_sld hx hb hX hbl hbA hw.2.2 (xq_ix hi hL 2 (by decide)) dL_law_389 ?_
    refine lv_aload_n hx hb dL_law_390 rfl (lv_at hl 0 rfl) ?_
    refine lv_iload_n hx hb dL_law_391 rfl (lv_at hl 3 rfl) ?_
    refine lv_iconst (v := (3 : Int32)) hx hb dL_law_392 (by decide) ?_
    refine lv_iadd hx hb dL_law_393 ?_
    refine va_sld hx hb hX hbl hbA hw.2.2 (xq_ix hi hL 3 (by decide)) dL_law_394 ?_
    refine lv_aload_n hx hb dL_law_395 rfl (lv_at hl 0 rfl) ?_
    refine lv_iload_n hx hb dL_law_396 rfl (lv_at hl 3 rfl) ?_
    refine lv_iconst (v := (4 : Int32)) hx hb dL_law_397 (by decide) ?_
    refine lv_iadd hx hb dL_law_398 ?_
    refine va_sld hx hb hX hbl hbA hw.2.2 (xq_ix hi hL 4 (by decide)) dL_law_399 ?_
    refine lv_aload_n hx hb dL_law_400 rfl (lv_at hl 0 rfl) ?_
    refine lv_iload_n hx hb dL_law_401 rfl (lv_at hl 3 rfl) ?_
    refine lv_iconst (v := (5 : Int32)) hx hb dL_law_402 (by decide) ?_
    refine lv_iadd hx hb dL_law_403 ?_
    refine va_sld hx hb hX hbl hbA hw.2.2 (xq_ix hi hL 5 (by decide)) dL_law_404 ?_
    refine xq_iB hst hw (xr_runV (As := [.int (xs (nI i + (1 : Int32)).toNatClampNeg), .int (xs (nI i + (2 : Int32)).toNatClampNeg), .int (xs (nI i + (3 : Int32)).toNatClampNeg), .int (xs (nI i + (4 : Int32)).toNatClampNeg), .int (xs (nI i + (5 : Int32)).toNatClampNeg)]) (rest := [.int r]) XB (xq_hB hw) 0 (xc_X12_dog l D cy qb τ (xs (nI i + (1 : Int32)).toNatClampNeg) (xs (nI i + (2 : Int32)).toNatClampNeg) (xs (nI i + (3 : Int32)).toNatClampNeg) (xs (nI i + (4 : Int32)).toNatClampNeg) (xs (nI i + (5 : Int32)).toNatClampNeg) hB _) xm_X12_dog xt_6_19 xt_6_20 xt_6_21 ⟨Nat.le_of_ble_eq_true rfl, Nat.le_of_ble_eq_true rfl⟩ xl_B_ShowRingsModel_at rfl rfl rfl rfl hl.1 (Nat.le_of_ble_eq_true rfl) dL_law_405 ⟨Nat.le_of_ble_eq_true rfl, Nat.le_of_ble_eq_true rfl⟩) (fun r2 τ1 H locs hB hw => ?_)
    refine lv_icmp_eq (tgt := 1150) hx hb dL_law_408 (by decide) (fun _ => ?_) (fun hc => absurd hB.1 hc)
    exact htail _ _ hB.2 _ _ hw _ hl
  by_cases hc7 : xs (nI i).toNatClampNeg &&& 31 = (7 : Int32)
  · refine lv_tableIn (tgt := 413) hx hb dL_law_33 (by rw [hc7]; decide) (by rw [hc7]; decide) (by rw [hc7]; rfl) (by decide) ?_
    refine lv_aload_n hx hb dL_law_413 rfl (lv_at hl 1 rfl) ?_
    refine lv_aload_n hx hb dL_law_414 rfl (lv_at hl 0 rfl) ?_
    refine lv_iload_n hx hb dL_law_415 rfl (lv_at hl 3 rfl) ?_
    refine lv_iconst (v := (1 : Int32)) hx hb dL_law_416 (by decide) ?_
    refine lv_iadd hx hb dL_law_417 ?_
    refine va_sld hx hb hX hbl hbA hw.2.2 (xq_ix hi hL 1 (by decide)) dL_law_418 ?_
    refine lv_aload_n hx hb dL_law_419 rfl (lv_at hl 0 rfl) ?_
    refine lv_iload_n hx hb dL_law_420 rfl (lv_at hl 3 rfl) ?_
    refine lv_iconst (v := (2 : Int32)) hx hb dL_law_421 (by decide) ?_
    refine lv_iadd hx hb dL_law_422 ?_
    refine va_sld hx hb hX hbl hbA hw.2.2 (xq_ix hi hL 2 (by decide)) dL_law_423 ?_
    refine xq_iA hst hw (xr_runV (As := [.int (xs (nI i + (1 : Int32)).toNatClampNeg), .int (xs (nI i + (2 : Int32)).toNatClampNeg)]) (rest := []) XA (xq_hA hw) 0 (xc_X11_permits l D cy qa σ (xs (nI i + (1 : Int32)).toNatClampNeg) (xs (nI i + (2 : Int32)).toNatClampNeg) (s7 σ τ hr (xs (nI i + (1 : Int32)).toNatClampNeg) (xs (nI i + (2 : Int32)).toNatClampNeg)) _) xm_X11_permits xt_3_115 xt_3_116 xt_3_117 ⟨Nat.le_of_ble_eq_true rfl, Nat.le_of_ble_eq_true rfl⟩ xl_A_ShowRings_at rfl rfl rfl rfl hl.1 (Nat.le_of_ble_eq_true rfl) dL_law_424 ⟨Nat.le_of_ble_eq_true rfl, Nat.le_of_ble_eq_true rfl⟩) (fun r σ1 H locs hB hw => ?_)
    refine lv_aload_n hx hb dL_law_427 rfl (lv_at hl 2 rfl) ?_
    refine lv_aload_n hx hb dL_law_428 rfl (lv_at hl 0 rfl) ?_
    refine lv_iload_n hx hb dL_law_429 rfl (lv_at hl 3 rfl) ?_
    refine lv_iconst (v := (1 : Int32)) hx hb dL_law_430 (by decide) ?_
    refine lv_iadd hx hb dL_law_431 ?_
    refine va_sld hx hb hX hbl hbA hw.2.2 (xq_ix hi hL 1 (by decide)) dL_law_432 ?_
    refine lv_aload_n hx hb dL_law_433 rfl (lv_at hl 0 rfl) ?_
    refine lv_iload_n hx hb dL_law_434 rfl (lv_at hl 3 rfl) ?_
    refine lv_iconst (v := (2 : Int32)) hx hb dL_law_435 (by decide) ?_
    refine lv_iadd hx hb dL_law_436 ?_
    refine va_sld hx hb hX hbl hbA hw.2.2 (xq_ix hi hL 2 (by decide)) dL_law_437 ?_
    refine xq_iB hst hw (xr_runV (As := [.int (xs (nI i + (1 : Int32)).toNatClampNeg), .int (xs (nI i + (2 : Int32)).toNatClampNeg)]) (rest := [.int r]) XB (xq_hB hw) 0 (xc_X12_permits l D cy qb τ (xs (nI i + (1 : Int32)).toNatClampNeg) (xs (nI i + (2 : Int32)).toNatClampNeg) hB _) xm_X12_permits xt_6_30 xt_6_31 xt_6_32 ⟨Nat.le_of_ble_eq_true rfl, Nat.le_of_ble_eq_true rfl⟩ xl_B_ShowRingsModel_at rfl rfl rfl rfl hl.1 (Nat.le_of_ble_eq_true rfl) dL_law_438 ⟨Nat.le_of_ble_eq_true rfl, Nat.le_of_ble_eq_true rfl⟩) (fun r2 τ1 H locs hB hw => ?_)
    refine lv_icmp_eq (tgt := 1150) hx hb dL_law_441 (by decide) (fun _ => ?_) (fun hc => absurd hB.1 hc)
    exact htail _ _ hB.2 _ _ hw _ hl
  by_cases hc8 : xs (nI i).toNatClampNeg &&& 31 = (8 : Int32)
  · refine lv_tableIn (tgt := 446) hx hb dL_law_33 (by rw [hc8]; decide) (by rw [hc8]; decide) (by rw [hc8]; rfl) (by decide) ?_
    refine lv_aload_n hx hb dL_law_446 rfl (lv_at hl 1 rfl) ?_
    refine lv_aload_n hx hb dL_law_447 rfl (lv_at hl 0 rfl) ?_
    refine lv_iload_n hx hb dL_law_448 rfl (lv_at hl 3 rfl) ?_
    refine lv_iconst (v := (1 : Int32)) hx hb dL_law_449 (by decide) ?_
    refine lv_iadd hx hb dL_law_450 ?_
    refine va_sld hx hb hX hbl hbA hw.2.2 (xq_ix hi hL 1 (by decide)) dL_law_451 ?_
    refine xq_iA hst hw (xr_runV (As := [.int (xs (nI i + (1 : Int32)).toNatClampNeg)]) (rest := []) XA (xq_hA hw) 0 (xc_X11_rings l D cy qa σ (xs (nI i + (1 : Int32)).toNatClampNeg) (s8 σ τ hr (xs (nI i + (1 : Int32)).toNatClampNeg)) _) xm_X11_rings xt_3_119 xt_3_120 xt_3_121 ⟨Nat.le_of_ble_eq_true rfl, Nat.le_of_ble_eq_true rfl⟩ xl_A_ShowRings_at rfl rfl rfl rfl hl.1 (Nat.le_of_ble_eq_true rfl) dL_law_452 ⟨Nat.le_of_ble_eq_true rfl, Nat.le_of_ble_eq_true rfl⟩) (fun r σ1 H locs hB hw => ?_)
    refine lv_aload_n hx hb dL_law_455 rfl (lv_at hl 2 rfl) ?_
    refine lv_aload_n hx hb dL_law_456 rfl (lv_at hl 0 rfl) ?_
    refine lv_iload_n hx hb dL_law_457 rfl (lv_at hl 3 rfl) ?_
    refine lv_iconst (v := (1 : Int32)) hx hb dL_law_458 (by decide) ?_
    refine lv_iadd hx hb dL_law_459 ?_
    refine va_sld hx hb hX hbl hbA hw.2.2 (xq_ix hi hL 1 (by decide)) dL_law_460 ?_
    refine xq_iB hst hw (xr_runV (As := [.int (xs (nI i + (1 : Int32)).toNatClampNeg)]) (rest := [.int r]) XB (xq_hB hw) 0 (xc_X12_rings l D cy qb τ (xs (nI i + (1 : Int32)).toNatClampNeg) hB _) xm_X12_rings xt_6_34 xt_6_35 xt_6_36 ⟨Nat.le_of_ble_eq_true rfl, Nat.le_of_ble_eq_true rfl⟩ xl_B_ShowRingsModel_at rfl rfl rfl rfl hl.1 (Nat.le_of_ble_eq_true rfl) dL_law_461 ⟨Nat.le_of_ble_eq_true rfl, Nat.le_of_ble_eq_true rfl⟩) (fun r2 τ1 H locs hB hw => ?_)
    refine lv_icmp_eq (tgt := 1150) hx hb dL_law_464 (by decide) (fun _ => ?_) (fun hc => absurd hB.1 hc)
    exact htail _ _ hB.2 _ _ hw _ hl
  by_cases hc9 : xs (nI i).toNatClampNeg &&& 31 = (9 : Int32)
  · refine lv_tableIn (tgt := 469) hx hb dL_law_33 (by rw [hc9]; decide) (by rw [hc9]; decide) (by rw [hc9]; rfl) (by decide) ?_
    refine lv_aload_n hx hb dL_law_469 rfl (lv_at hl 1 rfl) ?_
    refine lv_aload_n hx hb dL_law_470 rfl (lv_at hl 0 rfl) ?_
    refine lv_iload_n hx hb dL_law_471 rfl (lv_at hl 3 rfl) ?_
    refine lv_iconst (v := (1 : Int32)) hx hb dL_law_472 (by decide) ?_
    refine lv_iadd hx hb dL_law_473 ?_
    refine va_sld hx hb hX hbl hbA hw.2.2 (xq_ix hi hL 1 (by decide)) dL_law_474 ?_
    refine xq_iA hst hw (xr_runV (As := [.int (xs (nI i + (1 : Int32)).toNatClampNeg)]) (rest := []) XA (xq_hA hw) 0 (xc_X11_show l D cy qa σ (xs (nI i + (1 : Int32)).toNatClampNeg) (s9 σ τ hr (xs (nI i + (1 : Int32)).toNatClampNeg)) _) xm_X11_show xt_3_123 xt_3_124 xt_3_125 ⟨Nat.le_of_ble_eq_true rfl, Nat.le_of_ble_eq_true rfl⟩ xl_A_ShowRings_at rfl rfl rfl rfl hl.1 (Nat.le_of_ble_eq_true rfl) dL_law_475 ⟨Nat.le_of_ble_eq_true rfl, Nat.le_of_ble_eq_true rfl⟩) (fun r σ1 H locs hB hw => ?_)
    refine lv_aload_n hx hb dL_law_478 rfl (lv_at hl 2 rfl) ?_
    refine lv_aload_n hx hb dL_law_479 rfl (lv_at hl 0 rfl) ?_
    refine lv_iload_n hx hb dL_law_480 rfl (lv_at hl 3 rfl) ?_
    refine lv_iconst (v := (1 : Int32)) hx hb dL_law_481 (by decide) ?_
    refine lv_iadd hx hb dL_law_482 ?_
    refine va_sld hx hb hX hbl hbA hw.2.2 (xq_ix hi hL 1 (by decide)) dL_law_483 ?_
    refine xq_iB hst hw (xr_runV (As := [.int (xs (nI i + (1 : Int32)).toNatClampNeg)]) (rest := [.int r]) XB (xq_hB hw) 0 (xc_X12_show l D cy qb τ (xs (nI i + (1 : Int32)).toNatClampNeg) hB _) xm_X12_show xt_6_38 xt_6_39 xt_6_40 ⟨Nat.le_of_ble_eq_true rfl, Nat.le_of_ble_eq_true rfl⟩ xl_B_ShowRingsModel_at rfl rfl rfl rfl hl.1 (Nat.le_of_ble_eq_true rfl) dL_law_484 ⟨Nat.le_of_ble_eq_true rfl, Nat.le_of_ble_eq_true rfl⟩) (fun r2 τ1 H locs hB hw => ?_)
    refine lv_icmp_eq (tgt := 1150) hx hb dL_law_487 (by decide) (fun _ => ?_) (fun hc => absurd hB.1 hc)
    exact htail _ _ hB.2 _ _ hw _ hl
  by_cases hc10 : xs (nI i).toNatClampNeg &&& 31 = (10 : Int32)
  · refine lv_tableIn (tgt := 492) hx hb dL_law_33 (by rw [hc10]; decide) (by rw [hc10]; decide) (by rw [hc10]; rfl) (by decide) ?_
    refine lv_aload_n hx hb dL_law_492 rfl (lv_at hl 1 rfl) ?_
    refine lv_aload_n hx hb dL_law_493 rfl (lv_at hl 0 rfl) ?_
    refine lv_iload_n hx hb dL_law_494 rfl (lv_at hl 3 rfl) ?_
    refine lv_iconst (v := (1 : Int32)) hx hb dL_law_495 (by decide) ?_
    refine lv_iadd hx hb dL_law_496 ?_
    refine va_sld hx hb hX hbl hbA hw.2.2 (xq_ix hi hL 1 (by decide)) dL_law_497 ?_
    refine lv_aload_n hx hb dL_law_498 rfl (lv_at hl 0 rfl) ?_
    refine lv_iload_n hx hb dL_law_499 rfl (lv_at hl 3 rfl) ?_
    refine lv_iconst (v := (2 : Int32)) hx hb dL_law_500 (by decide) ?_
    refine lv_iadd hx hb dL_law_501 ?_
    refine va_sld hx hb hX hbl hbA hw.2.2 (xq_ix hi hL 2 (by decide)) dL_law_502 ?_
    refine xq_iA hst hw (xr_runV (As := [.int (xs (nI i + (1 : Int32)).toNatClampNeg), .int (xs (nI i + (2 : Int32)).toNatClampNeg)]) (rest := []) XA (xq_hA hw) 0 (xc_X11_enter l D cy qa σ (xs (nI i + (1 : Int32)).toNatClampNeg) (xs (nI i + (2 : Int32)).toNatClampNeg) (s10 σ τ hr (xs (nI i + (1 : Int32)).toNatClampNeg) (xs (nI i + (2 : Int32)).toNatClampNeg)) _) xm_X11_enter xt_3_127 xt_3_128 xt_3_129 ⟨Nat.le_of_ble_eq_true rfl, Nat.le_of_ble_eq_true rfl⟩ xl_A_ShowRings_at rfl rfl rfl rfl hl.1 (Nat.le_of_ble_eq_true rfl) dL_law_503 ⟨Nat.le_of_ble_eq_true rfl, Nat.le_of_ble_eq_true rfl⟩) (fun r σ1 H locs hB hw => ?_)
    refine lv_aload_n hx hb dL_law_506 rfl (lv_at hl 2 rfl) ?_
    refine lv_aload_n hx hb dL_law_507 rfl (lv_at hl 0 rfl) ?_
    refine lv_iload_n hx hb dL_law_508 rfl (lv_at hl 3 rfl) ?_
    refine lv_iconst (v := (1 : Int32)) hx hb dL_law_509 (by decide) ?_
    refine lv_iadd hx hb dL_law_510 ?_
    refine va_sld hx hb hX hbl hbA hw.2.2 (xq_ix hi hL 1 (by decide)) dL_law_511 ?_
    refine lv_aload_n hx hb dL_law_512 rfl (lv_at hl 0 rfl) ?_
    refine lv_iload_n hx hb dL_law_513 rfl (lv_at hl 3 rfl) ?_
    refine lv_iconst (v := (2 : Int32)) hx hb dL_law_514 (by decide) ?_
    refine lv_iadd hx hb dL_law_515 ?_
    refine va_sld hx hb hX hbl hbA hw.2.2 (xq_ix hi hL 2 (by decide)) dL_law_516 ?_
    refine xq_iB hst hw (xr_runV (As := [.int (xs (nI i + (1 : Int32)).toNatClampNeg), .int (xs (nI i + (2 : Int32)).toNatClampNeg)]) (rest := [.int r]) XB (xq_hB hw) 0 (xc_X12_enter l D cy qb τ (xs (nI i + (1 : Int32)).toNatClampNeg) (xs (nI i + (2 : Int32)).toNatClampNeg) hB _) xm_X12_enter xt_6_118 xt_6_119 xt_6_120 ⟨Nat.le_of_ble_eq_true rfl, Nat.le_of_ble_eq_true rfl⟩ xl_B_ShowRingsModel_at rfl rfl rfl rfl hl.1 (Nat.le_of_ble_eq_true rfl) dL_law_517 ⟨Nat.le_of_ble_eq_true rfl, Nat.le_of_ble_eq_true rfl⟩) (fun r2 τ1 H locs hB hw => ?_)
    refine lv_icmp_eq (tgt := 1150) hx hb dL_law_520 (by decide) (fun _ => ?_) (fun hc => absurd hB.1 hc)
    exact htail _ _ hB.2 _ _ hw _ hl
  by_cases hc11 : xs (nI i).toNatClampNeg &&& 31 = (11 : Int32)
  · refine lv_tableIn (tgt := 525) hx hb dL_law_33 (by rw [hc11]; decide) (by rw [hc11]; decide) (by rw [hc11]; rfl) (by decide) ?_
    refine lv_aload_n hx hb dL_law_525 rfl (lv_at hl 1 rfl) ?_
    refine lv_aload_n hx hb dL_law_526 rfl (lv_at hl 0 rfl) ?_
    refine lv_iload_n hx hb dL_law_527 rfl (lv_at hl 3 rfl) ?_
    refine lv_iconst (v := (1 : Int32)) hx hb dL_law_528 (by decide) ?_
    refine lv_iadd hx hb dL_law_529 ?_
    refine va_sld hx hb hX hbl hbA hw.2.2 (xq_ix hi hL 1 (by decide)) dL_law_530 ?_
    refine lv_aload_n hx hb dL_law_531 rfl (lv_at hl 0 rfl) ?_
    refine lv_iload_n hx hb dL_law_532 rfl (lv_at hl 3 rfl) ?_
    refine lv_iconst (v := (2 : Int32)) hx hb dL_law_533 (by decide) ?_
    refine lv_iadd hx hb dL_law_534 ?_
    refine va_sld hx hb hX hbl hbA hw.2.2 (xq_ix hi hL 2 (by decide)) dL_law_535 ?_
    refine lv_aload_n hx hb dL_law_536 rfl (lv_at hl 0 rfl) ?_
    refine lv_iload_n hx hb dL_law_537 rfl (lv_at hl 3 rfl) ?_
    refine lv_iconst (v := (3 : Int32)) hx hb dL_law_538 (by decide) ?_
    refine lv_iadd hx hb dL_law_539 ?_
    refine va_sld hx hb hX hbl hbA hw.2.2 (xq_ix hi hL 3 (by decide)) dL_law_540 ?_
    refine lv_aload_n hx hb dL_law_541 rfl (lv_at hl 0 rfl) ?_
    refine lv_iload_n hx hb dL_law_542 rfl (lv_at hl 3 rfl) ?_
    refine lv_iconst (v := (4 : Int32)) hx hb dL_law_543 (by decide) ?_
    refine lv_iadd hx hb dL_law_544 ?_
    refine va_sld hx hb hX hbl hbA hw.2.2 (xq_ix hi hL 4 (by decide)) dL_law_545 ?_
    refine xq_iA hst hw (xr_runV (As := [.int (xs (nI i + (1 : Int32)).toNatClampNeg), .int (xs (nI i + (2 : Int32)).toNatClampNeg), .int (xs (nI i + (3 : Int32)).toNatClampNeg), .int (xs (nI i + (4 : Int32)).toNatClampNeg)]) (rest := []) XA (xq_hA hw) 0 (xc_X11_fact l D cy qa σ (xs (nI i + (1 : Int32)).toNatClampNeg) (xs (nI i + (2 : Int32)).toNatClampNeg) (xs (nI i + (3 : Int32)).toNatClampNeg) (xs (nI i + (4 : Int32)).toNatClampNeg) (s11 σ τ hr (xs (nI i + (1 : Int32)).toNatClampNeg) (xs (nI i + (2 : Int32)).toNatClampNeg) (xs (nI i + (3 : Int32)).toNatClampNeg) (xs (nI i + (4 : Int32)).toNatClampNeg)) _) xm_X11_fact xt_3_173 xt_3_174 xt_3_175 ⟨Nat.le_of_ble_eq_true rfl, Nat.le_of_ble_eq_true rfl⟩ xl_A_ShowRings_at rfl rfl rfl rfl hl.1 (Nat.le_of_ble_eq_true rfl) dL_law_546 ⟨Nat.le_of_ble_eq_true rfl, Nat.le_of_ble_eq_true rfl⟩) (fun r σ1 H locs hB hw => ?_)
    refine lv_aload_n hx hb dL_law_549 rfl (lv_at hl 2 rfl) ?_
    refine lv_aload_n hx hb dL_law_550 rfl (lv_at hl 0 rfl) ?_
    refine lv_iload_n hx hb dL_law_551 rfl (lv_at hl 3 rfl) ?_
    refine lv_iconst (v := (1 : Int32)) hx hb dL_law_552 (by decide) ?_
    refine lv_iadd hx hb dL_law_553 ?_
    refine va_sld hx hb hX hbl hbA hw.2.2 (xq_ix hi hL 1 (by decide)) dL_law_554 ?_
    refine lv_aload_n hx hb dL_law_555 rfl (lv_at hl 0 rfl) ?_
    refine lv_iload_n hx hb dL_law_556 rfl (lv_at hl 3 rfl) ?_
    refine lv_iconst (v := (2 : Int32)) hx hb dL_law_557 (by decide) ?_
    refine lv_iadd hx hb dL_law_558 ?_
    refine va_sld hx hb hX hbl hbA hw.2.2 (xq_ix hi hL 2 (by decide)) dL_law_559 ?_
    refine lv_aload_n hx hb dL_law_560 rfl (lv_at hl 0 rfl) ?_
    refine lv_iload_n hx hb dL_law_561 rfl (lv_at hl 3 rfl) ?_
    refine lv_iconst (v := (3 : Int32)) hx hb dL_law_562 (by decide) ?_
    refine lv_iadd hx hb dL_law_563 ?_
    refine va_sld hx hb hX hbl hbA hw.2.2 (xq_ix hi hL 3 (by decide)) dL_law_564 ?_
    refine lv_aload_n hx hb dL_law_565 rfl (lv_at hl 0 rfl) ?_
    refine lv_iload_n hx hb dL_law_566 rfl (lv_at hl 3 rfl) ?_
    refine lv_iconst (v := (4 : Int32)) hx hb dL_law_567 (by decide) ?_
    refine lv_iadd hx hb dL_law_568 ?_
    refine va_sld hx hb hX hbl hbA hw.2.2 (xq_ix hi hL 4 (by decide)) dL_law_569 ?_
    refine xq_iB hst hw (xr_runV (As := [.int (xs (nI i + (1 : Int32)).toNatClampNeg), .int (xs (nI i + (2 : Int32)).toNatClampNeg), .int (xs (nI i + (3 : Int32)).toNatClampNeg), .int (xs (nI i + (4 : Int32)).toNatClampNeg)]) (rest := [.int r]) XB (xq_hB hw) 0 (xc_X12_fact l D cy qb τ (xs (nI i + (1 : Int32)).toNatClampNeg) (xs (nI i + (2 : Int32)).toNatClampNeg) (xs (nI i + (3 : Int32)).toNatClampNeg) (xs (nI i + (4 : Int32)).toNatClampNeg) hB _) xm_X12_fact xt_6_42 xt_6_43 xt_6_44 ⟨Nat.le_of_ble_eq_true rfl, Nat.le_of_ble_eq_true rfl⟩ xl_B_ShowRingsModel_at rfl rfl rfl rfl hl.1 (Nat.le_of_ble_eq_true rfl) dL_law_570 ⟨Nat.le_of_ble_eq_true rfl, Nat.le_of_ble_eq_true rfl⟩) (fun r2 τ1 H locs hB hw => ?_)
    refine lv_icmp_eq (tgt := 1150) hx hb dL_law_573 (by decide) (fun _ => ?_) (fun hc => absurd hB.1 hc)
    exact htail _ _ hB.2 _ _ hw _ hl
  by_cases hc12 : xs (nI i).toNatClampNeg &&& 31 = (12 : Int32)
  · refine lv_tableIn (tgt := 578) hx hb dL_law_33 (by rw [hc12]; decide) (by rw [hc12]; decide) (by rw [hc12]; rfl) (by decide) ?_
    refine lv_aload_n hx hb dL_law_578 rfl (lv_at hl 1 rfl) ?_
    refine lv_aload_n hx hb dL_law_579 rfl (lv_at hl 0 rfl) ?_
    refine lv_iload_n hx hb dL_law_580 rfl (lv_at hl 3 rfl) ?_
    refine lv_iconst (v := (1 : Int32)) hx hb dL_law_581 (by decide) ?_
    refine lv_iadd hx hb dL_law_582 ?_
    refine va_sld hx hb hX hbl hbA hw.2.2 (xq_ix hi hL 1 (by decide)) dL_law_583 ?_
    refine lv_aload_n hx hb dL_law_584 rfl (lv_at hl 0 rfl) ?_
    refine lv_iload_n hx hb dL_law_585 rfl (lv_at hl 3 rfl) ?_
    refine lv_iconst (v := (2 : Int32)) hx hb dL_law_586 (by decide) ?_
    refine lv_iadd hx hb dL_law_587 ?_
    refine va_sld hx hb hX hbl hbA hw.2.2 (xq_ix hi hL 2 (by decide)) dL_law_588 ?_
    refine lv_aload_n hx hb dL_law_589 rfl (lv_at hl 0 rfl) ?_
    refine lv_iload_n hx hb dL_law_590 rfl (lv_at hl 3 rfl) ?_
    refine lv_iconst (v := (3 : Int32)) hx hb dL_law_591 (by decide) ?_
    refine lv_iadd hx hb dL_law_592 ?_
    refine va_sld hx hb hX hbl hbA hw.2.2 (xq_ix hi hL 3 (by decide)) dL_law_593 ?_
    refine xq_iA hst hw (xr_runV (As := [.int (xs (nI i + (1 : Int32)).toNatClampNeg), .int (xs (nI i + (2 : Int32)).toNatClampNeg), .int (xs (nI i + (3 : Int32)).toNatClampNeg)]) (rest := []) XA (xq_hA hw) 0 (xc_X11_owned l D cy qa σ (xs (nI i + (1 : Int32)).toNatClampNeg) (xs (nI i + (2 : Int32)).toNatClampNeg) (xs (nI i + (3 : Int32)).toNatClampNeg) (s12 σ τ hr (xs (nI i + (1 : Int32)).toNatClampNeg) (xs (nI i + (2 : Int32)).toNatClampNeg) (xs (nI i + (3 : Int32)).toNatClampNeg)) _) xm_X11_owned xt_3_184 xt_3_185 xt_3_186 ⟨Nat.le_of_ble_eq_true rfl, Nat.le_of_ble_eq_true rfl⟩ xl_A_ShowRings_at rfl rfl rfl rfl hl.1 (Nat.le_of_ble_eq_true rfl) dL_law_594 ⟨Nat.le_of_ble_eq_true rfl, Nat.le_of_ble_eq_true rfl⟩) (fun r σ1 H locs hB hw => ?_)
    refine lv_aload_n hx hb dL_law_597 rfl (lv_at hl 2 rfl) ?_
    refine lv_aload_n hx hb dL_law_598 rfl (lv_at hl 0 rfl) ?_
    refine lv_iload_n hx hb dL_law_599 rfl (lv_at hl 3 rfl) ?_
    refine lv_iconst (v := (1 : Int32)) hx hb dL_law_600 (by decide) ?_
    refine lv_iadd hx hb dL_law_601 ?_
    refine va_sld hx hb hX hbl hbA hw.2.2 (xq_ix hi hL 1 (by decide)) dL_law_602 ?_
    refine lv_aload_n hx hb dL_law_603 rfl (lv_at hl 0 rfl) ?_
    refine lv_iload_n hx hb dL_law_604 rfl (lv_at hl 3 rfl) ?_
    refine lv_iconst (v := (2 : Int32)) hx hb dL_law_605 (by decide) ?_
    refine lv_iadd hx hb dL_law_606 ?_
    refine va_sld hx hb hX hbl hbA hw.2.2 (xq_ix hi hL 2 (by decide)) dL_law_607 ?_
    refine lv_aload_n hx hb dL_law_608 rfl (lv_at hl 0 rfl) ?_
    refine lv_iload_n hx hb dL_law_609 rfl (lv_at hl 3 rfl) ?_
    refine lv_iconst (v := (3 : Int32)) hx hb dL_law_610 (by decide) ?_
    refine lv_iadd hx hb dL_law_611 ?_
    refine va_sld hx hb hX hbl hbA hw.2.2 (xq_ix hi hL 3 (by decide)) dL_law_612 ?_
    refine xq_iB hst hw (xr_runV (As := [.int (xs (nI i + (1 : Int32)).toNatClampNeg), .int (xs (nI i + (2 : Int32)).toNatClampNeg), .int (xs (nI i + (3 : Int32)).toNatClampNeg)]) (rest := [.int r]) XB (xq_hB hw) 0 (xc_X12_owned l D cy qb τ (xs (nI i + (1 : Int32)).toNatClampNeg) (xs (nI i + (2 : Int32)).toNatClampNeg) (xs (nI i + (3 : Int32)).toNatClampNeg) hB _) xm_X12_owned xt_6_58 xt_6_59 xt_6_60 ⟨Nat.le_of_ble_eq_true rfl, Nat.le_of_ble_eq_true rfl⟩ xl_B_ShowRingsModel_at rfl rfl rfl rfl hl.1 (Nat.le_of_ble_eq_true rfl) dL_law_613 ⟨Nat.le_of_ble_eq_true rfl, Nat.le_of_ble_eq_true rfl⟩) (fun r2 τ1 H locs hB hw => ?_)
    refine lv_icmp_eq (tgt := 1150) hx hb dL_law_616 (by decide) (fun _ => ?_) (fun hc => absurd hB.1 hc)
    exact htail _ _ hB.2 _ _ hw _ hl
  by_cases hc13 : xs (nI i).toNatClampNeg &&& 31 = (13 : Int32)
  · refine lv_tableIn (tgt := 621) hx hb dL_law_33 (by rw [hc13]; decide) (by rw [hc13]; decide) (by rw [hc13]; rfl) (by decide) ?_
    refine lv_aload_n hx hb dL_law_621 rfl (lv_at hl 1 rfl) ?_
    refine lv_aload_n hx hb dL_law_622 rfl (lv_at hl 0 rfl) ?_
    refine lv_iload_n hx hb dL_law_623 rfl (lv_at hl 3 rfl) ?_
    refine lv_iconst (v := (1 : Int32)) hx hb dL_law_624 (by decide) ?_
    refine lv_iadd hx hb dL_law_625 ?_
    refine va_sld hx hb hX hbl hbA hw.2.2 (xq_ix hi hL 1 (by decide)) dL_law_626 ?_
    refine lv_aload_n hx hb dL_law_627 rfl (lv_at hl 0 rfl) ?_
    refine lv_iload_n hx hb dL_law_628 rfl (lv_at hl 3 rfl) ?_
    refine lv_iconst (v := (2 : Int32)) hx hb dL_law_629 (by decide) ?_
    refine lv_iadd hx hb dL_law_630 ?_
    refine va_sld hx hb hX hbl hbA hw.2.2 (xq_ix hi hL 2 (by decide)) dL_law_631 ?_
    refine xq_iA hst hw (xr_runV (As := [.int (xs (nI i + (1 : Int32)).toNatClampNeg), .int (xs (nI i + (2 : Int32)).toNatClampNeg)]) (rest := []) XA (xq_hA hw) 0 (xc_X11_plan l D cy qa σ (xs (nI i + (1 : Int32)).toNatClampNeg) (xs (nI i + (2 : Int32)).toNatClampNeg) (s13 σ τ hr (xs (nI i + (1 : Int32)).toNatClampNeg) (xs (nI i + (2 : Int32)).toNatClampNeg)) _) xm_X11_plan xt_3_188 xt_3_189 xt_3_190 ⟨Nat.le_of_ble_eq_true rfl, Nat.le_of_ble_eq_true rfl⟩ xl_A_ShowRings_at rfl rfl rfl rfl hl.1 (Nat.le_of_ble_eq_true rfl) dL_law_632 ⟨Nat.le_of_ble_eq_true rfl, Nat.le_of_ble_eq_true rfl⟩) (fun r σ1 H locs hB hw => ?_)
    refine lv_aload_n hx hb dL_law_635 rfl (lv_at hl 2 rfl) ?_
    refine lv_aload_n hx hb dL_law_636 rfl (lv_at hl 0 rfl) ?_
    refine lv_iload_n hx hb dL_law_637 rfl (lv_at hl 3 rfl) ?_
    refine lv_iconst (v := (1 : Int32)) hx hb dL_law_638 (by decide) ?_
    refine lv_iadd hx hb dL_law_639 ?_
    refine va_sld hx hb hX hbl hbA hw.2.2 (xq_ix hi hL 1 (by decide)) dL_law_640 ?_
    refine lv_aload_n hx hb dL_law_641 rfl (lv_at hl 0 rfl) ?_
    refine lv_iload_n hx hb dL_law_642 rfl (lv_at hl 3 rfl) ?_
    refine lv_iconst (v := (2 : Int32)) hx hb dL_law_643 (by decide) ?_
    refine lv_iadd hx hb dL_law_644 ?_
    refine va_sld hx hb hX hbl hbA hw.2.2 (xq_ix hi hL 2 (by decide)) dL_law_645 ?_
    refine xq_iB hst hw (xr_runV (As := [.int (xs (nI i + (1 : Int32)).toNatClampNeg), .int (xs (nI i + (2 : Int32)).toNatClampNeg)]) (rest := [.int r]) XB (xq_hB hw) 0 (xc_X12_plan l D cy qb τ (xs (nI i + (1 : Int32)).toNatClampNeg) (xs (nI i + (2 : Int32)).toNatClampNeg) hB _) xm_X12_plan xt_6_122 xt_6_123 xt_6_124 ⟨Nat.le_of_ble_eq_true rfl, Nat.le_of_ble_eq_true rfl⟩ xl_B_ShowRingsModel_at rfl rfl rfl rfl hl.1 (Nat.le_of_ble_eq_true rfl) dL_law_646 ⟨Nat.le_of_ble_eq_true rfl, Nat.le_of_ble_eq_true rfl⟩) (fun r2 τ1 H locs hB hw => ?_)
    refine lv_icmp_eq (tgt := 1150) hx hb dL_law_649 (by decide) (fun _ => ?_) (fun hc => absurd hB.1 hc)
    exact htail _ _ hB.2 _ _ hw _ hl
  by_cases hc14 : xs (nI i).toNatClampNeg &&& 31 = (14 : Int32)
  · refine lv_tableIn (tgt := 654) hx hb dL_law_33 (by rw [hc14]; decide) (by rw [hc14]; decide) (by rw [hc14]; rfl) (by decide) ?_
    refine lv_aload_n hx hb dL_law_654 rfl (lv_at hl 1 rfl) ?_
    refine lv_aload_n hx hb dL_law_655 rfl (lv_at hl 0 rfl) ?_
    refine lv_iload_n hx hb dL_law_656 rfl (lv_at hl 3 rfl) ?_
    refine lv_iconst (v := (1 : Int32)) hx hb dL_law_657 (by decide) ?_
    refine lv_iadd hx hb dL_law_658 ?_
    refine va_sld hx hb hX hbl hbA hw.2.2 (xq_ix hi hL 1 (by decide)) dL_law_659 ?_
    refine lv_aload_n hx hb dL_law_660 rfl (lv_at hl 0 rfl) ?_
    refine lv_iload_n hx hb dL_law_661 rfl (lv_at hl 3 rfl) ?_
    refine lv_iconst (v := (2 : Int32)) hx hb dL_law_662 (by decide) ?_
    refine lv_iadd hx hb dL_law_663 ?_
    refine va_sld hx hb hX hbl hbA hw.2.2 (xq_ix hi hL 2 (by decide)) dL_law_664 ?_
    refine lv_aload_n hx hb dL_law_665 rfl (lv_at hl 0 rfl) ?_
    refine lv_iload_n hx hb dL_law_666 rfl (lv_at hl 3 rfl) ?_
    refine lv_iconst (v := (3 : Int32)) hx hb dL_law_667 (by decide) ?_
    refine lv_iadd hx hb dL_law_668 ?_
    refine va_sld hx hb hX hbl hbA hw.2.2 (xq_ix hi hL 3 (by decide)) dL_law_669 ?_
    refine xq_iA hst hw (xr_runV (As := [.int (xs (nI i + (1 : Int32)).toNatClampNeg), .int (xs (nI i + (2 : Int32)).toNatClampNeg), .int (xs (nI i + (3 : Int32)).toNatClampNeg)]) (rest := []) XA (xq_hA hw) 0 (xc_X11_planned l D cy qa σ (xs (nI i + (1 : Int32)).toNatClampNeg) (xs (nI i + (2 : Int32)).toNatClampNeg) (xs (nI i + (3 : Int32)).toNatClampNeg) (s14 σ τ hr (xs (nI i + (1 : Int32)).toNatClampNeg) (xs (nI i + (2 : Int32)).toNatClampNeg) (xs (nI i + (3 : Int32)).toNatClampNeg)) _) xm_X11_planned xt_4_44 xt_4_45 xt_4_46 ⟨Nat.le_of_ble_eq_true rfl, Nat.le_of_ble_eq_true rfl⟩ xl_A_ShowRings_at rfl rfl rfl rfl hl.1 (Nat.le_of_ble_eq_true rfl) dL_law_670 ⟨Nat.le_of_ble_eq_true rfl, Nat.le_of_ble_eq_true rfl⟩) (fun r σ1 H locs hB hw => ?_)
    refine lv_aload_n hx hb dL_law_673 rfl (lv_at hl 2 rfl) ?_
    refine lv_aload_n hx hb dL_law_674 rfl (lv_at hl 0 rfl) ?_
    refine lv_iload_n hx hb dL_law_675 rfl (lv_at hl 3 rfl) ?_
    refine lv_iconst (v := (1 : Int32)) hx hb dL_law_676 (by decide) ?_
    refine lv_iadd hx hb dL_law_677 ?_
    refine va_sld hx hb hX hbl hbA hw.2.2 (xq_ix hi hL 1 (by decide)) dL_law_678 ?_
    refine lv_aload_n hx hb dL_law_679 rfl (lv_at hl 0 rfl) ?_
    refine lv_iload_n hx hb dL_law_680 rfl (lv_at hl 3 rfl) ?_
    refine lv_iconst (v := (2 : Int32)) hx hb dL_law_681 (by decide) ?_
    refine lv_iadd hx hb dL_law_682 ?_
    refine va_sld hx hb hX hbl hbA hw.2.2 (xq_ix hi hL 2 (by decide)) dL_law_683 ?_
    refine lv_aload_n hx hb dL_law_684 rfl (lv_at hl 0 rfl) ?_
    refine lv_iload_n hx hb dL_law_685 rfl (lv_at hl 3 rfl) ?_
    refine lv_iconst (v := (3 : Int32)) hx hb dL_law_686 (by decide) ?_
    refine lv_iadd hx hb dL_law_687 ?_
    refine va_sld hx hb hX hbl hbA hw.2.2 (xq_ix hi hL 3 (by decide)) dL_law_688 ?_
    refine xq_iB hst hw (xr_runV (As := [.int (xs (nI i + (1 : Int32)).toNatClampNeg), .int (xs (nI i + (2 : Int32)).toNatClampNeg), .int (xs (nI i + (3 : Int32)).toNatClampNeg)]) (rest := [.int r]) XB (xq_hB hw) 0 (xc_X12_planned l D cy qb τ (xs (nI i + (1 : Int32)).toNatClampNeg) (xs (nI i + (2 : Int32)).toNatClampNeg) (xs (nI i + (3 : Int32)).toNatClampNeg) hB _) xm_X12_planned xt_6_145 xt_6_146 xt_6_147 ⟨Nat.le_of_ble_eq_true rfl, Nat.le_of_ble_eq_true rfl⟩ xl_B_ShowRingsModel_at rfl rfl rfl rfl hl.1 (Nat.le_of_ble_eq_true rfl) dL_law_689 ⟨Nat.le_of_ble_eq_true rfl, Nat.le_of_ble_eq_true rfl⟩) (fun r2 τ1 H locs hB hw => ?_)
    refine lv_icmp_eq (tgt := 1150) hx hb dL_law_692 (by decide) (fun _ => ?_) (fun hc => absurd hB.1 hc)
    exact htail _ _ hB.2 _ _ hw _ hl
  by_cases hc15 : xs (nI i).toNatClampNeg &&& 31 = (15 : Int32)
  · refine lv_tableIn (tgt := 697) hx hb dL_law_33 (by rw [hc15]; decide) (by rw [hc15]; decide) (by rw [hc15]; rfl) (by decide) ?_
    refine lv_aload_n hx hb dL_law_697 rfl (lv_at hl 1 rfl) ?_
    refine lv_aload_n hx hb dL_law_698 rfl (lv_at hl 0 rfl) ?_
    refine lv_iload_n hx hb dL_law_699 rfl (lv_at hl 3 rfl) ?_
    refine lv_iconst (v := (1 : Int32)) hx hb dL_law_700 (by decide) ?_
    refine lv_iadd hx hb dL_law_701 ?_
    refine va_sld hx hb hX hbl hbA hw.2.2 (xq_ix hi hL 1 (by decide)) dL_law_702 ?_
    refine lv_aload_n hx hb dL_law_703 rfl (lv_at hl 0 rfl) ?_
    refine lv_iload_n hx hb dL_law_704 rfl (lv_at hl 3 rfl) ?_
    refine lv_iconst (v := (2 : Int32)) hx hb dL_law_705 (by decide) ?_
    refine lv_iadd hx hb dL_law_706 ?_
    refine va_sld hx hb hX hbl hbA hw.2.2 (xq_ix hi hL 2 (by decide)) dL_law_707 ?_
    refine lv_aload_n hx hb dL_law_708 rfl (lv_at hl 0 rfl) ?_
    refine lv_iload_n hx hb dL_law_709 rfl (lv_at hl 3 rfl) ?_
    refine lv_iconst (v := (3 : Int32)) hx hb dL_law_710 (by decide) ?_
    refine lv_iadd hx hb dL_law_711 ?_
    refine va_sld hx hb hX hbl hbA hw.2.2 (xq_ix hi hL 3 (by decide)) dL_law_712 ?_
    refine lv_aload_n hx hb dL_law_713 rfl (lv_at hl 0 rfl) ?_
    refine lv_iload_n hx hb dL_law_714 rfl (lv_at hl 3 rfl) ?_
    refine lv_iconst (v := (4 : Int32)) hx hb dL_law_715 (by decide) ?_
    refine lv_iadd hx hb dL_law_716 ?_
    refine va_sld hx hb hX hbl hbA hw.2.2 (xq_ix hi hL 4 (by decide)) dL_law_717 ?_
    refine xq_iA hst hw (xr_runV (As := [.int (xs (nI i + (1 : Int32)).toNatClampNeg), .int (xs (nI i + (2 : Int32)).toNatClampNeg), .int (xs (nI i + (3 : Int32)).toNatClampNeg), .int (xs (nI i + (4 : Int32)).toNatClampNeg)]) (rest := []) XA (xq_hA hw) 0 (xc_X11_barred l D cy qa σ (xs (nI i + (1 : Int32)).toNatClampNeg) (xs (nI i + (2 : Int32)).toNatClampNeg) (xs (nI i + (3 : Int32)).toNatClampNeg) (xs (nI i + (4 : Int32)).toNatClampNeg) (s15 σ τ hr (xs (nI i + (1 : Int32)).toNatClampNeg) (xs (nI i + (2 : Int32)).toNatClampNeg) (xs (nI i + (3 : Int32)).toNatClampNeg) (xs (nI i + (4 : Int32)).toNatClampNeg)) _) xm_X11_barred xt_4_49 xt_4_50 xt_4_51 ⟨Nat.le_of_ble_eq_true rfl, Nat.le_of_ble_eq_true rfl⟩ xl_A_ShowRings_at rfl rfl rfl rfl hl.1 (Nat.le_of_ble_eq_true rfl) dL_law_718 ⟨Nat.le_of_ble_eq_true rfl, Nat.le_of_ble_eq_true rfl⟩) (fun r σ1 H locs hB hw => ?_)
    refine lv_aload_n hx hb dL_law_721 rfl (lv_at hl 2 rfl) ?_
    refine lv_aload_n hx hb dL_law_722 rfl (lv_at hl 0 rfl) ?_
    refine lv_iload_n hx hb dL_law_723 rfl (lv_at hl 3 rfl) ?_
    refine lv_iconst (v := (1 : Int32)) hx hb dL_law_724 (by decide) ?_
    refine lv_iadd hx hb dL_law_725 ?_
    refine va_sld hx hb hX hbl hbA hw.2.2 (xq_ix hi hL 1 (by decide)) dL_law_726 ?_
    refine lv_aload_n hx hb dL_law_727 rfl (lv_at hl 0 rfl) ?_
    refine lv_iload_n hx hb dL_law_728 rfl (lv_at hl 3 rfl) ?_
    refine lv_iconst (v := (2 : Int32)) hx hb dL_law_729 (by decide) ?_
    refine lv_iadd hx hb dL_law_730 ?_
    refine va_sld hx hb hX hbl hbA hw.2.2 (xq_ix hi hL 2 (by decide)) dL_law_731 ?_
    refine lv_aload_n hx hb dL_law_732 rfl (lv_at hl 0 rfl) ?_
    refine lv_iload_n hx hb dL_law_733 rfl (lv_at hl 3 rfl) ?_
    refine lv_iconst (v := (3 : Int32)) hx hb dL_law_734 (by decide) ?_
    refine lv_iadd hx hb dL_law_735 ?_
    refine va_sld hx hb hX hbl hbA hw.2.2 (xq_ix hi hL 3 (by decide)) dL_law_736 ?_
    refine lv_aload_n hx hb dL_law_737 rfl (lv_at hl 0 rfl) ?_
    refine lv_iload_n hx hb dL_law_738 rfl (lv_at hl 3 rfl) ?_
    refine lv_iconst (v := (4 : Int32)) hx hb dL_law_739 (by decide) ?_
    refine lv_iadd hx hb dL_law_740 ?_
    refine va_sld hx hb hX hbl hbA hw.2.2 (xq_ix hi hL 4 (by decide)) dL_law_741 ?_
    refine xq_iB hst hw (xr_runV (As := [.int (xs (nI i + (1 : Int32)).toNatClampNeg), .int (xs (nI i + (2 : Int32)).toNatClampNeg), .int (xs (nI i + (3 : Int32)).toNatClampNeg), .int (xs (nI i + (4 : Int32)).toNatClampNeg)]) (rest := [.int r]) XB (xq_hB hw) 0 (xc_X12_barred l D cy qb τ (xs (nI i + (1 : Int32)).toNatClampNeg) (xs (nI i + (2 : Int32)).toNatClampNeg) (xs (nI i + (3 : Int32)).toNatClampNeg) (xs (nI i + (4 : Int32)).toNatClampNeg) hB _) xm_X12_barred xt_6_86 xt_6_87 xt_6_88 ⟨Nat.le_of_ble_eq_true rfl, Nat.le_of_ble_eq_true rfl⟩ xl_B_ShowRingsModel_at rfl rfl rfl rfl hl.1 (Nat.le_of_ble_eq_true rfl) dL_law_742 ⟨Nat.le_of_ble_eq_true rfl, Nat.le_of_ble_eq_true rfl⟩) (fun r2 τ1 H locs hB hw => ?_)
    refine lv_icmp_eq (tgt := 1150) hx hb dL_law_745 (by decide) (fun _ => ?_) (fun hc => absurd hB.1 hc)
    exact htail _ _ hB.2 _ _ hw _ hl
  by_cases hc16 : xs (nI i).toNatClampNeg &&& 31 = (16 : Int32)
  · refine lv_tableIn (tgt := 750) hx hb dL_law_33 (by rw [hc16]; decide) (by rw [hc16]; decide) (by rw [hc16]; rfl) (by decide) ?_
    refine lv_aload_n hx hb dL_law_750 rfl (lv_at hl 1 rfl) ?_
    refine lv_aload_n hx hb dL_law_751 rfl (lv_at hl 0 rfl) ?_
    refine lv_iload_n hx hb dL_law_752 rfl (lv_at hl 3 rfl) ?_
    refine lv_iconst (v := (1 : Int32)) hx hb dL_law_753 (by decide) ?_
    refine lv_iadd hx hb dL_law_754 ?_
    refine va_sld hx hb hX hbl hbA hw.2.2 (xq_ix hi hL 1 (by decide)) dL_law_755 ?_
    refine lv_aload_n hx hb dL_law_756 rfl (lv_at hl 0 rfl) ?_
    refine lv_iload_n hx hb dL_law_757 rfl (lv_at hl 3 rfl) ?_
    refine lv_iconst (v := (2 : Int32)) hx hb dL_law_758 (by decide) ?_
    refine lv_iadd hx hb dL_law_759 ?_
    refine va_sld hx hb hX hbl hbA hw.2.2 (xq_ix hi hL 2 (by decide)) dL_law_760 ?_
    refine lv_aload_n hx hb dL_law_761 rfl (lv_at hl 0 rfl) ?_
    refine lv_iload_n hx hb dL_law_762 rfl (lv_at hl 3 rfl) ?_
    refine lv_iconst (v := (3 : Int32)) hx hb dL_law_763 (by decide) ?_
    refine lv_iadd hx hb dL_law_764 ?_
    refine va_sld hx hb hX hbl hbA hw.2.2 (xq_ix hi hL 3 (by decide)) dL_law_765 ?_
    refine xq_iA hst hw (xr_runV (As := [.int (xs (nI i + (1 : Int32)).toNatClampNeg), .int (xs (nI i + (2 : Int32)).toNatClampNeg), .int (xs (nI i + (3 : Int32)).toNatClampNeg)]) (rest := []) XA (xq_hA hw) 0 (xc_X11_clash l D cy qa σ (xs (nI i + (1 : Int32)).toNatClampNeg) (xs (nI i + (2 : Int32)).toNatClampNeg) (xs (nI i + (3 : Int32)).toNatClampNeg) (s16 σ τ hr (xs (nI i + (1 : Int32)).toNatClampNeg) (xs (nI i + (2 : Int32)).toNatClampNeg) (xs (nI i + (3 : Int32)).toNatClampNeg)) _) xm_X11_clash xt_4_54 xt_4_55 xt_4_56 ⟨Nat.le_of_ble_eq_true rfl, Nat.le_of_ble_eq_true rfl⟩ xl_A_ShowRings_at rfl rfl rfl rfl hl.1 (Nat.le_of_ble_eq_true rfl) dL_law_766 ⟨Nat.le_of_ble_eq_true rfl, Nat.le_of_ble_eq_true rfl⟩) (fun r σ1 H locs hB hw => ?_)
    refine lv_aload_n hx hb dL_law_769 rfl (lv_at hl 2 rfl) ?_
    refine lv_aload_n hx hb dL_law_770 rfl (lv_at hl 0 rfl) ?_
    refine lv_iload_n hx hb dL_law_771 rfl (lv_at hl 3 rfl) ?_
    refine lv_iconst (v := (1 : Int32)) hx hb dL_law_772 (by decide) ?_
    refine lv_iadd hx hb dL_law_773 ?_
    refine va_sld hx hb hX hbl hbA hw.2.2 (xq_ix hi hL 1 (by decide)) dL_law_774 ?_
    refine lv_aload_n hx hb dL_law_775 rfl (lv_at hl 0 rfl) ?_
    refine lv_iload_n hx hb dL_law_776 rfl (lv_at hl 3 rfl) ?_
    refine lv_iconst (v := (2 : Int32)) hx hb dL_law_777 (by decide) ?_
    refine lv_iadd hx hb dL_law_778 ?_
    refine va_sld hx hb hX hbl hbA hw.2.2 (xq_ix hi hL 2 (by decide)) dL_law_779 ?_
    refine lv_aload_n hx hb dL_law_780 rfl (lv_at hl 0 rfl) ?_
    refine lv_iload_n hx hb dL_law_781 rfl (lv_at hl 3 rfl) ?_
    refine lv_iconst (v := (3 : Int32)) hx hb dL_law_782 (by decide) ?_
    refine lv_iadd hx hb dL_law_783 ?_
    refine va_sld hx hb hX hbl hbA hw.2.2 (xq_ix hi hL 3 (by decide)) dL_law_784 ?_
    refine xq_iB hst hw (xr_runV (As := [.int (xs (nI i + (1 : Int32)).toNatClampNeg), .int (xs (nI i + (2 : Int32)).toNatClampNeg), .int (xs (nI i + (3 : Int32)).toNatClampNeg)]) (rest := [.int r]) XB (xq_hB hw) 0 (xc_X12_clash l D cy qb τ (xs (nI i + (1 : Int32)).toNatClampNeg) (xs (nI i + (2 : Int32)).toNatClampNeg) (xs (nI i + (3 : Int32)).toNatClampNeg) hB _) xm_X12_clash xt_6_153 xt_6_154 xt_6_155 ⟨Nat.le_of_ble_eq_true rfl, Nat.le_of_ble_eq_true rfl⟩ xl_B_ShowRingsModel_at rfl rfl rfl rfl hl.1 (Nat.le_of_ble_eq_true rfl) dL_law_785 ⟨Nat.le_of_ble_eq_true rfl, Nat.le_of_ble_eq_true rfl⟩) (fun r2 τ1 H locs hB hw => ?_)
    refine lv_icmp_eq (tgt := 1150) hx hb dL_law_788 (by decide) (fun _ => ?_) (fun hc => absurd hB.1 hc)
    exact htail _ _ hB.2 _ _ hw _ hl
  by_cases hc17 : xs (nI i).toNatClampNeg &&& 31 = (17 : Int32)
  · refine lv_tableIn (tgt := 793) hx hb dL_law_33 (by rw [hc17]; decide) (by rw [hc17]; decide) (by rw [hc17]; rfl) (by decide) ?_
    refine lv_aload_n hx hb dL_law_793 rfl (lv_at hl 1 rfl) ?_
    refine lv_aload_n hx hb dL_law_794 rfl (lv_at hl 0 rfl) ?_
    refine lv_iload_n hx hb dL_law_795 rfl (lv_at hl 3 rfl) ?_
    refine lv_iconst (v := (1 : Int32)) hx hb dL_law_796 (by decide) ?_
    refine lv_iadd hx hb dL_law_797 ?_
    refine va_sld hx hb hX hbl hbA hw.2.2 (xq_ix hi hL 1 (by decide)) dL_law_798 ?_
    refine lv_aload_n hx hb dL_law_799 rfl (lv_at hl 0 rfl) ?_
    refine lv_iload_n hx hb dL_law_800 rfl (lv_at hl 3 rfl) ?_
    refine lv_iconst (v := (2 : Int32)) hx hb dL_law_801 (by decide) ?_
    refine lv_iadd hx hb dL_law_802 ?_
    refine va_sld hx hb hX hbl hbA hw.2.2 (xq_ix hi hL 2 (by decide)) dL_law_803 ?_
    refine xq_iA hst hw (xr_runV (As := [.int (xs (nI i + (1 : Int32)).toNatClampNeg), .int (xs (nI i + (2 : Int32)).toNatClampNeg)]) (rest := []) XA (xq_hA hw) 0 (xc_X11_classed l D cy qa σ (xs (nI i + (1 : Int32)).toNatClampNeg) (xs (nI i + (2 : Int32)).toNatClampNeg) (s17 σ τ hr (xs (nI i + (1 : Int32)).toNatClampNeg) (xs (nI i + (2 : Int32)).toNatClampNeg)) _) xm_X11_classed xt_4_66 xt_4_67 xt_4_68 ⟨Nat.le_of_ble_eq_true rfl, Nat.le_of_ble_eq_true rfl⟩ xl_A_ShowRings_at rfl rfl rfl rfl hl.1 (Nat.le_of_ble_eq_true rfl) dL_law_804 ⟨Nat.le_of_ble_eq_true rfl, Nat.le_of_ble_eq_true rfl⟩) (fun r σ1 H locs hB hw => ?_)
    refine lv_aload_n hx hb dL_law_807 rfl (lv_at hl 2 rfl) ?_
    refine lv_aload_n hx hb dL_law_808 rfl (lv_at hl 0 rfl) ?_
    refine lv_iload_n hx hb dL_law_809 rfl (lv_at hl 3 rfl) ?_
    refine lv_iconst (v := (1 : Int32)) hx hb dL_law_810 (by decide) ?_
    refine lv_iadd hx hb dL_law_811 ?_
    refine va_sld hx hb hX hbl hbA hw.2.2 (xq_ix hi hL 1 (by decide)) dL_law_812 ?_
    refine lv_aload_n hx hb dL_law_813 rfl (lv_at hl 0 rfl) ?_
    refine lv_iload_n hx hb dL_law_814 rfl (lv_at hl 3 rfl) ?_
    refine lv_iconst (v := (2 : Int32)) hx hb dL_law_815 (by decide) ?_
    refine lv_iadd hx hb dL_law_816 ?_
    refine va_sld hx hb hX hbl hbA hw.2.2 (xq_ix hi hL 2 (by decide)) dL_law_817 ?_
    refine xq_iB hst hw (xr_runV (As := [.int (xs (nI i + (1 : Int32)).toNatClampNeg), .int (xs (nI i + (2 : Int32)).toNatClampNeg)]) (rest := [.int r]) XB (xq_hB hw) 0 (xc_X12_classed l D cy qb τ (xs (nI i + (1 : Int32)).toNatClampNeg) (xs (nI i + (2 : Int32)).toNatClampNeg) hB _) xm_X12_classed xt_6_114 xt_6_115 xt_6_116 ⟨Nat.le_of_ble_eq_true rfl, Nat.le_of_ble_eq_true rfl⟩ xl_B_ShowRingsModel_at rfl rfl rfl rfl hl.1 (Nat.le_of_ble_eq_true rfl) dL_law_818 ⟨Nat.le_of_ble_eq_true rfl, Nat.le_of_ble_eq_true rfl⟩) (fun r2 τ1 H locs hB hw => ?_)
    refine lv_icmp_eq (tgt := 1150) hx hb dL_law_821 (by decide) (fun _ => ?_) (fun hc => absurd hB.1 hc)
    exact htail _ _ hB.2 _ _ hw _ hl
  by_cases hc18 : xs (nI i).toNatClampNeg &&& 31 = (18 : Int32)
  · refine lv_tableIn (tgt := 826) hx hb dL_law_33 (by rw [hc18]; decide) (by rw [hc18]; decide) (by rw [hc18]; rfl) (by decide) ?_
    refine lv_aload_n hx hb dL_law_826 rfl (lv_at hl 1 rfl) ?_
    refine lv_aload_n hx hb dL_law_827 rfl (lv_at hl 0 rfl) ?_
    refine lv_iload_n hx hb dL_law_828 rfl (lv_at hl 3 rfl) ?_
    refine lv_iconst (v := (1 : Int32)) hx hb dL_law_829 (by decide) ?_
    refine lv_iadd hx hb dL_law_830 ?_
    refine va_sld hx hb hX hbl hbA hw.2.2 (xq_ix hi hL 1 (by decide)) dL_law_831 ?_
    refine lv_aload_n hx hb dL_law_832 rfl (lv_at hl 0 rfl) ?_
    refine lv_iload_n hx hb dL_law_833 rfl (lv_at hl 3 rfl) ?_
    refine lv_iconst (v := (2 : Int32)) hx hb dL_law_834 (by decide) ?_
    refine lv_iadd hx hb dL_law_835 ?_
    refine va_sld hx hb hX hbl hbA hw.2.2 (xq_ix hi hL 2 (by decide)) dL_law_836 ?_
    refine lv_aload_n hx hb dL_law_837 rfl (lv_at hl 0 rfl) ?_
    refine lv_iload_n hx hb dL_law_838 rfl (lv_at hl 3 rfl) ?_
    refine lv_iconst (v := (3 : Int32)) hx hb dL_law_839 (by decide) ?_
    refine lv_iadd hx hb dL_law_840 ?_
    refine va_sld hx hb hX hbl hbA hw.2.2 (xq_ix hi hL 3 (by decide)) dL_law_841 ?_
    refine xq_iA hst hw (xr_runV (As := [.int (xs (nI i + (1 : Int32)).toNatClampNeg), .int (xs (nI i + (2 : Int32)).toNatClampNeg), .int (xs (nI i + (3 : Int32)).toNatClampNeg)]) (rest := []) XA (xq_hA hw) 0 (xc_X11_counts l D cy qa σ (xs (nI i + (1 : Int32)).toNatClampNeg) (xs (nI i + (2 : Int32)).toNatClampNeg) (xs (nI i + (3 : Int32)).toNatClampNeg) (s18 σ τ hr (xs (nI i + (1 : Int32)).toNatClampNeg) (xs (nI i + (2 : Int32)).toNatClampNeg) (xs (nI i + (3 : Int32)).toNatClampNeg)) _) xm_X11_counts xt_4_70 xt_4_71 xt_4_72 ⟨Nat.le_of_ble_eq_true rfl, Nat.le_of_ble_eq_true rfl⟩ xl_A_ShowRings_at rfl rfl rfl rfl hl.1 (Nat.le_of_ble_eq_true rfl) dL_law_842 ⟨Nat.le_of_ble_eq_true rfl, Nat.le_of_ble_eq_true rfl⟩) (fun r σ1 H locs hB hw => ?_)
    refine lv_aload_n hx hb dL_law_845 rfl (lv_at hl 2 rfl) ?_
    refine lv_aload_n hx hb dL_law_846 rfl (lv_at hl 0 rfl) ?_
    refine lv_iload_n hx hb dL_law_847 rfl (lv_at hl 3 rfl) ?_
    refine lv_iconst (v := (1 : Int32)) hx hb dL_law_848 (by decide) ?_
    refine lv_iadd hx hb dL_law_849 ?_
    refine va_sld hx hb hX hbl hbA hw.2.2 (xq_ix hi hL 1 (by decide)) dL_law_850 ?_
    refine lv_aload_n hx hb dL_law_851 rfl (lv_at hl 0 rfl) ?_
    refine lv_iload_n hx hb dL_law_852 rfl (lv_at hl 3 rfl) ?_
    refine lv_iconst (v := (2 : Int32)) hx hb dL_law_853 (by decide) ?_
    refine lv_iadd hx hb dL_law_854 ?_
    refine va_sld hx hb hX hbl hbA hw.2.2 (xq_ix hi hL 2 (by decide)) dL_law_855 ?_
    refine lv_aload_n hx hb dL_law_856 rfl (lv_at hl 0 rfl) ?_
    refine lv_iload_n hx hb dL_law_857 rfl (lv_at hl 3 rfl) ?_
    refine lv_iconst (v := (3 : Int32)) hx hb dL_law_858 (by decide) ?_
    refine lv_iadd hx hb dL_law_859 ?_
    refine va_sld hx hb hX hbl hbA hw.2.2 (xq_ix hi hL 3 (by decide)) dL_law_860 ?_
    refine xq_iB hst hw (xr_runV (As := [.int (xs (nI i + (1 : Int32)).toNatClampNeg), .int (xs (nI i + (2 : Int32)).toNatClampNeg), .int (xs (nI i + (3 : Int32)).toNatClampNeg)]) (rest := [.int r]) XB (xq_hB hw) 0 (xc_X12_counts l D cy qb τ (xs (nI i + (1 : Int32)).toNatClampNeg) (xs (nI i + (2 : Int32)).toNatClampNeg) (xs (nI i + (3 : Int32)).toNatClampNeg) hB _) xm_X12_counts xt_6_157 xt_6_158 xt_6_159 ⟨Nat.le_of_ble_eq_true rfl, Nat.le_of_ble_eq_true rfl⟩ xl_B_ShowRingsModel_at rfl rfl rfl rfl hl.1 (Nat.le_of_ble_eq_true rfl) dL_law_861 ⟨Nat.le_of_ble_eq_true rfl, Nat.le_of_ble_eq_true rfl⟩) (fun r2 τ1 H locs hB hw => ?_)
    refine lv_icmp_eq (tgt := 1150) hx hb dL_law_864 (by decide) (fun _ => ?_) (fun hc => absurd hB.1 hc)
    exact htail _ _ hB.2 _ _ hw _ hl
  by_cases hc19 : xs (nI i).toNatClampNeg &&& 31 = (19 : Int32)
  · refine lv_tableIn (tgt := 869) hx hb dL_law_33 (by rw [hc19]; decide) (by rw [hc19]; decide) (by rw [hc19]; rfl) (by decide) ?_
    refine lv_aload_n hx hb dL_law_869 rfl (lv_at hl 1 rfl) ?_
    refine lv_aload_n hx hb dL_law_870 rfl (lv_at hl 0 rfl) ?_
    refine lv_iload_n hx hb dL_law_871 rfl (lv_at hl 3 rfl) ?_
    refine lv_iconst (v := (1 : Int32)) hx hb dL_law_872 (by decide) ?_
    refine lv_iadd hx hb dL_law_873 ?_
    refine va_sld hx hb hX hbl hbA hw.2.2 (xq_ix hi hL 1 (by decide)) dL_law_874 ?_
    refine lv_aload_n hx hb dL_law_875 rfl (lv_at hl 0 rfl) ?_
    refine lv_iload_n hx hb dL_law_876 rfl (lv_at hl 3 rfl) ?_
    refine lv_iconst (v := (2 : Int32)) hx hb dL_law_877 (by decide) ?_
    refine lv_iadd hx hb dL_law_878 ?_
    refine va_sld hx hb hX hbl hbA hw.2.2 (xq_ix hi hL 2 (by decide)) dL_law_879 ?_
    refine lv_aload_n hx hb dL_law_880 rfl (lv_at hl 0 rfl) ?_
    refine lv_iload_n hx hb dL_law_881 rfl (lv_at hl 3 rfl) ?_
    refine lv_iconst (v := (3 : Int32)) hx hb dL_law_882 (by decide) ?_
    refine lv_iadd hx hb dL_law_883 ?_
    refine va_sld hx hb hX hbl hbA hw.2.2 (xq_ix hi hL 3 (by decide)) dL_law_884 ?_
    refine xq_iA hst hw (xr_runV (As := [.int (xs (nI i + (1 : Int32)).toNatClampNeg), .int (xs (nI i + (2 : Int32)).toNatClampNeg), .int (xs (nI i + (3 : Int32)).toNatClampNeg)]) (rest := []) XA (xq_hA hw) 0 (xc_X11_winner l D cy qa σ (xs (nI i + (1 : Int32)).toNatClampNeg) (xs (nI i + (2 : Int32)).toNatClampNeg) (xs (nI i + (3 : Int32)).toNatClampNeg) (s19 σ τ hr (xs (nI i + (1 : Int32)).toNatClampNeg) (xs (nI i + (2 : Int32)).toNatClampNeg) (xs (nI i + (3 : Int32)).toNatClampNeg)) _) xm_X11_winner xt_4_104 xt_4_105 xt_4_106 ⟨Nat.le_of_ble_eq_true rfl, Nat.le_of_ble_eq_true rfl⟩ xl_A_ShowRings_at rfl rfl rfl rfl hl.1 (Nat.le_of_ble_eq_true rfl) dL_law_885 ⟨Nat.le_of_ble_eq_true rfl, Nat.le_of_ble_eq_true rfl⟩) (fun r σ1 H locs hB hw => ?_)
    refine lv_aload_n hx hb dL_law_888 rfl (lv_at hl 2 rfl) ?_
    refine lv_aload_n hx hb dL_law_889 rfl (lv_at hl 0 rfl) ?_
    refine lv_iload_n hx hb dL_law_890 rfl (lv_at hl 3 rfl) ?_
    refine lv_iconst (v := (1 : Int32)) hx hb dL_law_891 (by decide) ?_
    refine lv_iadd hx hb dL_law_892 ?_
    refine va_sld hx hb hX hbl hbA hw.2.2 (xq_ix hi hL 1 (by decide)) dL_law_893 ?_
    refine lv_aload_n hx hb dL_law_894 rfl (lv_at hl 0 rfl) ?_
    refine lv_iload_n hx hb dL_law_895 rfl (lv_at hl 3 rfl) ?_
    refine lv_iconst (v := (2 : Int32)) hx hb dL_law_896 (by decide) ?_
    refine lv_iadd hx hb dL_law_897 ?_
    refine va_sld hx hb hX hbl hbA hw.2.2 (xq_ix hi hL 2 (by decide)) dL_law_898 ?_
    refine lv_aload_n hx hb dL_law_899 rfl (lv_at hl 0 rfl) ?_
    refine lv_iload_n hx hb dL_law_900 rfl (lv_at hl 3 rfl) ?_
    refine lv_iconst (v := (3 : Int32)) hx hb dL_law_901 (by decide) ?_
    refine lv_iadd hx hb dL_law_902 ?_
    refine va_sld hx hb hX hbl hbA hw.2.2 (xq_ix hi hL 3 (by decide)) dL_law_903 ?_
    refine xq_iB hst hw (xr_runV (As := [.int (xs (nI i + (1 : Int32)).toNatClampNeg), .int (xs (nI i + (2 : Int32)).toNatClampNeg), .int (xs (nI i + (3 : Int32)).toNatClampNeg)]) (rest := [.int r]) XB (xq_hB hw) 0 (xc_X12_winner l D cy qb τ (xs (nI i + (1 : Int32)).toNatClampNeg) (xs (nI i + (2 : Int32)).toNatClampNeg) (xs (nI i + (3 : Int32)).toNatClampNeg) hB _) xm_X12_winner xt_6_173 xt_6_174 xt_6_175 ⟨Nat.le_of_ble_eq_true rfl, Nat.le_of_ble_eq_true rfl⟩ xl_B_ShowRingsModel_at rfl rfl rfl rfl hl.1 (Nat.le_of_ble_eq_true rfl) dL_law_904 ⟨Nat.le_of_ble_eq_true rfl, Nat.le_of_ble_eq_true rfl⟩) (fun r2 τ1 H locs hB hw => ?_)
    refine lv_icmp_eq (tgt := 1150) hx hb dL_law_907 (by decide) (fun _ => ?_) (fun hc => absurd hB.1 hc)
    exact htail _ _ hB.2 _ _ hw _ hl
  by_cases hc20 : xs (nI i).toNatClampNeg &&& 31 = (20 : Int32)
  · refine lv_tableIn (tgt := 912) hx hb dL_law_33 (by rw [hc20]; decide) (by rw [hc20]; decide) (by rw [hc20]; rfl) (by decide) ?_
    refine lv_aload_n hx hb dL_law_912 rfl (lv_at hl 1 rfl) ?_
    refine lv_aload_n hx hb dL_law_913 rfl (lv_at hl 0 rfl) ?_
    refine lv_iload_n hx hb dL_law_914 rfl (lv_at hl 3 rfl) ?_
    refine lv_iconst (v := (1 : Int32)) hx hb dL_law_915 (by decide) ?_
    refine lv_iadd hx hb dL_law_916 ?_
    refine va_sld hx hb hX hbl hbA hw.2.2 (xq_ix hi hL 1 (by decide)) dL_law_917 ?_
    refine lv_aload_n hx hb dL_law_918 rfl (lv_at hl 0 rfl) ?_
    refine lv_iload_n hx hb dL_law_919 rfl (lv_at hl 3 rfl) ?_
    refine lv_iconst (v := (2 : Int32)) hx hb dL_law_920 (by decide) ?_
    refine lv_iadd hx hb dL_law_921 ?_
    refine va_sld hx hb hX hbl hbA hw.2.2 (xq_ix hi hL 2 (by decide)) dL_law_922 ?_
    refine lv_aload_n hx hb dL_law_923 rfl (lv_at hl 0 rfl) ?_
    refine lv_iload_n hx hb dL_law_924 rfl (lv_at hl 3 rfl) ?_
    refine lv_iconst (v := (3 : Int32)) hx hb dL_law_925 (by decide) ?_
    refine lv_iadd hx hb dL_law_926 ?_
    refine va_sld hx hb hX hbl hbA hw.2.2 (xq_ix hi hL 3 (by decide)) dL_law_927 ?_
    refine xq_iA hst hw (xr_runV (As := [.int (xs (nI i + (1 : Int32)).toNatClampNeg), .int (xs (nI i + (2 : Int32)).toNatClampNeg), .int (xs (nI i + (3 : Int32)).toNatClampNeg)]) (rest := []) XA (xq_hA hw) 0 (xc_X11_points l D cy qa σ (xs (nI i + (1 : Int32)).toNatClampNeg) (xs (nI i + (2 : Int32)).toNatClampNeg) (xs (nI i + (3 : Int32)).toNatClampNeg) (s20 σ τ hr (xs (nI i + (1 : Int32)).toNatClampNeg) (xs (nI i + (2 : Int32)).toNatClampNeg) (xs (nI i + (3 : Int32)).toNatClampNeg)) _) xm_X11_points xt_4_118 xt_4_119 xt_4_120 ⟨Nat.le_of_ble_eq_true rfl, Nat.le_of_ble_eq_true rfl⟩ xl_A_ShowRings_at rfl rfl rfl rfl hl.1 (Nat.le_of_ble_eq_true rfl) dL_law_928 ⟨Nat.le_of_ble_eq_true rfl, Nat.le_of_ble_eq_true rfl⟩) (fun r σ1 H locs hB hw => ?_)
    refine lv_aload_n hx hb dL_law_931 rfl (lv_at hl 2 rfl) ?_
    refine lv_aload_n hx hb dL_law_932 rfl (lv_at hl 0 rfl) ?_
    refine lv_iload_n hx hb dL_law_933 rfl (lv_at hl 3 rfl) ?_
    refine lv_iconst (v := (1 : Int32)) hx hb dL_law_934 (by decide) ?_
    refine lv_iadd hx hb dL_law_935 ?_
    refine va_sld hx hb hX hbl hbA hw.2.2 (xq_ix hi hL 1 (by decide)) dL_law_936 ?_
    refine lv_aload_n hx hb dL_law_937 rfl (lv_at hl 0 rfl) ?_
    refine lv_iload_n hx hb dL_law_938 rfl (lv_at hl 3 rfl) ?_
    refine lv_iconst (v := (2 : Int32)) hx hb dL_law_939 (by decide) ?_
    refine lv_iadd hx hb dL_law_940 ?_
    refine va_sld hx hb hX hbl hbA hw.2.2 (xq_ix hi hL 2 (by decide)) dL_law_941 ?_
    refine lv_aload_n hx hb dL_law_942 rfl (lv_at hl 0 rfl) ?_
    refine lv_iload_n hx hb dL_law_943 rfl (lv_at hl 3 rfl) ?_
    refine lv_iconst (v := (3 : Int32)) hx hb dL_law_944 (by decide) ?_
    refine lv_iadd hx hb dL_law_945 ?_
    refine va_sld hx hb hX hbl hbA hw.2.2 (xq_ix hi hL 3 (by decide)) dL_law_946 ?_
    refine xq_iB hst hw (xr_runV (As := [.int (xs (nI i + (1 : Int32)).toNatClampNeg), .int (xs (nI i + (2 : Int32)).toNatClampNeg), .int (xs (nI i + (3 : Int32)).toNatClampNeg)]) (rest := [.int r]) XB (xq_hB hw) 0 (xc_X12_points l D cy qb τ (xs (nI i + (1 : Int32)).toNatClampNeg) (xs (nI i + (2 : Int32)).toNatClampNeg) (xs (nI i + (3 : Int32)).toNatClampNeg) hB _) xm_X12_points xt_6_181 xt_6_182 xt_6_183 ⟨Nat.le_of_ble_eq_true rfl, Nat.le_of_ble_eq_true rfl⟩ xl_B_ShowRingsModel_at rfl rfl rfl rfl hl.1 (Nat.le_of_ble_eq_true rfl) dL_law_947 ⟨Nat.le_of_ble_eq_true rfl, Nat.le_of_ble_eq_true rfl⟩) (fun r2 τ1 H locs hB hw => ?_)
    refine lv_icmp_eq (tgt := 1150) hx hb dL_law_950 (by decide) (fun _ => ?_) (fun hc => absurd hB.1 hc)
    exact htail _ _ hB.2 _ _ hw _ hl
  by_cases hc21 : xs (nI i).toNatClampNeg &&& 31 = (21 : Int32)
  · refine lv_tableIn (tgt := 955) hx hb dL_law_33 (by rw [hc21]; decide) (by rw [hc21]; decide) (by rw [hc21]; rfl) (by decide) ?_
    refine lv_aload_n hx hb dL_law_955 rfl (lv_at hl 1 rfl) ?_
    refine lv_aload_n hx hb dL_law_956 rfl (lv_at hl 0 rfl) ?_
    refine lv_iload_n hx hb dL_law_957 rfl (lv_at hl 3 rfl) ?_
    refine lv_iconst (v := (1 : Int32)) hx hb dL_law_958 (by decide) ?_
    refine lv_iadd hx hb dL_law_959 ?_
    refine va_sld hx hb hX hbl hbA hw.2.2 (xq_ix hi hL 1 (by decide)) dL_law_960 ?_
    refine lv_aload_n hx hb dL_law_961 rfl (lv_at hl 0 rfl) ?_
    refine lv_iload_n hx hb dL_law_962 rfl (lv_at hl 3 rfl) ?_
    refine lv_iconst (v := (2 : Int32)) hx hb dL_law_963 (by decide) ?_
    refine lv_iadd hx hb dL_law_964 ?_
    refine va_sld hx hb hX hbl hbA hw.2.2 (xq_ix hi hL 2 (by decide)) dL_law_965 ?_
    refine xq_iA hst hw (xr_runV (As := [.int (xs (nI i + (1 : Int32)).toNatClampNeg), .int (xs (nI i + (2 : Int32)).toNatClampNeg)]) (rest := []) XA (xq_hA hw) 0 (xc_X11_title l D cy qa σ (xs (nI i + (1 : Int32)).toNatClampNeg) (xs (nI i + (2 : Int32)).toNatClampNeg) (s21 σ τ hr (xs (nI i + (1 : Int32)).toNatClampNeg) (xs (nI i + (2 : Int32)).toNatClampNeg)) _) xm_X11_title xt_4_134 xt_4_135 xt_4_136 ⟨Nat.le_of_ble_eq_true rfl, Nat.le_of_ble_eq_true rfl⟩ xl_A_ShowRings_at rfl rfl rfl rfl hl.1 (Nat.le_of_ble_eq_true rfl) dL_law_966 ⟨Nat.le_of_ble_eq_true rfl, Nat.le_of_ble_eq_true rfl⟩) (fun r σ1 H locs hB hw => ?_)
    refine lv_aload_n hx hb dL_law_969 rfl (lv_at hl 2 rfl) ?_
    refine lv_aload_n hx hb dL_law_970 rfl (lv_at hl 0 rfl) ?_
    refine lv_iload_n hx hb dL_law_971 rfl (lv_at hl 3 rfl) ?_
    refine lv_iconst (v := (1 : Int32)) hx hb dL_law_972 (by decide) ?_
    refine lv_iadd hx hb dL_law_973 ?_
    refine va_sld hx hb hX hbl hbA hw.2.2 (xq_ix hi hL 1 (by decide)) dL_law_974 ?_
    refine lv_aload_n hx hb dL_law_975 rfl (lv_at hl 0 rfl) ?_
    refine lv_iload_n hx hb dL_law_976 rfl (lv_at hl 3 rfl) ?_
    refine lv_iconst (v := (2 : Int32)) hx hb dL_law_977 (by decide) ?_
    refine lv_iadd hx hb dL_law_978 ?_
    refine va_sld hx hb hX hbl hbA hw.2.2 (xq_ix hi hL 2 (by decide)) dL_law_979 ?_
    refine xq_iB hst hw (xr_runV (As := [.int (xs (nI i + (1 : Int32)).toNatClampNeg), .int (xs (nI i + (2 : Int32)).toNatClampNeg)]) (rest := [.int r]) XB (xq_hB hw) 0 (xc_X12_title l D cy qb τ (xs (nI i + (1 : Int32)).toNatClampNeg) (xs (nI i + (2 : Int32)).toNatClampNeg) hB _) xm_X12_title xt_6_189 xt_6_190 xt_6_191 ⟨Nat.le_of_ble_eq_true rfl, Nat.le_of_ble_eq_true rfl⟩ xl_B_ShowRingsModel_at rfl rfl rfl rfl hl.1 (Nat.le_of_ble_eq_true rfl) dL_law_980 ⟨Nat.le_of_ble_eq_true rfl, Nat.le_of_ble_eq_true rfl⟩) (fun r2 τ1 H locs hB hw => ?_)
    refine lv_icmp_eq (tgt := 1150) hx hb dL_law_983 (by decide) (fun _ => ?_) (fun hc => absurd hB.1 hc)
    exact htail _ _ hB.2 _ _ hw _ hl
  by_cases hc22 : xs (nI i).toNatClampNeg &&& 31 = (22 : Int32)
  · refine lv_tableIn (tgt := 988) hx hb dL_law_33 (by rw [hc22]; decide) (by rw [hc22]; decide) (by rw [hc22]; rfl) (by decide) ?_
    refine lv_aload_n hx hb dL_law_988 rfl (lv_at hl 1 rfl) ?_
    refine lv_aload_n hx hb dL_law_989 rfl (lv_at hl 0 rfl) ?_
    refine lv_iload_n hx hb dL_law_990 rfl (lv_at hl 3 rfl) ?_
    refine lv_iconst (v := (1 : Int32)) hx hb dL_law_991 (by decide) ?_
    refine lv_iadd hx hb dL_law_992 ?_
    refine va_sld hx hb hX hbl hbA hw.2.2 (xq_ix hi hL 1 (by decide)) dL_law_993 ?_
    refine lv_aload_n hx hb dL_law_994 rfl (lv_at hl 0 rfl) ?_
    refine lv_iload_n hx hb dL_law_995 rfl (lv_at hl 3 rfl) ?_
    refine lv_iconst (v := (2 : Int32)) hx hb dL_law_996 (by decide) ?_
    refine lv_iadd hx hb dL_law_997 ?_
    refine va_sld hx hb hX hbl hbA hw.2.2 (xq_ix hi hL 2 (by decide)) dL_law_998 ?_
    refine lv_aload_n hx hb dL_law_999 rfl (lv_at hl 0 rfl) ?_
    refine lv_iload_n hx hb dL_law_1000 rfl (lv_at hl 3 rfl) ?_
    refine lv_iconst (v := (3 : Int32)) hx hb dL_law_1001 (by decide) ?_
    refine lv_iadd hx hb dL_law_1002 ?_
    refine va_sld hx hb hX hbl hbA hw.2.2 (xq_ix hi hL 3 (by decide)) dL_law_1003 ?_
    refine xq_iA hst hw (xr_runV (As := [.int (xs (nI i + (1 : Int32)).toNatClampNeg), .int (xs (nI i + (2 : Int32)).toNatClampNeg), .int (xs (nI i + (3 : Int32)).toNatClampNeg)]) (rest := []) XA (xq_hA hw) 0 (xc_X11_owner l D cy qa σ (xs (nI i + (1 : Int32)).toNatClampNeg) (xs (nI i + (2 : Int32)).toNatClampNeg) (xs (nI i + (3 : Int32)).toNatClampNeg) (s22 σ τ hr (xs (nI i + (1 : Int32)).toNatClampNeg) (xs (nI i + (2 : Int32)).toNatClampNeg) (xs (nI i + (3 : Int32)).toNatClampNeg)) _) xm_X11_owner xt_4_143 xt_4_144 xt_4_145 ⟨Nat.le_of_ble_eq_true rfl, Nat.le_of_ble_eq_true rfl⟩ xl_A_ShowRings_at rfl rfl rfl rfl hl.1 (Nat.le_of_ble_eq_true rfl) dL_law_1004 ⟨Nat.le_of_ble_eq_true rfl, Nat.le_of_ble_eq_true rfl⟩) (fun r σ1 H locs hB hw => ?_)
    refine lv_aload_n hx hb dL_law_1007 rfl (lv_at hl 2 rfl) ?_
    refine lv_aload_n hx hb dL_law_1008 rfl (lv_at hl 0 rfl) ?_
    refine lv_iload_n hx hb dL_law_1009 rfl (lv_at hl 3 rfl) ?_
    refine lv_iconst (v := (1 : Int32)) hx hb dL_law_1010 (by decide) ?_
    refine lv_iadd hx hb dL_law_1011 ?_
    refine va_sld hx hb hX hbl hbA hw.2.2 (xq_ix hi hL 1 (by decide)) dL_law_1012 ?_
    refine lv_aload_n hx hb dL_law_1013 rfl (lv_at hl 0 rfl) ?_
    refine lv_iload_n hx hb dL_law_1014 rfl (lv_at hl 3 rfl) ?_
    refine lv_iconst (v := (2 : Int32)) hx hb dL_law_1015 (by decide) ?_
    refine lv_iadd hx hb dL_law_1016 ?_
    refine va_sld hx hb hX hbl hbA hw.2.2 (xq_ix hi hL 2 (by decide)) dL_law_1017 ?_
    refine lv_aload_n hx hb dL_law_1018 rfl (lv_at hl 0 rfl) ?_
    refine lv_iload_n hx hb dL_law_1019 rfl (lv_at hl 3 rfl) ?_
    refine lv_iconst (v := (3 : Int32)) hx hb dL_law_1020 (by decide) ?_
    refine lv_iadd hx hb dL_law_1021 ?_
    refine va_sld hx hb hX hbl hbA hw.2.2 (xq_ix hi hL 3 (by decide)) dL_law_1022 ?_
    refine xq_iB hst hw (xr_runV (As := [.int (xs (nI i + (1 : Int32)).toNatClampNeg), .int (xs (nI i + (2 : Int32)).toNatClampNeg), .int (xs (nI i + (3 : Int32)).toNatClampNeg)]) (rest := [.int r]) XB (xq_hB hw) 0 (xc_X12_owner l D cy qb τ (xs (nI i + (1 : Int32)).toNatClampNeg) (xs (nI i + (2 : Int32)).toNatClampNeg) (xs (nI i + (3 : Int32)).toNatClampNeg) hB _) xm_X12_owner xt_6_62 xt_6_63 xt_6_64 ⟨Nat.le_of_ble_eq_true rfl, Nat.le_of_ble_eq_true rfl⟩ xl_B_ShowRingsModel_at rfl rfl rfl rfl hl.1 (Nat.le_of_ble_eq_true rfl) dL_law_1023 ⟨Nat.le_of_ble_eq_true rfl, Nat.le_of_ble_eq_true rfl⟩) (fun r2 τ1 H locs hB hw => ?_)
    refine lv_icmp_eq (tgt := 1150) hx hb dL_law_1026 (by decide) (fun _ => ?_) (fun hc => absurd hB.1 hc)
    exact htail _ _ hB.2 _ _ hw _ hl
  by_cases hc23 : xs (nI i).toNatClampNeg &&& 31 = (23 : Int32)
  · refine lv_tableIn (tgt := 1031) hx hb dL_law_33 (by rw [hc23]; decide) (by rw [hc23]; decide) (by rw [hc23]; rfl) (by decide) ?_
    refine lv_aload_n hx hb dL_law_1031 rfl (lv_at hl 1 rfl) ?_
    refine lv_aload_n hx hb dL_law_1032 rfl (lv_at hl 0 rfl) ?_
    refine lv_iload_n hx hb dL_law_1033 rfl (lv_at hl 3 rfl) ?_
    refine lv_iconst (v := (1 : Int32)) hx hb dL_law_1034 (by decide) ?_
    refine lv_iadd hx hb dL_law_1035 ?_
    refine va_sld hx hb hX hbl hbA hw.2.2 (xq_ix hi hL 1 (by decide)) dL_law_1036 ?_
    refine lv_aload_n hx hb dL_law_1037 rfl (lv_at hl 0 rfl) ?_
    refine lv_iload_n hx hb dL_law_1038 rfl (lv_at hl 3 rfl) ?_
    refine lv_iconst (v := (2 : Int32)) hx hb dL_law_1039 (by decide) ?_
    refine lv_iadd hx hb dL_law_1040 ?_
    refine va_sld hx hb hX hbl hbA hw.2.2 (xq_ix hi hL 2 (by decide)) dL_law_1041 ?_
    refine lv_aload_n hx hb dL_law_1042 rfl (lv_at hl 0 rfl) ?_
    refine lv_iload_n hx hb dL_law_1043 rfl (lv_at hl 3 rfl) ?_
    refine lv_iconst (v := (3 : Int32)) hx hb dL_law_1044 (by decide) ?_
    refine lv_iadd hx hb dL_law_1045 ?_
    refine va_sld hx hb hX hbl hbA hw.2.2 (xq_ix hi hL 3 (by decide)) dL_law_1046 ?_
    refine lv_aload_n hx hb dL_law_1047 rfl (lv_at hl 0 rfl) ?_
    refine lv_iload_n hx hb dL_law_1048 rfl (lv_at hl 3 rfl) ?_
    refine lv_iconst (v := (4 : Int32)) hx hb dL_law_1049 (by decide) ?_
    refine lv_iadd hx hb dL_law_1050 ?_
    refine va_sld hx hb hX hbl hbA hw.2.2 (xq_ix hi hL 4 (by decide)) dL_law_1051 ?_
    refine xq_iA hst hw (xr_runV (As := [.int (xs (nI i + (1 : Int32)).toNatClampNeg), .int (xs (nI i + (2 : Int32)).toNatClampNeg), .int (xs (nI i + (3 : Int32)).toNatClampNeg), .int (xs (nI i + (4 : Int32)).toNatClampNeg)]) (rest := []) XA (xq_hA hw) 0 (xc_X11_parted l D cy qa σ (xs (nI i + (1 : Int32)).toNatClampNeg) (xs (nI i + (2 : Int32)).toNatClampNeg) (xs (nI i + (3 : Int32)).toNatClampNeg) (xs (nI i + (4 : Int32)).toNatClampNeg) (s23 σ τ hr (xs (nI i + (1 : Int32)).toNatClampNeg) (xs (nI i + (2 : Int32)).toNatClampNeg) (xs (nI i + (3 : Int32)).toNatClampNeg) (xs (nI i + (4 : Int32)).toNatClampNeg)) _) xm_X11_parted xt_4_148 xt_4_149 xt_4_150 ⟨Nat.le_of_ble_eq_true rfl, Nat.le_of_ble_eq_true rfl⟩ xl_A_ShowRings_at rfl rfl rfl rfl hl.1 (Nat.le_of_ble_eq_true rfl) dL_law_1052 ⟨Nat.le_of_ble_eq_true rfl, Nat.le_of_ble_eq_true rfl⟩) (fun r σ1 H locs hB hw => ?_)
    refine lv_aload_n hx hb dL_law_1055 rfl (lv_at hl 2 rfl) ?_
    refine lv_aload_n hx hb dL_law_1056 rfl (lv_at hl 0 rfl) ?_
    refine lv_iload_n hx hb dL_law_1057 rfl (lv_at hl 3 rfl) ?_
    refine lv_iconst (v := (1 : Int32)) hx hb dL_law_1058 (by decide) ?_
    refine lv_iadd hx hb dL_law_1059 ?_
    refine va_sld hx hb hX hbl hbA hw.2.2 (xq_ix hi hL 1 (by decide)) dL_law_1060 ?_
    refine lv_aload_n hx hb dL_law_1061 rfl (lv_at hl 0 rfl) ?_
    refine lv_iload_n hx hb dL_law_1062 rfl (lv_at hl 3 rfl) ?_
    refine lv_iconst (v := (2 : Int32)) hx hb dL_law_1063 (by decide) ?_
    refine lv_iadd hx hb dL_law_1064 ?_
    refine va_sld hx hb hX hbl hbA hw.2.2 (xq_ix hi hL 2 (by decide)) dL_law_1065 ?_
    refine lv_aload_n hx hb dL_law_1066 rfl (lv_at hl 0 rfl) ?_
    refine lv_iload_n hx hb dL_law_1067 rfl (lv_at hl 3 rfl) ?_
    refine lv_iconst (v := (3 : Int32)) hx hb dL_law_1068 (by decide) ?_
    refine lv_iadd hx hb dL_law_1069 ?_
    refine va_sld hx hb hX hbl hbA hw.2.2 (xq_ix hi hL 3 (by decide)) dL_law_1070 ?_
    refine lv_aload_n hx hb dL_law_1071 rfl (lv_at hl 0 rfl) ?_
    refine lv_iload_n hx hb dL_law_1072 rfl (lv_at hl 3 rfl) ?_
    refine lv_iconst (v := (4 : Int32)) hx hb dL_law_1073 (by decide) ?_
    refine lv_iadd hx hb dL_law_1074 ?_
    refine va_sld hx hb hX hbl hbA hw.2.2 (xq_ix hi hL 4 (by decide)) dL_law_1075 ?_
    refine xq_iB hst hw (xr_runV (As := [.int (xs (nI i + (1 : Int32)).toNatClampNeg), .int (xs (nI i + (2 : Int32)).toNatClampNeg), .int (xs (nI i + (3 : Int32)).toNatClampNeg), .int (xs (nI i + (4 : Int32)).toNatClampNeg)]) (rest := [.int r]) XB (xq_hB hw) 0 (xc_X12_parted l D cy qb τ (xs (nI i + (1 : Int32)).toNatClampNeg) (xs (nI i + (2 : Int32)).toNatClampNeg) (xs (nI i + (3 : Int32)).toNatClampNeg) (xs (nI i + (4 : Int32)).toNatClampNeg) hB _) xm_X12_parted xt_6_78 xt_6_79 xt_6_80 ⟨Nat.le_of_ble_eq_true rfl, Nat.le_of_ble_eq_true rfl⟩ xl_B_ShowRingsModel_at rfl rfl rfl rfl hl.1 (Nat.le_of_ble_eq_true rfl) dL_law_1076 ⟨Nat.le_of_ble_eq_true rfl, Nat.le_of_ble_eq_true rfl⟩) (fun r2 τ1 H locs hB hw => ?_)
    refine lv_icmp_eq (tgt := 1150) hx hb dL_law_1079 (by decide) (fun _ => ?_) (fun hc => absurd hB.1 hc)
    exact htail _ _ hB.2 _ _ hw _ hl
  by_cases hc24 : xs (nI i).toNatClampNeg &&& 31 = (24 : Int32)
  · refine lv_tableIn (tgt := 1084) hx hb dL_law_33 (by rw [hc24]; decide) (by rw [hc24]; decide) (by rw [hc24]; rfl) (by decide) ?_
    refine lv_aload_n hx hb dL_law_1084 rfl (lv_at hl 1 rfl) ?_
    refine lv_aload_n hx hb dL_law_1085 rfl (lv_at hl 0 rfl) ?_
    refine lv_iload_n hx hb dL_law_1086 rfl (lv_at hl 3 rfl) ?_
    refine lv_iconst (v := (1 : Int32)) hx hb dL_law_1087 (by decide) ?_
    refine lv_iadd hx hb dL_law_1088 ?_
    refine va_sld hx hb hX hbl hbA hw.2.2 (xq_ix hi hL 1 (by decide)) dL_law_1089 ?_
    refine lv_aload_n hx hb dL_law_1090 rfl (lv_at hl 0 rfl) ?_
    refine lv_iload_n hx hb dL_law_1091 rfl (lv_at hl 3 rfl) ?_
    refine lv_iconst (v := (2 : Int32)) hx hb dL_law_1092 (by decide) ?_
    refine lv_iadd hx hb dL_law_1093 ?_
    refine va_sld hx hb hX hbl hbA hw.2.2 (xq_ix hi hL 2 (by decide)) dL_law_1094 ?_
    refine lv_aload_n hx hb dL_law_1095 rfl (lv_at hl 0 rfl) ?_
    refine lv_iload_n hx hb dL_law_1096 rfl (lv_at hl 3 rfl) ?_
    refine lv_iconst (v := (3 : Int32)) hx hb dL_law_1097 (by decide) ?_
    refine lv_iadd hx hb dL_law_1098 ?_
    refine va_sld hx hb hX hbl hbA hw.2.2 (xq_ix hi hL 3 (by decide)) dL_law_1099 ?_
    refine xq_iA hst hw (xr_runV (As := [.int (xs (nI i + (1 : Int32)).toNatClampNeg), .int (xs (nI i + (2 : Int32)).toNatClampNeg), .int (xs (nI i + (3 : Int32)).toNatClampNeg)]) (rest := []) XA (xq_hA hw) 0 (xc_X11_changed l D cy qa σ (xs (nI i + (1 : Int32)).toNatClampNeg) (xs (nI i + (2 : Int32)).toNatClampNeg) (xs (nI i + (3 : Int32)).toNatClampNeg) (s24 σ τ hr (xs (nI i + (1 : Int32)).toNatClampNeg) (xs (nI i + (2 : Int32)).toNatClampNeg) (xs (nI i + (3 : Int32)).toNatClampNeg)) _) xm_X11_changed xt_4_153 xt_4_154 xt_4_155 ⟨Nat.le_of_ble_eq_true rfl, Nat.le_of_ble_eq_true rfl⟩ xl_A_ShowRings_at rfl rfl rfl rfl hl.1 (Nat.le_of_ble_eq_true rfl) dL_law_1100 ⟨Nat.le_of_ble_eq_true rfl, Nat.le_of_ble_eq_true rfl⟩) (fun r σ1 H locs hB hw => ?_)
    refine lv_aload_n hx hb dL_law_1103 rfl (lv_at hl 2 rfl) ?_
    refine lv_aload_n hx hb dL_law_1104 rfl (lv_at hl 0 rfl) ?_
    refine lv_iload_n hx hb dL_law_1105 rfl (lv_at hl 3 rfl) ?_
    refine lv_iconst (v := (1 : Int32)) hx hb dL_law_1106 (by decide) ?_
    refine lv_iadd hx hb dL_law_1107 ?_
    refine va_sld hx hb hX hbl hbA hw.2.2 (xq_ix hi hL 1 (by decide)) dL_law_1108 ?_
    refine lv_aload_n hx hb dL_law_1109 rfl (lv_at hl 0 rfl) ?_
    refine lv_iload_n hx hb dL_law_1110 rfl (lv_at hl 3 rfl) ?_
    refine lv_iconst (v := (2 : Int32)) hx hb dL_law_1111 (by decide) ?_
    refine lv_iadd hx hb dL_law_1112 ?_
    refine va_sld hx hb hX hbl hbA hw.2.2 (xq_ix hi hL 2 (by decide)) dL_law_1113 ?_
    refine lv_aload_n hx hb dL_law_1114 rfl (lv_at hl 0 rfl) ?_
    refine lv_iload_n hx hb dL_law_1115 rfl (lv_at hl 3 rfl) ?_
    refine lv_iconst (v := (3 : Int32)) hx hb dL_law_1116 (by decide) ?_
    refine lv_iadd hx hb dL_law_1117 ?_
    refine va_sld hx hb hX hbl hbA hw.2.2 (xq_ix hi hL 3 (by decide)) dL_law_1118 ?_
    refine xq_iB hst hw (xr_runV (As := [.int (xs (nI i + (1 : Int32)).toNatClampNeg), .int (xs (nI i + (2 : Int32)).toNatClampNeg), .int (xs (nI i + (3 : Int32)).toNatClampNeg)]) (rest := [.int r]) XB (xq_hB hw) 0 (xc_X12_changed l D cy qb τ (xs (nI i + (1 : Int32)).toNatClampNeg) (xs (nI i + (2 : Int32)).toNatClampNeg) (xs (nI i + (3 : Int32)).toNatClampNeg) hB _) xm_X12_changed xt_6_193 xt_6_194 xt_6_195 ⟨Nat.le_of_ble_eq_true rfl, Nat.le_of_ble_eq_true rfl⟩ xl_B_ShowRingsModel_at rfl rfl rfl rfl hl.1 (Nat.le_of_ble_eq_true rfl) dL_law_1119 ⟨Nat.le_of_ble_eq_true rfl, Nat.le_of_ble_eq_true rfl⟩) (fun r2 τ1 H locs hB hw => ?_)
    refine lv_icmp_eq (tgt := 1150) hx hb dL_law_1122 (by decide) (fun _ => ?_) (fun hc => absurd hB.1 hc)
    exact htail _ _ hB.2 _ _ hw _ hl
  by_cases hc25 : xs (nI i).toNatClampNeg &&& 31 = (25 : Int32)
  · refine lv_tableIn (tgt := 1127) hx hb dL_law_33 (by rw [hc25]; decide) (by rw [hc25]; decide) (by rw [hc25]; rfl) (by decide) ?_
    refine lv_aload_n hx hb dL_law_1127 rfl (lv_at hl 1 rfl) ?_
    refine lv_aload_n hx hb dL_law_1128 rfl (lv_at hl 0 rfl) ?_
    refine lv_iload_n hx hb dL_law_1129 rfl (lv_at hl 3 rfl) ?_
    refine lv_iconst (v := (1 : Int32)) hx hb dL_law_1130 (by decide) ?_
    refine lv_iadd hx hb dL_law_1131 ?_
    refine va_sld hx hb hX hbl hbA hw.2.2 (xq_ix hi hL 1 (by decide)) dL_law_1132 ?_
    refine xq_iA hst hw (xr_runV (As := [.int (xs (nI i + (1 : Int32)).toNatClampNeg)]) (rest := []) XA (xq_hA hw) 0 (xc_X11_count l D cy qa σ (xs (nI i + (1 : Int32)).toNatClampNeg) (s25 σ τ hr (xs (nI i + (1 : Int32)).toNatClampNeg)) _) xm_X11_count xt_4_157 xt_4_158 xt_4_159 ⟨Nat.le_of_ble_eq_true rfl, Nat.le_of_ble_eq_true rfl⟩ xl_A_ShowRings_at rfl rfl rfl rfl hl.1 (Nat.le_of_ble_eq_true rfl) dL_law_1133 ⟨Nat.le_of_ble_eq_true rfl, Nat.le_of_ble_eq_true rfl⟩) (fun r σ1 H locs hB hw => ?_)
    refine lv_aload_n hx hb dL_law_1136 rfl (lv_at hl 2 rfl) ?_
    refine lv_aload_n hx hb dL_law_1137 rfl (lv_at hl 0 rfl) ?_
    refine lv_iload_n hx hb dL_law_1138 rfl (lv_at hl 3 rfl) ?_
    refine lv_iconst (v := (1 : Int32)) hx hb dL_law_1139 (by decide) ?_
    refine lv_iadd hx hb dL_law_1140 ?_
    refine va_sld hx hb hX hbl hbA hw.2.2 (xq_ix hi hL 1 (by decide)) dL_law_1141 ?_
    refine xq_iB hst hw (xr_runV (As := [.int (xs (nI i + (1 : Int32)).toNatClampNeg)]) (rest := [.int r]) XB (xq_hB hw) 0 (xc_X12_count l D cy qb τ (xs (nI i + (1 : Int32)).toNatClampNeg) hB _) xm_X12_count xt_6_197 xt_6_198 xt_6_199 ⟨Nat.le_of_ble_eq_true rfl, Nat.le_of_ble_eq_true rfl⟩ xl_B_ShowRingsModel_at rfl rfl rfl rfl hl.1 (Nat.le_of_ble_eq_true rfl) dL_law_1142 ⟨Nat.le_of_ble_eq_true rfl, Nat.le_of_ble_eq_true rfl⟩) (fun r2 τ1 H locs hB hw => ?_)
    refine lv_icmp_eq (tgt := 1150) hx hb dL_law_1145 (by decide) (fun _ => ?_) (fun hc => absurd hB.1 hc)
    exact htail _ _ hB.2 _ _ hw _ hl
  refine xr_tdef hx hb (tgt := 1150) dL_law_33 (by decide) (by decide) (by decide) ?_ ?_
  · intro j hj hx2
    match j, hj, hx2 with
    | 0, _, hx2 => exact absurd hx2 hc0
    | 1, _, hx2 => exact absurd hx2 hc1
    | 2, _, hx2 => exact absurd hx2 hc2
    | 3, _, hx2 => exact absurd hx2 hc3
    | 4, _, hx2 => exact absurd hx2 hc4
    | 5, _, hx2 => exact absurd hx2 hc5
    | 6, _, hx2 => exact absurd hx2 hc6
    | 7, _, hx2 => exact absurd hx2 hc7
    | 8, _, hx2 => exact absurd hx2 hc8
    | 9, _, hx2 => exact absurd hx2 hc9
    | 10, _, hx2 => exact absurd hx2 hc10
    | 11, _, hx2 => exact absurd hx2 hc11
    | 12, _, hx2 => exact absurd hx2 hc12
    | 13, _, hx2 => exact absurd hx2 hc13
    | 14, _, hx2 => exact absurd hx2 hc14
    | 15, _, hx2 => exact absurd hx2 hc15
    | 16, _, hx2 => exact absurd hx2 hc16
    | 17, _, hx2 => exact absurd hx2 hc17
    | 18, _, hx2 => exact absurd hx2 hc18
    | 19, _, hx2 => exact absurd hx2 hc19
    | 20, _, hx2 => exact absurd hx2 hc20
    | 21, _, hx2 => exact absurd hx2 hc21
    | 22, _, hx2 => exact absurd hx2 hc22
    | 23, _, hx2 => exact absurd hx2 hc23
    | 24, _, hx2 => exact absurd hx2 hc24
    | 25, _, hx2 => exact absurd hx2 hc25
    | j + 26, hj, _ => exact absurd hj (by simp)
  · exact htail _ _ hr _ _ hw _ hl
