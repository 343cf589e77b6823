/-! THE LAW -/
theorem vin {i c L : Nat} (h : i + c < L) (hL : L ≤ 3072) : vp_in (nI i + nI c) L := by rw [nI_add]; exact vp_in_nI h (by omega)
theorem lex {L t : Nat} (h : L < 6 * t + 6) (hL : L ≤ 3072) (ht : 6 * t ≤ L + 5) : nI L - 6 < nI (6 * t) := by
  by_cases z : 6 ≤ L
  · rw [show nI L - 6 = nI (L - 6) from pk_sub (a := L) (b := 6) z]; exact nI_lt (by omega) (by omega)
  · exact Int32.lt_of_lt_of_le (pk_sneg (a := L) (b := 6) (by decide) (by omega)) (nI_pos' (by omega))
theorem lco {L t : Nat} (h : 6 * t + 6 ≤ L) (hL : L ≤ 3072) : ¬ nI L - 6 < nI (6 * t) := by
  rw [show nI L - 6 = nI (L - 6) from pk_sub (a := L) (b := 6) (by omega)]; exact nI_nlt (by omega) (by omega)
theorem LI_s {B X m t : Nat} {σ : aS} (h : LI B σ X m t) : LI B σ X m (t + 1) := by
  obtain ⟨n, f, mm, g, q, l, ft, pl, x, c, nt, tf, hX, hk, hB, hP, hR, hm, s1, s2, s3⟩ := h
  exact ⟨n, f, mm, g, q, l, ft, pl, x, c, nt, tf, hX, hk, hB, hP, hR, hm, s1, by omega, by omega⟩
theorem LI_X {B X m t : Nat} {σ : aS} (h : LI B σ X m t) : ∃ fs, σ.2.2 X = some (.inr (6, fs)) := by
  obtain ⟨n, f, mm, g, q, l, ft, pl, x, c, nt, tf, hX, -⟩ := h
  exact XS_cell hX
section Law
variable {G : aG} {K : Option Value → aS → Prop} {B X m t i : Nat} {σ : aS}
set_option maxHeartbeats 4000000 in
set_option maxRecDepth 100000 in
theorem law_116 (h : LI B σ X m t) (hL : G.2.2.2.2.2.2.1.2.1 ≤ 3072) (hi : i + 6 ≤ G.2.2.2.2.2.2.1.2.1) (hK : ∀ σ2, LI B σ2 X m (t + 1) → a_J G m_law 12 260 797 [(0, .ref G.2.2.2.2.2.2.1.1), (1, .ref X), (2, .ref m), (3, .int (nI i))] [] σ2 K) : a_J G m_law 12 260 116 [(0, .ref G.2.2.2.2.2.2.1.1), (1, .ref X), (2, .ref m), (3, .int (nI i))] [] σ K := by
  obtain ⟨fx, hx0⟩ := LI_X h
  refine a_aload_n d_L_law_116 rfl rfl ?_
  refine a_aload_n d_L_law_117 rfl rfl ?_
  refine a_iload_n d_L_law_118 rfl rfl ?_
  refine a_iconst (v := 1) d_L_law_119 (by decide) ?_
  refine a_iadd d_L_law_120 ?_
  refine a_sld d_L_law_121 (vin (c := 1) (by omega) hL) ?_
  refine a_i2l d_L_law_122 ?_
  refine a_bipush (v := 32) d_L_law_123 (by decide) ?_
  refine a_lshl d_L_law_125 ?_
  refine a_aload_n d_L_law_126 rfl rfl ?_
  refine a_iload_n d_L_law_127 rfl rfl ?_
  refine a_iconst (v := 2) d_L_law_128 (by decide) ?_
  refine a_iadd d_L_law_129 ?_
  refine a_sld d_L_law_130 (vin (c := 2) (by omega) hL) ?_
  refine a_i2l d_L_law_131 ?_
  refine a_ldc2 d_L_law_132 k_L_13 ?_
  refine a_land d_L_law_135 ?_
  refine a_lor d_L_law_136 ?_
  refine a_aload_n d_L_law_137 rfl rfl ?_
  refine a_iload_n d_L_law_138 rfl rfl ?_
  refine a_iconst (v := 3) d_L_law_139 (by decide) ?_
  refine a_iadd d_L_law_140 ?_
  refine a_sld d_L_law_141 (vin (c := 3) (by omega) hL) ?_
  apply a_callV (ci := 6) 2 46 [_, _] _ d_L_law_142 l_L_15 ⟨im_X_give, se_X_give⟩ rfl rfl rfl rfl (Nat.le_of_ble_eq_true rfl) ⟨Nat.le_of_ble_eq_true rfl, Nat.le_of_ble_eq_true rfl⟩
  · (first | exact hx0 | exact hm0)
  refine W_give h (fun τ v hmo hm => ?_)
  obtain ⟨fm, hm0⟩ := hmo
  refine a_aload_n d_L_law_145 rfl rfl ?_
  refine a_aload_n d_L_law_146 rfl rfl ?_
  refine a_iload_n d_L_law_147 rfl rfl ?_
  refine a_iconst (v := 1) d_L_law_148 (by decide) ?_
  refine a_iadd d_L_law_149 ?_
  refine a_sld d_L_law_150 (vin (c := 1) (by omega) hL) ?_
  refine a_i2l d_L_law_151 ?_
  refine a_bipush (v := 32) d_L_law_152 (by decide) ?_
  refine a_lshl d_L_law_154 ?_
  refine a_aload_n d_L_law_155 rfl rfl ?_
  refine a_iload_n d_L_law_156 rfl rfl ?_
  refine a_iconst (v := 2) d_L_law_157 (by decide) ?_
  refine a_iadd d_L_law_158 ?_
  refine a_sld d_L_law_159 (vin (c := 2) (by omega) hL) ?_
  refine a_i2l d_L_law_160 ?_
  refine a_ldc2 d_L_law_161 k_L_13 ?_
  refine a_land d_L_law_164 ?_
  refine a_lor d_L_law_165 ?_
  refine a_aload_n d_L_law_166 rfl rfl ?_
  refine a_iload_n d_L_law_167 rfl rfl ?_
  refine a_iconst (v := 3) d_L_law_168 (by decide) ?_
  refine a_iadd d_L_law_169 ?_
  refine a_sld d_L_law_170 (vin (c := 3) (by omega) hL) ?_
  apply a_callV (ci := 7) 0 0 [_, _] _ d_L_law_171 l_L_19 ⟨im_M_give, se_M_give⟩ rfl rfl rfl rfl (Nat.le_of_ble_eq_true rfl) ⟨Nat.le_of_ble_eq_true rfl, Nat.le_of_ble_eq_true rfl⟩
  · (first | exact hx0 | exact hm0)
  refine hm _ (fun σ2 h2 => ?_)
  refine a_icmp_eq (tgt := 797) d_L_law_174 (by decide) (fun c_1 => ?_) (fun n9 => absurd (rfl) n9)
  exact a_lvk (hK σ2 h2) ⟨rfl, rfl, rfl, rfl, trivial⟩

set_option maxHeartbeats 4000000 in
set_option maxRecDepth 100000 in
theorem law_179 (h : LI B σ X m t) (hL : G.2.2.2.2.2.2.1.2.1 ≤ 3072) (hi : i + 6 ≤ G.2.2.2.2.2.2.1.2.1) (hK : ∀ σ2, LI B σ2 X m (t + 1) → a_J G m_law 12 260 797 [(0, .ref G.2.2.2.2.2.2.1.1), (1, .ref X), (2, .ref m), (3, .int (nI i))] [] σ2 K) : a_J G m_law 12 260 179 [(0, .ref G.2.2.2.2.2.2.1.1), (1, .ref X), (2, .ref m), (3, .int (nI i))] [] σ K := by
  obtain ⟨fx, hx0⟩ := LI_X h
  refine a_aload_n d_L_law_179 rfl rfl ?_
  refine a_aload_n d_L_law_180 rfl rfl ?_
  refine a_iload_n d_L_law_181 rfl rfl ?_
  refine a_iconst (v := 1) d_L_law_182 (by decide) ?_
  refine a_iadd d_L_law_183 ?_
  refine a_sld d_L_law_184 (vin (c := 1) (by omega) hL) ?_
  apply a_callV (ci := 6) 1 21 [_] _ d_L_law_185 l_L_20 ⟨im_X_cut, se_X_cut⟩ rfl rfl rfl rfl (Nat.le_of_ble_eq_true rfl) ⟨Nat.le_of_ble_eq_true rfl, Nat.le_of_ble_eq_true rfl⟩
  · (first | exact hx0 | exact hm0)
  refine W_cut h (fun τ v hmo hm => ?_)
  obtain ⟨fm, hm0⟩ := hmo
  refine a_aload_n d_L_law_188 rfl rfl ?_
  refine a_aload_n d_L_law_189 rfl rfl ?_
  refine a_iload_n d_L_law_190 rfl rfl ?_
  refine a_iconst (v := 1) d_L_law_191 (by decide) ?_
  refine a_iadd d_L_law_192 ?_
  refine a_sld d_L_law_193 (vin (c := 1) (by omega) hL) ?_
  apply a_callV (ci := 7) 0 0 [_] _ d_L_law_194 l_L_24 ⟨im_M_cut, se_M_cut⟩ rfl rfl rfl rfl (Nat.le_of_ble_eq_true rfl) ⟨Nat.le_of_ble_eq_true rfl, Nat.le_of_ble_eq_true rfl⟩
  · (first | exact hx0 | exact hm0)
  refine hm _ (fun σ2 h2 => ?_)
  refine a_icmp_eq (tgt := 797) d_L_law_197 (by decide) (fun c_1 => ?_) (fun n9 => absurd (rfl) n9)
  exact a_lvk (hK σ2 h2) ⟨rfl, rfl, rfl, rfl, trivial⟩

set_option maxHeartbeats 4000000 in
set_option maxRecDepth 100000 in
theorem law_202 (h : LI B σ X m t) (hL : G.2.2.2.2.2.2.1.2.1 ≤ 3072) (hi : i + 6 ≤ G.2.2.2.2.2.2.1.2.1) (hK : ∀ σ2, LI B σ2 X m (t + 1) → a_J G m_law 12 260 797 [(0, .ref G.2.2.2.2.2.2.1.1), (1, .ref X), (2, .ref m), (3, .int (nI i))] [] σ2 K) : a_J G m_law 12 260 202 [(0, .ref G.2.2.2.2.2.2.1.1), (1, .ref X), (2, .ref m), (3, .int (nI i))] [] σ K := by
  obtain ⟨fx, hx0⟩ := LI_X h
  refine a_aload_n d_L_law_202 rfl rfl ?_
  refine a_aload_n d_L_law_203 rfl rfl ?_
  refine a_iload_n d_L_law_204 rfl rfl ?_
  refine a_iconst (v := 1) d_L_law_205 (by decide) ?_
  refine a_iadd d_L_law_206 ?_
  refine a_sld d_L_law_207 (vin (c := 1) (by omega) hL) ?_
  refine a_aload_n d_L_law_208 rfl rfl ?_
  refine a_iload_n d_L_law_209 rfl rfl ?_
  refine a_iconst (v := 2) d_L_law_210 (by decide) ?_
  refine a_iadd d_L_law_211 ?_
  refine a_sld d_L_law_212 (vin (c := 2) (by omega) hL) ?_
  apply a_callV (ci := 6) 1 25 [_, _] _ d_L_law_213 l_L_25 ⟨im_X_poke, se_X_poke⟩ rfl rfl rfl rfl (Nat.le_of_ble_eq_true rfl) ⟨Nat.le_of_ble_eq_true rfl, Nat.le_of_ble_eq_true rfl⟩
  · (first | exact hx0 | exact hm0)
  refine W_poke h (fun τ v hmo hm => ?_)
  obtain ⟨fm, hm0⟩ := hmo
  refine a_aload_n d_L_law_216 rfl rfl ?_
  refine a_aload_n d_L_law_217 rfl rfl ?_
  refine a_iload_n d_L_law_218 rfl rfl ?_
  refine a_iconst (v := 1) d_L_law_219 (by decide) ?_
  refine a_iadd d_L_law_220 ?_
  refine a_sld d_L_law_221 (vin (c := 1) (by omega) hL) ?_
  refine a_aload_n d_L_law_222 rfl rfl ?_
  refine a_iload_n d_L_law_223 rfl rfl ?_
  refine a_iconst (v := 2) d_L_law_224 (by decide) ?_
  refine a_iadd d_L_law_225 ?_
  refine a_sld d_L_law_226 (vin (c := 2) (by omega) hL) ?_
  apply a_callV (ci := 7) 0 0 [_, _] _ d_L_law_227 l_L_29 ⟨im_M_poke, se_M_poke⟩ rfl rfl rfl rfl (Nat.le_of_ble_eq_true rfl) ⟨Nat.le_of_ble_eq_true rfl, Nat.le_of_ble_eq_true rfl⟩
  · (first | exact hx0 | exact hm0)
  refine hm _ (fun σ2 h2 => ?_)
  refine a_icmp_eq (tgt := 797) d_L_law_230 (by decide) (fun c_1 => ?_) (fun n9 => absurd (rfl) n9)
  exact a_lvk (hK σ2 h2) ⟨rfl, rfl, rfl, rfl, trivial⟩

set_option maxHeartbeats 4000000 in
set_option maxRecDepth 100000 in
theorem law_235 (h : LI B σ X m t) (hL : G.2.2.2.2.2.2.1.2.1 ≤ 3072) (hi : i + 6 ≤ G.2.2.2.2.2.2.1.2.1) (hK : ∀ σ2, LI B σ2 X m (t + 1) → a_J G m_law 12 260 797 [(0, .ref G.2.2.2.2.2.2.1.1), (1, .ref X), (2, .ref m), (3, .int (nI i))] [] σ2 K) : a_J G m_law 12 260 235 [(0, .ref G.2.2.2.2.2.2.1.1), (1, .ref X), (2, .ref m), (3, .int (nI i))] [] σ K := by
  obtain ⟨fx, hx0⟩ := LI_X h
  refine a_aload_n d_L_law_235 rfl rfl ?_
  apply a_callV (ci := 6) 9 195 [] _ d_L_law_236 l_L_30 ⟨im_X_read, se_X_read⟩ rfl rfl rfl rfl (Nat.le_of_ble_eq_true rfl) ⟨Nat.le_of_ble_eq_true rfl, Nat.le_of_ble_eq_true rfl⟩
  · (first | exact hx0 | exact hm0)
  refine W_read h (fun τ v hmo hm => ?_)
  obtain ⟨fm, hm0⟩ := hmo
  refine a_aload_n d_L_law_239 rfl rfl ?_
  apply a_callV (ci := 7) 11 238 [] _ d_L_law_240 l_L_34 ⟨im_M_read, se_M_read⟩ rfl rfl rfl rfl (Nat.le_of_ble_eq_true rfl) ⟨Nat.le_of_ble_eq_true rfl, Nat.le_of_ble_eq_true rfl⟩
  · (first | exact hx0 | exact hm0)
  refine hm _ (fun σ2 h2 => ?_)
  refine a_icmp_eq (tgt := 797) d_L_law_243 (by decide) (fun c_1 => ?_) (fun n9 => absurd (rfl) n9)
  exact a_lvk (hK σ2 h2) ⟨rfl, rfl, rfl, rfl, trivial⟩

set_option maxHeartbeats 4000000 in
set_option maxRecDepth 100000 in
theorem law_248 (h : LI B σ X m t) (hL : G.2.2.2.2.2.2.1.2.1 ≤ 3072) (hi : i + 6 ≤ G.2.2.2.2.2.2.1.2.1) (hK : ∀ σ2, LI B σ2 X m (t + 1) → a_J G m_law 12 260 797 [(0, .ref G.2.2.2.2.2.2.1.1), (1, .ref X), (2, .ref m), (3, .int (nI i))] [] σ2 K) : a_J G m_law 12 260 248 [(0, .ref G.2.2.2.2.2.2.1.1), (1, .ref X), (2, .ref m), (3, .int (nI i))] [] σ K := by
  obtain ⟨fx, hx0⟩ := LI_X h
  refine a_aload_n d_L_law_248 rfl rfl ?_
  apply a_callV (ci := 6) 8 181 [] _ d_L_law_249 l_L_35 ⟨im_X_print, se_X_print⟩ rfl rfl rfl rfl (Nat.le_of_ble_eq_true rfl) ⟨Nat.le_of_ble_eq_true rfl, Nat.le_of_ble_eq_true rfl⟩
  · (first | exact hx0 | exact hm0)
  refine W_print h (fun τ v hmo hm => ?_)
  obtain ⟨fm, hm0⟩ := hmo
  refine a_aload_n d_L_law_252 rfl rfl ?_
  apply a_callV (ci := 7) 6 131 [] _ d_L_law_253 l_L_38 ⟨im_M_print, se_M_print⟩ rfl rfl rfl rfl (Nat.le_of_ble_eq_true rfl) ⟨Nat.le_of_ble_eq_true rfl, Nat.le_of_ble_eq_true rfl⟩
  · (first | exact hx0 | exact hm0)
  refine hm _ (fun σ2 h2 => ?_)
  refine a_icmp_eq (tgt := 797) d_L_law_256 (by decide) (fun c_1 => ?_) (fun n9 => absurd (rfl) n9)
  exact a_lvk (hK σ2 h2) ⟨rfl, rfl, rfl, rfl, trivial⟩

set_option maxHeartbeats 4000000 in
set_option maxRecDepth 100000 in
theorem law_261 (h : LI B σ X m t) (hL : G.2.2.2.2.2.2.1.2.1 ≤ 3072) (hi : i + 6 ≤ G.2.2.2.2.2.2.1.2.1) (hK : ∀ σ2, LI B σ2 X m (t + 1) → a_J G m_law 12 260 797 [(0, .ref G.2.2.2.2.2.2.1.1), (1, .ref X), (2, .ref m), (3, .int (nI i))] [] σ2 K) : a_J G m_law 12 260 261 [(0, .ref G.2.2.2.2.2.2.1.1), (1, .ref X), (2, .ref m), (3, .int (nI i))] [] σ K := by
  obtain ⟨fx, hx0⟩ := LI_X h
  refine a_aload_n d_L_law_261 rfl rfl ?_
  apply a_callV (ci := 6) 2 64 [] _ d_L_law_262 l_L_39 ⟨im_X_turnOver, se_X_turnOver⟩ rfl rfl rfl rfl (Nat.le_of_ble_eq_true rfl) ⟨Nat.le_of_ble_eq_true rfl, Nat.le_of_ble_eq_true rfl⟩
  · (first | exact hx0 | exact hm0)
  refine W_turnOver h (fun τ v hmo hm => ?_)
  obtain ⟨fm, hm0⟩ := hmo
  refine a_aload_n d_L_law_265 rfl rfl ?_
  apply a_callV (ci := 7) 0 0 [] _ d_L_law_266 l_L_43 ⟨im_M_turnOver, se_M_turnOver⟩ rfl rfl rfl rfl (Nat.le_of_ble_eq_true rfl) ⟨Nat.le_of_ble_eq_true rfl, Nat.le_of_ble_eq_true rfl⟩
  · (first | exact hx0 | exact hm0)
  refine hm _ (fun σ2 h2 => ?_)
  refine a_icmp_eq (tgt := 797) d_L_law_269 (by decide) (fun c_1 => ?_) (fun n9 => absurd (rfl) n9)
  exact a_lvk (hK σ2 h2) ⟨rfl, rfl, rfl, rfl, trivial⟩

set_option maxHeartbeats 4000000 in
set_option maxRecDepth 100000 in
theorem law_274 (h : LI B σ X m t) (hL : G.2.2.2.2.2.2.1.2.1 ≤ 3072) (hi : i + 6 ≤ G.2.2.2.2.2.2.1.2.1) (hK : ∀ σ2, LI B σ2 X m (t + 1) → a_J G m_law 12 260 797 [(0, .ref G.2.2.2.2.2.2.1.1), (1, .ref X), (2, .ref m), (3, .int (nI i))] [] σ2 K) : a_J G m_law 12 260 274 [(0, .ref G.2.2.2.2.2.2.1.1), (1, .ref X), (2, .ref m), (3, .int (nI i))] [] σ K := by
  obtain ⟨fx, hx0⟩ := LI_X h
  refine a_aload_n d_L_law_274 rfl rfl ?_
  refine a_aload_n d_L_law_275 rfl rfl ?_
  refine a_iload_n d_L_law_276 rfl rfl ?_
  refine a_iconst (v := 1) d_L_law_277 (by decide) ?_
  refine a_iadd d_L_law_278 ?_
  refine a_sld d_L_law_279 (vin (c := 1) (by omega) hL) ?_
  refine a_aload_n d_L_law_280 rfl rfl ?_
  refine a_iload_n d_L_law_281 rfl rfl ?_
  refine a_iconst (v := 2) d_L_law_282 (by decide) ?_
  refine a_iadd d_L_law_283 ?_
  refine a_sld d_L_law_284 (vin (c := 2) (by omega) hL) ?_
  apply a_callV (ci := 6) 2 45 [_, _] _ d_L_law_285 l_L_44 ⟨im_X_stand, se_X_stand⟩ rfl rfl rfl rfl (Nat.le_of_ble_eq_true rfl) ⟨Nat.le_of_ble_eq_true rfl, Nat.le_of_ble_eq_true rfl⟩
  · (first | exact hx0 | exact hm0)
  refine W_stand h (fun τ v hmo hm => ?_)
  obtain ⟨fm, hm0⟩ := hmo
  refine a_aload_n d_L_law_288 rfl rfl ?_
  refine a_aload_n d_L_law_289 rfl rfl ?_
  refine a_iload_n d_L_law_290 rfl rfl ?_
  refine a_iconst (v := 1) d_L_law_291 (by decide) ?_
  refine a_iadd d_L_law_292 ?_
  refine a_sld d_L_law_293 (vin (c := 1) (by omega) hL) ?_
  refine a_aload_n d_L_law_294 rfl rfl ?_
  refine a_iload_n d_L_law_295 rfl rfl ?_
  refine a_iconst (v := 2) d_L_law_296 (by decide) ?_
  refine a_iadd d_L_law_297 ?_
  refine a_sld d_L_law_298 (vin (c := 2) (by omega) hL) ?_
  apply a_callV (ci := 7) 0 0 [_, _] _ d_L_law_299 l_L_47 ⟨im_M_stand, se_M_stand⟩ rfl rfl rfl rfl (Nat.le_of_ble_eq_true rfl) ⟨Nat.le_of_ble_eq_true rfl, Nat.le_of_ble_eq_true rfl⟩
  · (first | exact hx0 | exact hm0)
  refine hm _ (fun σ2 h2 => ?_)
  refine a_icmp_eq (tgt := 797) d_L_law_302 (by decide) (fun c_1 => ?_) (fun n9 => absurd (rfl) n9)
  exact a_lvk (hK σ2 h2) ⟨rfl, rfl, rfl, rfl, trivial⟩

set_option maxHeartbeats 4000000 in
set_option maxRecDepth 100000 in
theorem law_307 (h : LI B σ X m t) (hL : G.2.2.2.2.2.2.1.2.1 ≤ 3072) (hi : i + 6 ≤ G.2.2.2.2.2.2.1.2.1) (hK : ∀ σ2, LI B σ2 X m (t + 1) → a_J G m_law 12 260 797 [(0, .ref G.2.2.2.2.2.2.1.1), (1, .ref X), (2, .ref m), (3, .int (nI i))] [] σ2 K) : a_J G m_law 12 260 307 [(0, .ref G.2.2.2.2.2.2.1.1), (1, .ref X), (2, .ref m), (3, .int (nI i))] [] σ K := by
  obtain ⟨fx, hx0⟩ := LI_X h
  refine a_aload_n d_L_law_307 rfl rfl ?_
  refine a_aload_n d_L_law_308 rfl rfl ?_
  refine a_iload_n d_L_law_309 rfl rfl ?_
  refine a_iconst (v := 1) d_L_law_310 (by decide) ?_
  refine a_iadd d_L_law_311 ?_
  refine a_sld d_L_law_312 (vin (c := 1) (by omega) hL) ?_
  refine a_aload_n d_L_law_313 rfl rfl ?_
  refine a_iload_n d_L_law_314 rfl rfl ?_
  refine a_iconst (v := 2) d_L_law_315 (by decide) ?_
  refine a_iadd d_L_law_316 ?_
  refine a_sld d_L_law_317 (vin (c := 2) (by omega) hL) ?_
  apply a_callV (ci := 6) 2 46 [_, _] _ d_L_law_318 l_L_48 ⟨im_X_counter, se_X_counter⟩ rfl rfl rfl rfl (Nat.le_of_ble_eq_true rfl) ⟨Nat.le_of_ble_eq_true rfl, Nat.le_of_ble_eq_true rfl⟩
  · (first | exact hx0 | exact hm0)
  refine W_counter h (fun τ v hmo hm => ?_)
  obtain ⟨fm, hm0⟩ := hmo
  refine a_aload_n d_L_law_321 rfl rfl ?_
  refine a_aload_n d_L_law_322 rfl rfl ?_
  refine a_iload_n d_L_law_323 rfl rfl ?_
  refine a_iconst (v := 1) d_L_law_324 (by decide) ?_
  refine a_iadd d_L_law_325 ?_
  refine a_sld d_L_law_326 (vin (c := 1) (by omega) hL) ?_
  refine a_aload_n d_L_law_327 rfl rfl ?_
  refine a_iload_n d_L_law_328 rfl rfl ?_
  refine a_iconst (v := 2) d_L_law_329 (by decide) ?_
  refine a_iadd d_L_law_330 ?_
  refine a_sld d_L_law_331 (vin (c := 2) (by omega) hL) ?_
  apply a_callV (ci := 7) 2 48 [_, _] _ d_L_law_332 l_L_52 ⟨im_M_counter, se_M_counter⟩ rfl rfl rfl rfl (Nat.le_of_ble_eq_true rfl) ⟨Nat.le_of_ble_eq_true rfl, Nat.le_of_ble_eq_true rfl⟩
  · (first | exact hx0 | exact hm0)
  refine hm _ (fun σ2 h2 => ?_)
  refine a_icmp_eq (tgt := 797) d_L_law_335 (by decide) (fun c_1 => ?_) (fun n9 => absurd (rfl) n9)
  exact a_lvk (hK σ2 h2) ⟨rfl, rfl, rfl, rfl, trivial⟩

set_option maxHeartbeats 4000000 in
set_option maxRecDepth 100000 in
theorem law_340 (h : LI B σ X m t) (hL : G.2.2.2.2.2.2.1.2.1 ≤ 3072) (hi : i + 6 ≤ G.2.2.2.2.2.2.1.2.1) (hK : ∀ σ2, LI B σ2 X m (t + 1) → a_J G m_law 12 260 797 [(0, .ref G.2.2.2.2.2.2.1.1), (1, .ref X), (2, .ref m), (3, .int (nI i))] [] σ2 K) : a_J G m_law 12 260 340 [(0, .ref G.2.2.2.2.2.2.1.1), (1, .ref X), (2, .ref m), (3, .int (nI i))] [] σ K := by
  obtain ⟨fx, hx0⟩ := LI_X h
  refine a_aload_n d_L_law_340 rfl rfl ?_
  refine a_aload_n d_L_law_341 rfl rfl ?_
  refine a_iload_n d_L_law_342 rfl rfl ?_
  refine a_iconst (v := 1) d_L_law_343 (by decide) ?_
  refine a_iadd d_L_law_344 ?_
  refine a_sld d_L_law_345 (vin (c := 1) (by omega) hL) ?_
  refine a_aload_n d_L_law_346 rfl rfl ?_
  refine a_iload_n d_L_law_347 rfl rfl ?_
  refine a_iconst (v := 2) d_L_law_348 (by decide) ?_
  refine a_iadd d_L_law_349 ?_
  refine a_sld d_L_law_350 (vin (c := 2) (by omega) hL) ?_
  apply a_callV (ci := 6) 2 46 [_, _] _ d_L_law_351 l_L_53 ⟨im_X_node, se_X_node⟩ rfl rfl rfl rfl (Nat.le_of_ble_eq_true rfl) ⟨Nat.le_of_ble_eq_true rfl, Nat.le_of_ble_eq_true rfl⟩
  · (first | exact hx0 | exact hm0)
  refine W_node h (fun τ v hmo hm => ?_)
  obtain ⟨fm, hm0⟩ := hmo
  refine a_aload_n d_L_law_354 rfl rfl ?_
  refine a_aload_n d_L_law_355 rfl rfl ?_
  refine a_iload_n d_L_law_356 rfl rfl ?_
  refine a_iconst (v := 1) d_L_law_357 (by decide) ?_
  refine a_iadd d_L_law_358 ?_
  refine a_sld d_L_law_359 (vin (c := 1) (by omega) hL) ?_
  refine a_aload_n d_L_law_360 rfl rfl ?_
  refine a_iload_n d_L_law_361 rfl rfl ?_
  refine a_iconst (v := 2) d_L_law_362 (by decide) ?_
  refine a_iadd d_L_law_363 ?_
  refine a_sld d_L_law_364 (vin (c := 2) (by omega) hL) ?_
  apply a_callV (ci := 7) 2 48 [_, _] _ d_L_law_365 l_L_56 ⟨im_M_node, se_M_node⟩ rfl rfl rfl rfl (Nat.le_of_ble_eq_true rfl) ⟨Nat.le_of_ble_eq_true rfl, Nat.le_of_ble_eq_true rfl⟩
  · (first | exact hx0 | exact hm0)
  refine hm _ (fun σ2 h2 => ?_)
  refine a_icmp_eq (tgt := 797) d_L_law_368 (by decide) (fun c_1 => ?_) (fun n9 => absurd (rfl) n9)
  exact a_lvk (hK σ2 h2) ⟨rfl, rfl, rfl, rfl, trivial⟩

set_option maxHeartbeats 4000000 in
set_option maxRecDepth 100000 in
theorem law_373 (h : LI B σ X m t) (hL : G.2.2.2.2.2.2.1.2.1 ≤ 3072) (hi : i + 6 ≤ G.2.2.2.2.2.2.1.2.1) (hK : ∀ σ2, LI B σ2 X m (t + 1) → a_J G m_law 12 260 797 [(0, .ref G.2.2.2.2.2.2.1.1), (1, .ref X), (2, .ref m), (3, .int (nI i))] [] σ2 K) : a_J G m_law 12 260 373 [(0, .ref G.2.2.2.2.2.2.1.1), (1, .ref X), (2, .ref m), (3, .int (nI i))] [] σ K := by
  obtain ⟨fx, hx0⟩ := LI_X h
  refine a_aload_n d_L_law_373 rfl rfl ?_
  refine a_aload_n d_L_law_374 rfl rfl ?_
  refine a_iload_n d_L_law_375 rfl rfl ?_
  refine a_iconst (v := 1) d_L_law_376 (by decide) ?_
  refine a_iadd d_L_law_377 ?_
  refine a_sld d_L_law_378 (vin (c := 1) (by omega) hL) ?_
  refine a_if_eq (tgt := 386) d_L_law_379 (by decide) (fun c_1 => ?_) (fun c_1 => ?_)
  · refine a_iconst (v := 0) d_L_law_386 (by decide) ?_
    refine a_aload_n d_L_law_387 rfl rfl ?_
    refine a_iload_n d_L_law_388 rfl rfl ?_
    refine a_iconst (v := 2) d_L_law_389 (by decide) ?_
    refine a_iadd d_L_law_390 ?_
    refine a_sld d_L_law_391 (vin (c := 2) (by omega) hL) ?_
    refine a_aload_n d_L_law_392 rfl rfl ?_
    refine a_iload_n d_L_law_393 rfl rfl ?_
    refine a_iconst (v := 3) d_L_law_394 (by decide) ?_
    refine a_iadd d_L_law_395 ?_
    refine a_sld d_L_law_396 (vin (c := 3) (by omega) hL) ?_
    refine a_aload_n d_L_law_397 rfl rfl ?_
    refine a_iload_n d_L_law_398 rfl rfl ?_
    refine a_iconst (v := 4) d_L_law_399 (by decide) ?_
    refine a_iadd d_L_law_400 ?_
    refine a_sld d_L_law_401 (vin (c := 4) (by omega) hL) ?_
    apply a_callV (ci := 6) 3 71 [_, _, _, _] _ d_L_law_402 l_L_57 ⟨im_X_clause, se_X_clause⟩ rfl rfl rfl rfl (Nat.le_of_ble_eq_true rfl) ⟨Nat.le_of_ble_eq_true rfl, Nat.le_of_ble_eq_true rfl⟩
    · (first | exact hx0 | exact hm0)
    refine W_clause h (fun τ v hmo hm => ?_)
    obtain ⟨fm, hm0⟩ := hmo
    refine a_aload_n d_L_law_405 rfl rfl ?_
    refine a_aload_n d_L_law_406 rfl rfl ?_
    refine a_iload_n d_L_law_407 rfl rfl ?_
    refine a_iconst (v := 1) d_L_law_408 (by decide) ?_
    refine a_iadd d_L_law_409 ?_
    refine a_sld d_L_law_410 (vin (c := 1) (by omega) hL) ?_
    refine a_if_eq (tgt := 418) d_L_law_411 (by decide) (fun c_2 => ?_) (fun n9 => absurd (by assumption) n9)
    refine a_iconst (v := 0) d_L_law_418 (by decide) ?_
    refine a_aload_n d_L_law_419 rfl rfl ?_
    refine a_iload_n d_L_law_420 rfl rfl ?_
    refine a_iconst (v := 2) d_L_law_421 (by decide) ?_
    refine a_iadd d_L_law_422 ?_
    refine a_sld d_L_law_423 (vin (c := 2) (by omega) hL) ?_
    refine a_aload_n d_L_law_424 rfl rfl ?_
    refine a_iload_n d_L_law_425 rfl rfl ?_
    refine a_iconst (v := 3) d_L_law_426 (by decide) ?_
    refine a_iadd d_L_law_427 ?_
    refine a_sld d_L_law_428 (vin (c := 3) (by omega) hL) ?_
    refine a_aload_n d_L_law_429 rfl rfl ?_
    refine a_iload_n d_L_law_430 rfl rfl ?_
    refine a_iconst (v := 4) d_L_law_431 (by decide) ?_
    refine a_iadd d_L_law_432 ?_
    refine a_sld d_L_law_433 (vin (c := 4) (by omega) hL) ?_
    apply a_callV (ci := 7) 1 25 [_, _, _, _] _ d_L_law_434 l_L_61 ⟨im_M_clause, se_M_clause⟩ rfl rfl rfl rfl (Nat.le_of_ble_eq_true rfl) ⟨Nat.le_of_ble_eq_true rfl, Nat.le_of_ble_eq_true rfl⟩
    · (first | exact hx0 | exact hm0)
    refine hm _ (fun σ2 h2 => ?_)
    refine a_icmp_eq (tgt := 797) d_L_law_437 (by decide) (fun c_3 => ?_) (fun n9 => absurd (rfl) n9)
    exact a_lvk (hK σ2 h2) ⟨rfl, rfl, rfl, rfl, trivial⟩
  · refine a_iconst (v := 1) d_L_law_382 (by decide) ?_
    refine a_goto (tgt := 387) d_L_law_383 (by decide) ?_
    refine a_aload_n d_L_law_387 rfl rfl ?_
    refine a_iload_n d_L_law_388 rfl rfl ?_
    refine a_iconst (v := 2) d_L_law_389 (by decide) ?_
    refine a_iadd d_L_law_390 ?_
    refine a_sld d_L_law_391 (vin (c := 2) (by omega) hL) ?_
    refine a_aload_n d_L_law_392 rfl rfl ?_
    refine a_iload_n d_L_law_393 rfl rfl ?_
    refine a_iconst (v := 3) d_L_law_394 (by decide) ?_
    refine a_iadd d_L_law_395 ?_
    refine a_sld d_L_law_396 (vin (c := 3) (by omega) hL) ?_
    refine a_aload_n d_L_law_397 rfl rfl ?_
    refine a_iload_n d_L_law_398 rfl rfl ?_
    refine a_iconst (v := 4) d_L_law_399 (by decide) ?_
    refine a_iadd d_L_law_400 ?_
    refine a_sld d_L_law_401 (vin (c := 4) (by omega) hL) ?_
    apply a_callV (ci := 6) 3 71 [_, _, _, _] _ d_L_law_402 l_L_57 ⟨im_X_clause, se_X_clause⟩ rfl rfl rfl rfl (Nat.le_of_ble_eq_true rfl) ⟨Nat.le_of_ble_eq_true rfl, Nat.le_of_ble_eq_true rfl⟩
    · (first | exact hx0 | exact hm0)
    refine W_clause h (fun τ v hmo hm => ?_)
    obtain ⟨fm, hm0⟩ := hmo
    refine a_aload_n d_L_law_405 rfl rfl ?_
    refine a_aload_n d_L_law_406 rfl rfl ?_
    refine a_iload_n d_L_law_407 rfl rfl ?_
    refine a_iconst (v := 1) d_L_law_408 (by decide) ?_
    refine a_iadd d_L_law_409 ?_
    refine a_sld d_L_law_410 (vin (c := 1) (by omega) hL) ?_
    refine a_if_eq (tgt := 418) d_L_law_411 (by decide) (fun n9 => absurd n9 (by assumption)) (fun c_4 => ?_)
    refine a_iconst (v := 1) d_L_law_414 (by decide) ?_
    refine a_goto (tgt := 419) d_L_law_415 (by decide) ?_
    refine a_aload_n d_L_law_419 rfl rfl ?_
    refine a_iload_n d_L_law_420 rfl rfl ?_
    refine a_iconst (v := 2) d_L_law_421 (by decide) ?_
    refine a_iadd d_L_law_422 ?_
    refine a_sld d_L_law_423 (vin (c := 2) (by omega) hL) ?_
    refine a_aload_n d_L_law_424 rfl rfl ?_
    refine a_iload_n d_L_law_425 rfl rfl ?_
    refine a_iconst (v := 3) d_L_law_426 (by decide) ?_
    refine a_iadd d_L_law_427 ?_
    refine a_sld d_L_law_428 (vin (c := 3) (by omega) hL) ?_
    refine a_aload_n d_L_law_429 rfl rfl ?_
    refine a_iload_n d_L_law_430 rfl rfl ?_
    refine a_iconst (v := 4) d_L_law_431 (by decide) ?_
    refine a_iadd d_L_law_432 ?_
    refine a_sld d_L_law_433 (vin (c := 4) (by omega) hL) ?_
    apply a_callV (ci := 7) 1 25 [_, _, _, _] _ d_L_law_434 l_L_61 ⟨im_M_clause, se_M_clause⟩ rfl rfl rfl rfl (Nat.le_of_ble_eq_true rfl) ⟨Nat.le_of_ble_eq_true rfl, Nat.le_of_ble_eq_true rfl⟩
    · (first | exact hx0 | exact hm0)
    refine hm _ (fun σ2 h2 => ?_)
    refine a_icmp_eq (tgt := 797) d_L_law_437 (by decide) (fun c_5 => ?_) (fun n9 => absurd (rfl) n9)
    exact a_lvk (hK σ2 h2) ⟨rfl, rfl, rfl, rfl, trivial⟩

set_option maxHeartbeats 4000000 in
set_option maxRecDepth 100000 in
theorem law_442 (h : LI B σ X m t) (hL : G.2.2.2.2.2.2.1.2.1 ≤ 3072) (hi : i + 6 ≤ G.2.2.2.2.2.2.1.2.1) (hK : ∀ σ2, LI B σ2 X m (t + 1) → a_J G m_law 12 260 797 [(0, .ref G.2.2.2.2.2.2.1.1), (1, .ref X), (2, .ref m), (3, .int (nI i))] [] σ2 K) : a_J G m_law 12 260 442 [(0, .ref G.2.2.2.2.2.2.1.1), (1, .ref X), (2, .ref m), (3, .int (nI i))] [] σ K := by
  obtain ⟨fx, hx0⟩ := LI_X h
  refine a_aload_n d_L_law_442 rfl rfl ?_
  refine a_aload_n d_L_law_443 rfl rfl ?_
  refine a_iload_n d_L_law_444 rfl rfl ?_
  refine a_iconst (v := 1) d_L_law_445 (by decide) ?_
  refine a_iadd d_L_law_446 ?_
  refine a_sld d_L_law_447 (vin (c := 1) (by omega) hL) ?_
  refine a_if_eq (tgt := 455) d_L_law_448 (by decide) (fun c_1 => ?_) (fun c_1 => ?_)
  · refine a_iconst (v := 0) d_L_law_455 (by decide) ?_
    refine a_aload_n d_L_law_456 rfl rfl ?_
    refine a_iload_n d_L_law_457 rfl rfl ?_
    refine a_iconst (v := 2) d_L_law_458 (by decide) ?_
    refine a_iadd d_L_law_459 ?_
    refine a_sld d_L_law_460 (vin (c := 2) (by omega) hL) ?_
    refine a_aload_n d_L_law_461 rfl rfl ?_
    refine a_iload_n d_L_law_462 rfl rfl ?_
    refine a_iconst (v := 3) d_L_law_463 (by decide) ?_
    refine a_iadd d_L_law_464 ?_
    refine a_sld d_L_law_465 (vin (c := 3) (by omega) hL) ?_
    refine a_aload_n d_L_law_466 rfl rfl ?_
    refine a_iload_n d_L_law_467 rfl rfl ?_
    refine a_iconst (v := 4) d_L_law_468 (by decide) ?_
    refine a_iadd d_L_law_469 ?_
    refine a_sld d_L_law_470 (vin (c := 4) (by omega) hL) ?_
    refine a_aload_n d_L_law_471 rfl rfl ?_
    refine a_iload_n d_L_law_472 rfl rfl ?_
    refine a_iconst (v := 5) d_L_law_473 (by decide) ?_
    refine a_iadd d_L_law_474 ?_
    refine a_sld d_L_law_475 (vin (c := 5) (by omega) hL) ?_
    apply a_callV (ci := 6) 3 71 [_, _, _, _, _] _ d_L_law_476 l_L_62 ⟨im_X_test, se_X_test⟩ rfl rfl rfl rfl (Nat.le_of_ble_eq_true rfl) ⟨Nat.le_of_ble_eq_true rfl, Nat.le_of_ble_eq_true rfl⟩
    · (first | exact hx0 | exact hm0)
    refine W_test h (fun τ v hmo hm => ?_)
    obtain ⟨fm, hm0⟩ := hmo
    refine a_aload_n d_L_law_479 rfl rfl ?_
    refine a_aload_n d_L_law_480 rfl rfl ?_
    refine a_iload_n d_L_law_481 rfl rfl ?_
    refine a_iconst (v := 1) d_L_law_482 (by decide) ?_
    refine a_iadd d_L_law_483 ?_
    refine a_sld d_L_law_484 (vin (c := 1) (by omega) hL) ?_
    refine a_if_eq (tgt := 492) d_L_law_485 (by decide) (fun c_2 => ?_) (fun n9 => absurd (by assumption) n9)
    refine a_iconst (v := 0) d_L_law_492 (by decide) ?_
    refine a_aload_n d_L_law_493 rfl rfl ?_
    refine a_iload_n d_L_law_494 rfl rfl ?_
    refine a_iconst (v := 2) d_L_law_495 (by decide) ?_
    refine a_iadd d_L_law_496 ?_
    refine a_sld d_L_law_497 (vin (c := 2) (by omega) hL) ?_
    refine a_aload_n d_L_law_498 rfl rfl ?_
    refine a_iload_n d_L_law_499 rfl rfl ?_
    refine a_iconst (v := 3) d_L_law_500 (by decide) ?_
    refine a_iadd d_L_law_501 ?_
    refine a_sld d_L_law_502 (vin (c := 3) (by omega) hL) ?_
    refine a_aload_n d_L_law_503 rfl rfl ?_
    refine a_iload_n d_L_law_504 rfl rfl ?_
    refine a_iconst (v := 4) d_L_law_505 (by decide) ?_
    refine a_iadd d_L_law_506 ?_
    refine a_sld d_L_law_507 (vin (c := 4) (by omega) hL) ?_
    refine a_aload_n d_L_law_508 rfl rfl ?_
    refine a_iload_n d_L_law_509 rfl rfl ?_
    refine a_iconst (v := 5) d_L_law_510 (by decide) ?_
    refine a_iadd d_L_law_511 ?_
    refine a_sld d_L_law_512 (vin (c := 5) (by omega) hL) ?_
    apply a_callV (ci := 7) 2 50 [_, _, _, _, _] _ d_L_law_513 l_L_66 ⟨im_M_test, se_M_test⟩ rfl rfl rfl rfl (Nat.le_of_ble_eq_true rfl) ⟨Nat.le_of_ble_eq_true rfl, Nat.le_of_ble_eq_true rfl⟩
    · (first | exact hx0 | exact hm0)
    refine hm _ (fun σ2 h2 => ?_)
    refine a_icmp_eq (tgt := 797) d_L_law_516 (by decide) (fun c_3 => ?_) (fun n9 => absurd (rfl) n9)
    exact a_lvk (hK σ2 h2) ⟨rfl, rfl, rfl, rfl, trivial⟩
  · refine a_iconst (v := 1) d_L_law_451 (by decide) ?_
    refine a_goto (tgt := 456) d_L_law_452 (by decide) ?_
    refine a_aload_n d_L_law_456 rfl rfl ?_
    refine a_iload_n d_L_law_457 rfl rfl ?_
    refine a_iconst (v := 2) d_L_law_458 (by decide) ?_
    refine a_iadd d_L_law_459 ?_
    refine a_sld d_L_law_460 (vin (c := 2) (by omega) hL) ?_
    refine a_aload_n d_L_law_461 rfl rfl ?_
    refine a_iload_n d_L_law_462 rfl rfl ?_
    refine a_iconst (v := 3) d_L_law_463 (by decide) ?_
    refine a_iadd d_L_law_464 ?_
    refine a_sld d_L_law_465 (vin (c := 3) (by omega) hL) ?_
    refine a_aload_n d_L_law_466 rfl rfl ?_
    refine a_iload_n d_L_law_467 rfl rfl ?_
    refine a_iconst (v := 4) d_L_law_468 (by decide) ?_
    refine a_iadd d_L_law_469 ?_
    refine a_sld d_L_law_470 (vin (c := 4) (by omega) hL) ?_
    refine a_aload_n d_L_law_471 rfl rfl ?_
    refine a_iload_n d_L_law_472 rfl rfl ?_
    refine a_iconst (v := 5) d_L_law_473 (by decide) ?_
    refine a_iadd d_L_law_474 ?_
    refine a_sld d_L_law_475 (vin (c := 5) (by omega) hL) ?_
    apply a_callV (ci := 6) 3 71 [_, _, _, _, _] _ d_L_law_476 l_L_62 ⟨im_X_test, se_X_test⟩ rfl rfl rfl rfl (Nat.le_of_ble_eq_true rfl) ⟨Nat.le_of_ble_eq_true rfl, Nat.le_of_ble_eq_true rfl⟩
    · (first | exact hx0 | exact hm0)
    refine W_test h (fun τ v hmo hm => ?_)
    obtain ⟨fm, hm0⟩ := hmo
    refine a_aload_n d_L_law_479 rfl rfl ?_
    refine a_aload_n d_L_law_480 rfl rfl ?_
    refine a_iload_n d_L_law_481 rfl rfl ?_
    refine a_iconst (v := 1) d_L_law_482 (by decide) ?_
    refine a_iadd d_L_law_483 ?_
    refine a_sld d_L_law_484 (vin (c := 1) (by omega) hL) ?_
    refine a_if_eq (tgt := 492) d_L_law_485 (by decide) (fun n9 => absurd n9 (by assumption)) (fun c_4 => ?_)
    refine a_iconst (v := 1) d_L_law_488 (by decide) ?_
    refine a_goto (tgt := 493) d_L_law_489 (by decide) ?_
    refine a_aload_n d_L_law_493 rfl rfl ?_
    refine a_iload_n d_L_law_494 rfl rfl ?_
    refine a_iconst (v := 2) d_L_law_495 (by decide) ?_
    refine a_iadd d_L_law_496 ?_
    refine a_sld d_L_law_497 (vin (c := 2) (by omega) hL) ?_
    refine a_aload_n d_L_law_498 rfl rfl ?_
    refine a_iload_n d_L_law_499 rfl rfl ?_
    refine a_iconst (v := 3) d_L_law_500 (by decide) ?_
    refine a_iadd d_L_law_501 ?_
    refine a_sld d_L_law_502 (vin (c := 3) (by omega) hL) ?_
    refine a_aload_n d_L_law_503 rfl rfl ?_
    refine a_iload_n d_L_law_504 rfl rfl ?_
    refine a_iconst (v := 4) d_L_law_505 (by decide) ?_
    refine a_iadd d_L_law_506 ?_
    refine a_sld d_L_law_507 (vin (c := 4) (by omega) hL) ?_
    refine a_aload_n d_L_law_508 rfl rfl ?_
    refine a_iload_n d_L_law_509 rfl rfl ?_
    refine a_iconst (v := 5) d_L_law_510 (by decide) ?_
    refine a_iadd d_L_law_511 ?_
    refine a_sld d_L_law_512 (vin (c := 5) (by omega) hL) ?_
    apply a_callV (ci := 7) 2 50 [_, _, _, _, _] _ d_L_law_513 l_L_66 ⟨im_M_test, se_M_test⟩ rfl rfl rfl rfl (Nat.le_of_ble_eq_true rfl) ⟨Nat.le_of_ble_eq_true rfl, Nat.le_of_ble_eq_true rfl⟩
    · (first | exact hx0 | exact hm0)
    refine hm _ (fun σ2 h2 => ?_)
    refine a_icmp_eq (tgt := 797) d_L_law_516 (by decide) (fun c_5 => ?_) (fun n9 => absurd (rfl) n9)
    exact a_lvk (hK σ2 h2) ⟨rfl, rfl, rfl, rfl, trivial⟩

set_option maxHeartbeats 4000000 in
set_option maxRecDepth 100000 in
theorem law_521 (h : LI B σ X m t) (hL : G.2.2.2.2.2.2.1.2.1 ≤ 3072) (hi : i + 6 ≤ G.2.2.2.2.2.2.1.2.1) (hK : ∀ σ2, LI B σ2 X m (t + 1) → a_J G m_law 12 260 797 [(0, .ref G.2.2.2.2.2.2.1.1), (1, .ref X), (2, .ref m), (3, .int (nI i))] [] σ2 K) : a_J G m_law 12 260 521 [(0, .ref G.2.2.2.2.2.2.1.1), (1, .ref X), (2, .ref m), (3, .int (nI i))] [] σ K := by
  obtain ⟨fx, hx0⟩ := LI_X h
  refine a_aload_n d_L_law_521 rfl rfl ?_
  refine a_aload_n d_L_law_522 rfl rfl ?_
  refine a_iload_n d_L_law_523 rfl rfl ?_
  refine a_iconst (v := 1) d_L_law_524 (by decide) ?_
  refine a_iadd d_L_law_525 ?_
  refine a_sld d_L_law_526 (vin (c := 1) (by omega) hL) ?_
  refine a_if_eq (tgt := 534) d_L_law_527 (by decide) (fun c_1 => ?_) (fun c_1 => ?_)
  · refine a_iconst (v := 0) d_L_law_534 (by decide) ?_
    refine a_aload_n d_L_law_535 rfl rfl ?_
    refine a_iload_n d_L_law_536 rfl rfl ?_
    refine a_iconst (v := 2) d_L_law_537 (by decide) ?_
    refine a_iadd d_L_law_538 ?_
    refine a_sld d_L_law_539 (vin (c := 2) (by omega) hL) ?_
    refine a_aload_n d_L_law_540 rfl rfl ?_
    refine a_iload_n d_L_law_541 rfl rfl ?_
    refine a_iconst (v := 3) d_L_law_542 (by decide) ?_
    refine a_iadd d_L_law_543 ?_
    refine a_sld d_L_law_544 (vin (c := 3) (by omega) hL) ?_
    refine a_aload_n d_L_law_545 rfl rfl ?_
    refine a_iload_n d_L_law_546 rfl rfl ?_
    refine a_iconst (v := 4) d_L_law_547 (by decide) ?_
    refine a_iadd d_L_law_548 ?_
    refine a_sld d_L_law_549 (vin (c := 4) (by omega) hL) ?_
    apply a_callV (ci := 6) 3 71 [_, _, _, _] _ d_L_law_550 l_L_67 ⟨im_X_than, se_X_than⟩ rfl rfl rfl rfl (Nat.le_of_ble_eq_true rfl) ⟨Nat.le_of_ble_eq_true rfl, Nat.le_of_ble_eq_true rfl⟩
    · (first | exact hx0 | exact hm0)
    refine W_than h (fun τ v hmo hm => ?_)
    obtain ⟨fm, hm0⟩ := hmo
    refine a_aload_n d_L_law_553 rfl rfl ?_
    refine a_aload_n d_L_law_554 rfl rfl ?_
    refine a_iload_n d_L_law_555 rfl rfl ?_
    refine a_iconst (v := 1) d_L_law_556 (by decide) ?_
    refine a_iadd d_L_law_557 ?_
    refine a_sld d_L_law_558 (vin (c := 1) (by omega) hL) ?_
    refine a_if_eq (tgt := 566) d_L_law_559 (by decide) (fun c_2 => ?_) (fun n9 => absurd (by assumption) n9)
    refine a_iconst (v := 0) d_L_law_566 (by decide) ?_
    refine a_aload_n d_L_law_567 rfl rfl ?_
    refine a_iload_n d_L_law_568 rfl rfl ?_
    refine a_iconst (v := 2) d_L_law_569 (by decide) ?_
    refine a_iadd d_L_law_570 ?_
    refine a_sld d_L_law_571 (vin (c := 2) (by omega) hL) ?_
    refine a_aload_n d_L_law_572 rfl rfl ?_
    refine a_iload_n d_L_law_573 rfl rfl ?_
    refine a_iconst (v := 3) d_L_law_574 (by decide) ?_
    refine a_iadd d_L_law_575 ?_
    refine a_sld d_L_law_576 (vin (c := 3) (by omega) hL) ?_
    refine a_aload_n d_L_law_577 rfl rfl ?_
    refine a_iload_n d_L_law_578 rfl rfl ?_
    refine a_iconst (v := 4) d_L_law_579 (by decide) ?_
    refine a_iadd d_L_law_580 ?_
    refine a_sld d_L_law_581 (vin (c := 4) (by omega) hL) ?_
    apply a_callV (ci := 7) 2 50 [_, _, _, _] _ d_L_law_582 l_L_70 ⟨im_M_than, se_M_than⟩ rfl rfl rfl rfl (Nat.le_of_ble_eq_true rfl) ⟨Nat.le_of_ble_eq_true rfl, Nat.le_of_ble_eq_true rfl⟩
    · (first | exact hx0 | exact hm0)
    refine hm _ (fun σ2 h2 => ?_)
    refine a_icmp_eq (tgt := 797) d_L_law_585 (by decide) (fun c_3 => ?_) (fun n9 => absurd (rfl) n9)
    exact a_lvk (hK σ2 h2) ⟨rfl, rfl, rfl, rfl, trivial⟩
  · refine a_iconst (v := 1) d_L_law_530 (by decide) ?_
    refine a_goto (tgt := 535) d_L_law_531 (by decide) ?_
    refine a_aload_n d_L_law_535 rfl rfl ?_
    refine a_iload_n d_L_law_536 rfl rfl ?_
    refine a_iconst (v := 2) d_L_law_537 (by decide) ?_
    refine a_iadd d_L_law_538 ?_
    refine a_sld d_L_law_539 (vin (c := 2) (by omega) hL) ?_
    refine a_aload_n d_L_law_540 rfl rfl ?_
    refine a_iload_n d_L_law_541 rfl rfl ?_
    refine a_iconst (v := 3) d_L_law_542 (by decide) ?_
    refine a_iadd d_L_law_543 ?_
    refine a_sld d_L_law_544 (vin (c := 3) (by omega) hL) ?_
    refine a_aload_n d_L_law_545 rfl rfl ?_
    refine a_iload_n d_L_law_546 rfl rfl ?_
    refine a_iconst (v := 4) d_L_law_547 (by decide) ?_
    refine a_iadd d_L_law_548 ?_
    refine a_sld d_L_law_549 (vin (c := 4) (by omega) hL) ?_
    apply a_callV (ci := 6) 3 71 [_, _, _, _] _ d_L_law_550 l_L_67 ⟨im_X_than, se_X_than⟩ rfl rfl rfl rfl (Nat.le_of_ble_eq_true rfl) ⟨Nat.le_of_ble_eq_true rfl, Nat.le_of_ble_eq_true rfl⟩
    · (first | exact hx0 | exact hm0)
    refine W_than h (fun τ v hmo hm => ?_)
    obtain ⟨fm, hm0⟩ := hmo
    refine a_aload_n d_L_law_553 rfl rfl ?_
    refine a_aload_n d_L_law_554 rfl rfl ?_
    refine a_iload_n d_L_law_555 rfl rfl ?_
    refine a_iconst (v := 1) d_L_law_556 (by decide) ?_
    refine a_iadd d_L_law_557 ?_
    refine a_sld d_L_law_558 (vin (c := 1) (by omega) hL) ?_
    refine a_if_eq (tgt := 566) d_L_law_559 (by decide) (fun n9 => absurd n9 (by assumption)) (fun c_4 => ?_)
    refine a_iconst (v := 1) d_L_law_562 (by decide) ?_
    refine a_goto (tgt := 567) d_L_law_563 (by decide) ?_
    refine a_aload_n d_L_law_567 rfl rfl ?_
    refine a_iload_n d_L_law_568 rfl rfl ?_
    refine a_iconst (v := 2) d_L_law_569 (by decide) ?_
    refine a_iadd d_L_law_570 ?_
    refine a_sld d_L_law_571 (vin (c := 2) (by omega) hL) ?_
    refine a_aload_n d_L_law_572 rfl rfl ?_
    refine a_iload_n d_L_law_573 rfl rfl ?_
    refine a_iconst (v := 3) d_L_law_574 (by decide) ?_
    refine a_iadd d_L_law_575 ?_
    refine a_sld d_L_law_576 (vin (c := 3) (by omega) hL) ?_
    refine a_aload_n d_L_law_577 rfl rfl ?_
    refine a_iload_n d_L_law_578 rfl rfl ?_
    refine a_iconst (v := 4) d_L_law_579 (by decide) ?_
    refine a_iadd d_L_law_580 ?_
    refine a_sld d_L_law_581 (vin (c := 4) (by omega) hL) ?_
    apply a_callV (ci := 7) 2 50 [_, _, _, _] _ d_L_law_582 l_L_70 ⟨im_M_than, se_M_than⟩ rfl rfl rfl rfl (Nat.le_of_ble_eq_true rfl) ⟨Nat.le_of_ble_eq_true rfl, Nat.le_of_ble_eq_true rfl⟩
    · (first | exact hx0 | exact hm0)
    refine hm _ (fun σ2 h2 => ?_)
    refine a_icmp_eq (tgt := 797) d_L_law_585 (by decide) (fun c_5 => ?_) (fun n9 => absurd (rfl) n9)
    exact a_lvk (hK σ2 h2) ⟨rfl, rfl, rfl, rfl, trivial⟩

set_option maxHeartbeats 4000000 in
set_option maxRecDepth 100000 in
theorem law_590 (h : LI B σ X m t) (hL : G.2.2.2.2.2.2.1.2.1 ≤ 3072) (hi : i + 6 ≤ G.2.2.2.2.2.2.1.2.1) (hK : ∀ σ2, LI B σ2 X m (t + 1) → a_J G m_law 12 260 797 [(0, .ref G.2.2.2.2.2.2.1.1), (1, .ref X), (2, .ref m), (3, .int (nI i))] [] σ2 K) : a_J G m_law 12 260 590 [(0, .ref G.2.2.2.2.2.2.1.1), (1, .ref X), (2, .ref m), (3, .int (nI i))] [] σ K := by
  obtain ⟨fx, hx0⟩ := LI_X h
  refine a_aload_n d_L_law_590 rfl rfl ?_
  refine a_aload_n d_L_law_591 rfl rfl ?_
  refine a_iload_n d_L_law_592 rfl rfl ?_
  refine a_iconst (v := 1) d_L_law_593 (by decide) ?_
  refine a_iadd d_L_law_594 ?_
  refine a_sld d_L_law_595 (vin (c := 1) (by omega) hL) ?_
  refine a_aload_n d_L_law_596 rfl rfl ?_
  refine a_iload_n d_L_law_597 rfl rfl ?_
  refine a_iconst (v := 2) d_L_law_598 (by decide) ?_
  refine a_iadd d_L_law_599 ?_
  refine a_sld d_L_law_600 (vin (c := 2) (by omega) hL) ?_
  refine a_aload_n d_L_law_601 rfl rfl ?_
  refine a_iload_n d_L_law_602 rfl rfl ?_
  refine a_iconst (v := 3) d_L_law_603 (by decide) ?_
  refine a_iadd d_L_law_604 ?_
  refine a_sld d_L_law_605 (vin (c := 3) (by omega) hL) ?_
  refine a_aload_n d_L_law_606 rfl rfl ?_
  refine a_iload_n d_L_law_607 rfl rfl ?_
  refine a_iconst (v := 4) d_L_law_608 (by decide) ?_
  refine a_iadd d_L_law_609 ?_
  refine a_sld d_L_law_610 (vin (c := 4) (by omega) hL) ?_
  apply a_callV (ci := 6) 1 24 [_, _, _, _] _ d_L_law_611 l_L_71 ⟨im_X_call, se_X_call⟩ rfl rfl rfl rfl (Nat.le_of_ble_eq_true rfl) ⟨Nat.le_of_ble_eq_true rfl, Nat.le_of_ble_eq_true rfl⟩
  · (first | exact hx0 | exact hm0)
  refine W_call h (fun τ v hmo hm => ?_)
  obtain ⟨fm, hm0⟩ := hmo
  refine a_aload_n d_L_law_614 rfl rfl ?_
  refine a_aload_n d_L_law_615 rfl rfl ?_
  refine a_iload_n d_L_law_616 rfl rfl ?_
  refine a_iconst (v := 1) d_L_law_617 (by decide) ?_
  refine a_iadd d_L_law_618 ?_
  refine a_sld d_L_law_619 (vin (c := 1) (by omega) hL) ?_
  refine a_aload_n d_L_law_620 rfl rfl ?_
  refine a_iload_n d_L_law_621 rfl rfl ?_
  refine a_iconst (v := 2) d_L_law_622 (by decide) ?_
  refine a_iadd d_L_law_623 ?_
  refine a_sld d_L_law_624 (vin (c := 2) (by omega) hL) ?_
  refine a_aload_n d_L_law_625 rfl rfl ?_
  refine a_iload_n d_L_law_626 rfl rfl ?_
  refine a_iconst (v := 3) d_L_law_627 (by decide) ?_
  refine a_iadd d_L_law_628 ?_
  refine a_sld d_L_law_629 (vin (c := 3) (by omega) hL) ?_
  refine a_aload_n d_L_law_630 rfl rfl ?_
  refine a_iload_n d_L_law_631 rfl rfl ?_
  refine a_iconst (v := 4) d_L_law_632 (by decide) ?_
  refine a_iadd d_L_law_633 ?_
  refine a_sld d_L_law_634 (vin (c := 4) (by omega) hL) ?_
  apply a_callV (ci := 7) 0 0 [_, _, _, _] _ d_L_law_635 l_L_75 ⟨im_M_call, se_M_call⟩ rfl rfl rfl rfl (Nat.le_of_ble_eq_true rfl) ⟨Nat.le_of_ble_eq_true rfl, Nat.le_of_ble_eq_true rfl⟩
  · (first | exact hx0 | exact hm0)
  refine hm _ (fun σ2 h2 => ?_)
  refine a_icmp_eq (tgt := 797) d_L_law_638 (by decide) (fun c_1 => ?_) (fun n9 => absurd (rfl) n9)
  exact a_lvk (hK σ2 h2) ⟨rfl, rfl, rfl, rfl, trivial⟩

set_option maxHeartbeats 4000000 in
set_option maxRecDepth 100000 in
theorem law_643 (h : LI B σ X m t) (hL : G.2.2.2.2.2.2.1.2.1 ≤ 3072) (hi : i + 6 ≤ G.2.2.2.2.2.2.1.2.1) (hK : ∀ σ2, LI B σ2 X m (t + 1) → a_J G m_law 12 260 797 [(0, .ref G.2.2.2.2.2.2.1.1), (1, .ref X), (2, .ref m), (3, .int (nI i))] [] σ2 K) : a_J G m_law 12 260 643 [(0, .ref G.2.2.2.2.2.2.1.1), (1, .ref X), (2, .ref m), (3, .int (nI i))] [] σ K := by
  obtain ⟨fx, hx0⟩ := LI_X h
  refine a_aload_n d_L_law_643 rfl rfl ?_
  refine a_aload_n d_L_law_644 rfl rfl ?_
  refine a_iload_n d_L_law_645 rfl rfl ?_
  refine a_iconst (v := 1) d_L_law_646 (by decide) ?_
  refine a_iadd d_L_law_647 ?_
  refine a_sld d_L_law_648 (vin (c := 1) (by omega) hL) ?_
  refine a_if_eq (tgt := 656) d_L_law_649 (by decide) (fun c_1 => ?_) (fun c_1 => ?_)
  · refine a_iconst (v := 0) d_L_law_656 (by decide) ?_
    refine a_aload_n d_L_law_657 rfl rfl ?_
    refine a_iload_n d_L_law_658 rfl rfl ?_
    refine a_iconst (v := 2) d_L_law_659 (by decide) ?_
    refine a_iadd d_L_law_660 ?_
    refine a_sld d_L_law_661 (vin (c := 2) (by omega) hL) ?_
    refine a_aload_n d_L_law_662 rfl rfl ?_
    refine a_iload_n d_L_law_663 rfl rfl ?_
    refine a_iconst (v := 3) d_L_law_664 (by decide) ?_
    refine a_iadd d_L_law_665 ?_
    refine a_sld d_L_law_666 (vin (c := 3) (by omega) hL) ?_
    apply a_callV (ci := 6) 4 98 [_, _, _] _ d_L_law_667 l_L_76 ⟨im_X_holds, se_X_holds⟩ rfl rfl rfl rfl (Nat.le_of_ble_eq_true rfl) ⟨Nat.le_of_ble_eq_true rfl, Nat.le_of_ble_eq_true rfl⟩
    · (first | exact hx0 | exact hm0)
    refine W_holds h (fun τ v hmo hm => ?_)
    obtain ⟨fm, hm0⟩ := hmo
    refine a_aload_n d_L_law_670 rfl rfl ?_
    refine a_aload_n d_L_law_671 rfl rfl ?_
    refine a_iload_n d_L_law_672 rfl rfl ?_
    refine a_iconst (v := 1) d_L_law_673 (by decide) ?_
    refine a_iadd d_L_law_674 ?_
    refine a_sld d_L_law_675 (vin (c := 1) (by omega) hL) ?_
    refine a_if_eq (tgt := 683) d_L_law_676 (by decide) (fun c_2 => ?_) (fun n9 => absurd (by assumption) n9)
    refine a_iconst (v := 0) d_L_law_683 (by decide) ?_
    refine a_aload_n d_L_law_684 rfl rfl ?_
    refine a_iload_n d_L_law_685 rfl rfl ?_
    refine a_iconst (v := 2) d_L_law_686 (by decide) ?_
    refine a_iadd d_L_law_687 ?_
    refine a_sld d_L_law_688 (vin (c := 2) (by omega) hL) ?_
    refine a_aload_n d_L_law_689 rfl rfl ?_
    refine a_iload_n d_L_law_690 rfl rfl ?_
    refine a_iconst (v := 3) d_L_law_691 (by decide) ?_
    refine a_iadd d_L_law_692 ?_
    refine a_sld d_L_law_693 (vin (c := 3) (by omega) hL) ?_
    apply a_callV (ci := 7) 3 74 [_, _, _] _ d_L_law_694 l_L_80 ⟨im_M_holds, se_M_holds⟩ rfl rfl rfl rfl (Nat.le_of_ble_eq_true rfl) ⟨Nat.le_of_ble_eq_true rfl, Nat.le_of_ble_eq_true rfl⟩
    · (first | exact hx0 | exact hm0)
    refine hm _ (fun σ2 h2 => ?_)
    refine a_icmp_eq (tgt := 797) d_L_law_697 (by decide) (fun c_3 => ?_) (fun n9 => absurd (rfl) n9)
    exact a_lvk (hK σ2 h2) ⟨rfl, rfl, rfl, rfl, trivial⟩
  · refine a_iconst (v := 1) d_L_law_652 (by decide) ?_
    refine a_goto (tgt := 657) d_L_law_653 (by decide) ?_
    refine a_aload_n d_L_law_657 rfl rfl ?_
    refine a_iload_n d_L_law_658 rfl rfl ?_
    refine a_iconst (v := 2) d_L_law_659 (by decide) ?_
    refine a_iadd d_L_law_660 ?_
    refine a_sld d_L_law_661 (vin (c := 2) (by omega) hL) ?_
    refine a_aload_n d_L_law_662 rfl rfl ?_
    refine a_iload_n d_L_law_663 rfl rfl ?_
    refine a_iconst (v := 3) d_L_law_664 (by decide) ?_
    refine a_iadd d_L_law_665 ?_
    refine a_sld d_L_law_666 (vin (c := 3) (by omega) hL) ?_
    apply a_callV (ci := 6) 4 98 [_, _, _] _ d_L_law_667 l_L_76 ⟨im_X_holds, se_X_holds⟩ rfl rfl rfl rfl (Nat.le_of_ble_eq_true rfl) ⟨Nat.le_of_ble_eq_true rfl, Nat.le_of_ble_eq_true rfl⟩
    · (first | exact hx0 | exact hm0)
    refine W_holds h (fun τ v hmo hm => ?_)
    obtain ⟨fm, hm0⟩ := hmo
    refine a_aload_n d_L_law_670 rfl rfl ?_
    refine a_aload_n d_L_law_671 rfl rfl ?_
    refine a_iload_n d_L_law_672 rfl rfl ?_
    refine a_iconst (v := 1) d_L_law_673 (by decide) ?_
    refine a_iadd d_L_law_674 ?_
    refine a_sld d_L_law_675 (vin (c := 1) (by omega) hL) ?_
    refine a_if_eq (tgt := 683) d_L_law_676 (by decide) (fun n9 => absurd n9 (by assumption)) (fun c_4 => ?_)
    refine a_iconst (v := 1) d_L_law_679 (by decide) ?_
    refine a_goto (tgt := 684) d_L_law_680 (by decide) ?_
    refine a_aload_n d_L_law_684 rfl rfl ?_
    refine a_iload_n d_L_law_685 rfl rfl ?_
    refine a_iconst (v := 2) d_L_law_686 (by decide) ?_
    refine a_iadd d_L_law_687 ?_
    refine a_sld d_L_law_688 (vin (c := 2) (by omega) hL) ?_
    refine a_aload_n d_L_law_689 rfl rfl ?_
    refine a_iload_n d_L_law_690 rfl rfl ?_
    refine a_iconst (v := 3) d_L_law_691 (by decide) ?_
    refine a_iadd d_L_law_692 ?_
    refine a_sld d_L_law_693 (vin (c := 3) (by omega) hL) ?_
    apply a_callV (ci := 7) 3 74 [_, _, _] _ d_L_law_694 l_L_80 ⟨im_M_holds, se_M_holds⟩ rfl rfl rfl rfl (Nat.le_of_ble_eq_true rfl) ⟨Nat.le_of_ble_eq_true rfl, Nat.le_of_ble_eq_true rfl⟩
    · (first | exact hx0 | exact hm0)
    refine hm _ (fun σ2 h2 => ?_)
    refine a_icmp_eq (tgt := 797) d_L_law_697 (by decide) (fun c_5 => ?_) (fun n9 => absurd (rfl) n9)
    exact a_lvk (hK σ2 h2) ⟨rfl, rfl, rfl, rfl, trivial⟩

set_option maxHeartbeats 4000000 in
set_option maxRecDepth 100000 in
theorem law_702 (h : LI B σ X m t) (hL : G.2.2.2.2.2.2.1.2.1 ≤ 3072) (hi : i + 6 ≤ G.2.2.2.2.2.2.1.2.1) (hK : ∀ σ2, LI B σ2 X m (t + 1) → a_J G m_law 12 260 797 [(0, .ref G.2.2.2.2.2.2.1.1), (1, .ref X), (2, .ref m), (3, .int (nI i))] [] σ2 K) : a_J G m_law 12 260 702 [(0, .ref G.2.2.2.2.2.2.1.1), (1, .ref X), (2, .ref m), (3, .int (nI i))] [] σ K := by
  obtain ⟨fx, hx0⟩ := LI_X h
  refine a_aload_n d_L_law_702 rfl rfl ?_
  refine a_aload_n d_L_law_703 rfl rfl ?_
  refine a_iload_n d_L_law_704 rfl rfl ?_
  refine a_iconst (v := 1) d_L_law_705 (by decide) ?_
  refine a_iadd d_L_law_706 ?_
  refine a_sld d_L_law_707 (vin (c := 1) (by omega) hL) ?_
  apply a_callV (ci := 6) 6 146 [_] _ d_L_law_708 l_L_81 ⟨im_X_make, se_X_make⟩ rfl rfl rfl rfl (Nat.le_of_ble_eq_true rfl) ⟨Nat.le_of_ble_eq_true rfl, Nat.le_of_ble_eq_true rfl⟩
  · (first | exact hx0 | exact hm0)
  refine W_make h (fun τ v hmo hm => ?_)
  obtain ⟨fm, hm0⟩ := hmo
  refine a_aload_n d_L_law_711 rfl rfl ?_
  refine a_aload_n d_L_law_712 rfl rfl ?_
  refine a_iload_n d_L_law_713 rfl rfl ?_
  refine a_iconst (v := 1) d_L_law_714 (by decide) ?_
  refine a_iadd d_L_law_715 ?_
  refine a_sld d_L_law_716 (vin (c := 1) (by omega) hL) ?_
  apply a_callV (ci := 7) 3 76 [_] _ d_L_law_717 l_L_85 ⟨im_M_make, se_M_make⟩ rfl rfl rfl rfl (Nat.le_of_ble_eq_true rfl) ⟨Nat.le_of_ble_eq_true rfl, Nat.le_of_ble_eq_true rfl⟩
  · (first | exact hx0 | exact hm0)
  refine hm _ (fun σ2 h2 => ?_)
  refine a_icmp_eq (tgt := 797) d_L_law_720 (by decide) (fun c_1 => ?_) (fun n9 => absurd (rfl) n9)
  exact a_lvk (hK σ2 h2) ⟨rfl, rfl, rfl, rfl, trivial⟩

set_option maxHeartbeats 4000000 in
set_option maxRecDepth 100000 in
theorem law_725 (h : LI B σ X m t) (hL : G.2.2.2.2.2.2.1.2.1 ≤ 3072) (hi : i + 6 ≤ G.2.2.2.2.2.2.1.2.1) (hK : ∀ σ2, LI B σ2 X m (t + 1) → a_J G m_law 12 260 797 [(0, .ref G.2.2.2.2.2.2.1.1), (1, .ref X), (2, .ref m), (3, .int (nI i))] [] σ2 K) : a_J G m_law 12 260 725 [(0, .ref G.2.2.2.2.2.2.1.1), (1, .ref X), (2, .ref m), (3, .int (nI i))] [] σ K := by
  obtain ⟨fx, hx0⟩ := LI_X h
  refine a_aload_n d_L_law_725 rfl rfl ?_
  refine a_aload_n d_L_law_726 rfl rfl ?_
  refine a_iload_n d_L_law_727 rfl rfl ?_
  refine a_iconst (v := 1) d_L_law_728 (by decide) ?_
  refine a_iadd d_L_law_729 ?_
  refine a_sld d_L_law_730 (vin (c := 1) (by omega) hL) ?_
  refine a_aload_n d_L_law_731 rfl rfl ?_
  refine a_iload_n d_L_law_732 rfl rfl ?_
  refine a_iconst (v := 2) d_L_law_733 (by decide) ?_
  refine a_iadd d_L_law_734 ?_
  refine a_sld d_L_law_735 (vin (c := 2) (by omega) hL) ?_
  refine a_if_eq (tgt := 743) d_L_law_736 (by decide) (fun c_1 => ?_) (fun c_1 => ?_)
  · refine a_iconst (v := 0) d_L_law_743 (by decide) ?_
    apply a_callV (ci := 6) 1 21 [_, _] _ d_L_law_744 l_L_86 ⟨im_X_byteAt, se_X_byteAt⟩ rfl rfl rfl rfl (Nat.le_of_ble_eq_true rfl) ⟨Nat.le_of_ble_eq_true rfl, Nat.le_of_ble_eq_true rfl⟩
    · (first | exact hx0 | exact hm0)
    refine W_byteAt h (fun τ v hmo hm => ?_)
    obtain ⟨fm, hm0⟩ := hmo
    refine a_aload_n d_L_law_747 rfl rfl ?_
    refine a_aload_n d_L_law_748 rfl rfl ?_
    refine a_iload_n d_L_law_749 rfl rfl ?_
    refine a_iconst (v := 1) d_L_law_750 (by decide) ?_
    refine a_iadd d_L_law_751 ?_
    refine a_sld d_L_law_752 (vin (c := 1) (by omega) hL) ?_
    refine a_aload_n d_L_law_753 rfl rfl ?_
    refine a_iload_n d_L_law_754 rfl rfl ?_
    refine a_iconst (v := 2) d_L_law_755 (by decide) ?_
    refine a_iadd d_L_law_756 ?_
    refine a_sld d_L_law_757 (vin (c := 2) (by omega) hL) ?_
    refine a_if_eq (tgt := 765) d_L_law_758 (by decide) (fun c_2 => ?_) (fun n9 => absurd (by assumption) n9)
    refine a_iconst (v := 0) d_L_law_765 (by decide) ?_
    apply a_callV (ci := 7) 0 0 [_, _] _ d_L_law_766 l_L_90 ⟨im_M_byteAt, se_M_byteAt⟩ rfl rfl rfl rfl (Nat.le_of_ble_eq_true rfl) ⟨Nat.le_of_ble_eq_true rfl, Nat.le_of_ble_eq_true rfl⟩
    · (first | exact hx0 | exact hm0)
    refine hm _ (fun σ2 h2 => ?_)
    refine a_icmp_eq (tgt := 797) d_L_law_769 (by decide) (fun c_3 => ?_) (fun n9 => absurd (rfl) n9)
    exact a_lvk (hK σ2 h2) ⟨rfl, rfl, rfl, rfl, trivial⟩
  · refine a_iconst (v := 1) d_L_law_739 (by decide) ?_
    refine a_goto (tgt := 744) d_L_law_740 (by decide) ?_
    apply a_callV (ci := 6) 1 21 [_, _] _ d_L_law_744 l_L_86 ⟨im_X_byteAt, se_X_byteAt⟩ rfl rfl rfl rfl (Nat.le_of_ble_eq_true rfl) ⟨Nat.le_of_ble_eq_true rfl, Nat.le_of_ble_eq_true rfl⟩
    · (first | exact hx0 | exact hm0)
    refine W_byteAt h (fun τ v hmo hm => ?_)
    obtain ⟨fm, hm0⟩ := hmo
    refine a_aload_n d_L_law_747 rfl rfl ?_
    refine a_aload_n d_L_law_748 rfl rfl ?_
    refine a_iload_n d_L_law_749 rfl rfl ?_
    refine a_iconst (v := 1) d_L_law_750 (by decide) ?_
    refine a_iadd d_L_law_751 ?_
    refine a_sld d_L_law_752 (vin (c := 1) (by omega) hL) ?_
    refine a_aload_n d_L_law_753 rfl rfl ?_
    refine a_iload_n d_L_law_754 rfl rfl ?_
    refine a_iconst (v := 2) d_L_law_755 (by decide) ?_
    refine a_iadd d_L_law_756 ?_
    refine a_sld d_L_law_757 (vin (c := 2) (by omega) hL) ?_
    refine a_if_eq (tgt := 765) d_L_law_758 (by decide) (fun n9 => absurd n9 (by assumption)) (fun c_4 => ?_)
    refine a_iconst (v := 1) d_L_law_761 (by decide) ?_
    refine a_goto (tgt := 766) d_L_law_762 (by decide) ?_
    apply a_callV (ci := 7) 0 0 [_, _] _ d_L_law_766 l_L_90 ⟨im_M_byteAt, se_M_byteAt⟩ rfl rfl rfl rfl (Nat.le_of_ble_eq_true rfl) ⟨Nat.le_of_ble_eq_true rfl, Nat.le_of_ble_eq_true rfl⟩
    · (first | exact hx0 | exact hm0)
    refine hm _ (fun σ2 h2 => ?_)
    refine a_icmp_eq (tgt := 797) d_L_law_769 (by decide) (fun c_5 => ?_) (fun n9 => absurd (rfl) n9)
    exact a_lvk (hK σ2 h2) ⟨rfl, rfl, rfl, rfl, trivial⟩

set_option maxHeartbeats 4000000 in
set_option maxRecDepth 100000 in
theorem law_774 (h : LI B σ X m t) (hL : G.2.2.2.2.2.2.1.2.1 ≤ 3072) (hi : i + 6 ≤ G.2.2.2.2.2.2.1.2.1) (hK : ∀ σ2, LI B σ2 X m (t + 1) → a_J G m_law 12 260 797 [(0, .ref G.2.2.2.2.2.2.1.1), (1, .ref X), (2, .ref m), (3, .int (nI i))] [] σ2 K) : a_J G m_law 12 260 774 [(0, .ref G.2.2.2.2.2.2.1.1), (1, .ref X), (2, .ref m), (3, .int (nI i))] [] σ K := by
  obtain ⟨fx, hx0⟩ := LI_X h
  refine a_aload_n d_L_law_774 rfl rfl ?_
  refine a_aload_n d_L_law_775 rfl rfl ?_
  refine a_iload_n d_L_law_776 rfl rfl ?_
  refine a_iconst (v := 1) d_L_law_777 (by decide) ?_
  refine a_iadd d_L_law_778 ?_
  refine a_sld d_L_law_779 (vin (c := 1) (by omega) hL) ?_
  apply a_callV (ci := 6) 1 21 [_] _ d_L_law_780 l_L_91 ⟨im_X_look, se_X_look⟩ rfl rfl rfl rfl (Nat.le_of_ble_eq_true rfl) ⟨Nat.le_of_ble_eq_true rfl, Nat.le_of_ble_eq_true rfl⟩
  · (first | exact hx0 | exact hm0)
  refine W_look h (fun τ v hmo hm => ?_)
  obtain ⟨fm, hm0⟩ := hmo
  refine a_aload_n d_L_law_783 rfl rfl ?_
  refine a_aload_n d_L_law_784 rfl rfl ?_
  refine a_iload_n d_L_law_785 rfl rfl ?_
  refine a_iconst (v := 1) d_L_law_786 (by decide) ?_
  refine a_iadd d_L_law_787 ?_
  refine a_sld d_L_law_788 (vin (c := 1) (by omega) hL) ?_
  apply a_callV (ci := 7) 0 0 [_] _ d_L_law_789 l_L_94 ⟨im_M_look, se_M_look⟩ rfl rfl rfl rfl (Nat.le_of_ble_eq_true rfl) ⟨Nat.le_of_ble_eq_true rfl, Nat.le_of_ble_eq_true rfl⟩
  · (first | exact hx0 | exact hm0)
  refine hm _ (fun σ2 h2 => ?_)
  refine a_icmp_eq (tgt := 797) d_L_law_792 (by decide) (fun c_1 => ?_) (fun n9 => absurd (rfl) n9)
  exact a_lvk (hK σ2 h2) ⟨rfl, rfl, rfl, rfl, trivial⟩

set_option maxHeartbeats 4000000 in
set_option maxRecDepth 100000 in
theorem law_x (hL : G.2.2.2.2.2.2.1.2.1 ≤ 3072) (z : G.2.2.2.2.2.2.1.2.1 < 6 * t + 6) (ht : 6 * t ≤ G.2.2.2.2.2.2.1.2.1 + 5) (hK : K (some (.int 1)) σ) : a_J G m_law 12 260 18 [(0, .ref G.2.2.2.2.2.2.1.1), (1, .ref X), (2, .ref m), (3, .int (nI (6 * t)))] [] σ K := by
  refine a_iload_n d_L_law_18 rfl rfl ?_
  refine a_aload_n d_L_law_19 rfl rfl ?_
  refine a_sln d_L_law_20 ?_
  refine a_bipush (v := 6) d_L_law_21 (by decide) ?_
  refine a_isub d_L_law_23 ?_
  refine a_icmp_gt (tgt := 803) d_L_law_24 (by decide) (fun c_1 => ?_) (fun n9 => absurd (lex z hL ht) n9)
  refine a_iconst (v := 1) d_L_law_803 (by decide) ?_
  exact a_ireturn d_L_law_804 rfl rfl hK

set_option maxHeartbeats 4000000 in
set_option maxRecDepth 100000 in
theorem law_c (hL : G.2.2.2.2.2.2.1.2.1 ≤ 3072) (z : 6 * t + 6 ≤ G.2.2.2.2.2.2.1.2.1) (h : LI B σ X m t) (hK : ∀ σ2, LI B σ2 X m (t + 1) → a_J G m_law 12 260 797 [(0, .ref G.2.2.2.2.2.2.1.1), (1, .ref X), (2, .ref m), (3, .int (nI (6 * t)))] [] σ2 K) : a_J G m_law 12 260 18 [(0, .ref G.2.2.2.2.2.2.1.1), (1, .ref X), (2, .ref m), (3, .int (nI (6 * t)))] [] σ K := by
  refine a_iload_n d_L_law_18 rfl rfl ?_
  refine a_aload_n d_L_law_19 rfl rfl ?_
  refine a_sln d_L_law_20 ?_
  refine a_bipush (v := 6) d_L_law_21 (by decide) ?_
  refine a_isub d_L_law_23 ?_
  refine a_icmp_gt (tgt := 803) d_L_law_24 (by decide) (fun n9 => absurd n9 (lco z hL)) (fun c_1 => ?_)
  refine a_aload_n d_L_law_27 rfl rfl ?_
  refine a_iload_n d_L_law_28 rfl rfl ?_
  refine a_sld d_L_law_29 (vp_in_nI (by omega) (by omega)) ?_
  refine a_bipush (v := 31) d_L_law_30 (by decide) ?_
  refine a_iand d_L_law_32 ?_
  refine a_tsw17_0 (t0 := 116) (t1 := 179) (t2 := 202) (t3 := 235) (t4 := 248) (t5 := 261) (t6 := 274) (t7 := 307) (t8 := 340) (t9 := 373) (t10 := 442) (t11 := 521) (t12 := 590) (t13 := 643) (t14 := 702) (t15 := 725) (t16 := 774) (td := 797) d_L_law_33 (by decide) (by decide) (by decide) (by decide) (by decide) (by decide) (by decide) (by decide) (by decide) (by decide) (by decide) (by decide) (by decide) (by decide) (by decide) (by decide) (by decide) (by decide) (fun c_2 => ?_) (fun c_3 => ?_) (fun c_4 => ?_) (fun c_5 => ?_) (fun c_6 => ?_) (fun c_7 => ?_) (fun c_8 => ?_) (fun c_9 => ?_) (fun c_10 => ?_) (fun c_11 => ?_) (fun c_12 => ?_) (fun c_13 => ?_) (fun c_14 => ?_) (fun c_15 => ?_) (fun c_16 => ?_) (fun c_17 => ?_) (fun c_18 => ?_) (fun c_19 c_20 c_21 c_22 c_23 c_24 c_25 c_26 c_27 c_28 c_29 c_30 c_31 c_32 c_33 c_34 c_35 => ?_)
  · exact a_lvk (law_116 h hL z hK) ⟨rfl, rfl, rfl, rfl, trivial⟩
  · exact a_lvk (law_179 h hL z hK) ⟨rfl, rfl, rfl, rfl, trivial⟩
  · exact a_lvk (law_202 h hL z hK) ⟨rfl, rfl, rfl, rfl, trivial⟩
  · exact a_lvk (law_235 h hL z hK) ⟨rfl, rfl, rfl, rfl, trivial⟩
  · exact a_lvk (law_248 h hL z hK) ⟨rfl, rfl, rfl, rfl, trivial⟩
  · exact a_lvk (law_261 h hL z hK) ⟨rfl, rfl, rfl, rfl, trivial⟩
  · exact a_lvk (law_274 h hL z hK) ⟨rfl, rfl, rfl, rfl, trivial⟩
  · exact a_lvk (law_307 h hL z hK) ⟨rfl, rfl, rfl, rfl, trivial⟩
  · exact a_lvk (law_340 h hL z hK) ⟨rfl, rfl, rfl, rfl, trivial⟩
  · exact a_lvk (law_373 h hL z hK) ⟨rfl, rfl, rfl, rfl, trivial⟩
  · exact a_lvk (law_442 h hL z hK) ⟨rfl, rfl, rfl, rfl, trivial⟩
  · exact a_lvk (law_521 h hL z hK) ⟨rfl, rfl, rfl, rfl, trivial⟩
  · exact a_lvk (law_590 h hL z hK) ⟨rfl, rfl, rfl, rfl, trivial⟩
  · exact a_lvk (law_643 h hL z hK) ⟨rfl, rfl, rfl, rfl, trivial⟩
  · exact a_lvk (law_702 h hL z hK) ⟨rfl, rfl, rfl, rfl, trivial⟩
  · exact a_lvk (law_725 h hL z hK) ⟨rfl, rfl, rfl, rfl, trivial⟩
  · exact a_lvk (law_774 h hL z hK) ⟨rfl, rfl, rfl, rfl, trivial⟩
  · exact a_lvk (hK σ (LI_s h)) ⟨rfl, rfl, rfl, rfl, trivial⟩

set_option maxHeartbeats 4000000 in
set_option maxRecDepth 100000 in
theorem law_n (hK : a_J G m_law 12 260 18 [(0, .ref G.2.2.2.2.2.2.1.1), (1, .ref X), (2, .ref m), (3, .int (nI (6 * (t + 1))))] [] σ K) : a_J G m_law 12 260 797 [(0, .ref G.2.2.2.2.2.2.1.1), (1, .ref X), (2, .ref m), (3, .int (nI (6 * t)))] [] σ K := by
  refine a_iinc (c0 := 6) d_L_law_797 rfl (by decide) (by decide) ?_
  refine a_goto (tgt := 18) d_L_law_800 (by decide) ?_
  rw [show nI (6 * t) + 6 = nI (6 * (t + 1)) from nI_add (6 * t) 6]
  exact a_lvk hK ⟨rfl, rfl, rfl, rfl, trivial⟩

theorem lp_law (hL : G.2.2.2.2.2.2.1.2.1 ≤ 3072) (hK : ∀ σ t, LI B σ X m t → t ≤ 600 → K (some (.int 1)) σ) : ∀ (r t : Nat) (σ : aS), G.2.2.2.2.2.2.1.2.1 < 6 * (t + r) + 6 → 6 * t ≤ G.2.2.2.2.2.2.1.2.1 + 5 → LI B σ X m t → a_J G m_law 12 260 18 [(0, .ref G.2.2.2.2.2.2.1.1), (1, .ref X), (2, .ref m), (3, .int (nI (6 * t)))] [] σ K
  | 0, t, σ, h1, h2, h => law_x hL (by omega) h2 (hK σ t h (by omega))
  | r + 1, t, σ, h1, h2, h => by
    by_cases z : G.2.2.2.2.2.2.1.2.1 < 6 * t + 6
    · exact law_x hL z h2 (hK σ t h (by omega))
    · exact law_c hL (by omega) h (fun σ2 g2 => law_n (lp_law hL hK r (t + 1) σ2 (by omega) (by omega) g2))
theorem XS.low {τ : aS} {n mm : Nat} {f g : Nat → Nat} {q : aP} {l : aC} {ft pl : Int32} (h : XS σ X n f mm g q l ft pl) (hf : ∀ a, a < X + 34 → τ.2.2 a = σ.2.2 a) : XS τ X n f mm g q l ft pl := by
  obtain ⟨pr, dr, p, sp, n2, g2, q2, p0, k, rf, tp, gp, h1, h2, h3, h4, h5, h6, h7, h8, h9, h10, h11, h12⟩ := h
  exact ⟨pr, dr, p, sp, n2, g2, q2, p0, k, rf, tp, gp, h1, h2, (hf X (by omega)).trans h3, h4.of (hf _ (by omega)) (hf _ (by omega)), h5.of (hf _ (by omega)) (hf _ (by omega)), h6.of (hf _ (by omega)) (hf _ (by omega)), h7.of (fun i hi => hf _ (by omega)), h8.of (fun i hi => hf _ (by omega)), h9.of (hf _ (by omega)) (hf _ (by omega)) (hf _ (by omega)), (hf _ (by omega)).trans h10, (hf _ (by omega)).trans h11, h12⟩
theorem LI_0 {τ : aS} {z : aX} {d : aN} (hX : XS τ X 0 (fun _ => 0) 0 (fun _ => 0) (ah ((0, 0, 0), (fun _ => 0), (fun _ _ => 0)) 1 1) (0, 0, 0, 0) 0 (-1)) (hP : PP x8 z) (hR : RDN 8 f8 d) (hL : LPo d z) (h1 : τ.1 = X + 66) (h2 : τ.2.1 ≤ 100000) : LI (X + 66) (mk τ (X + 34) z) X (X + 34) 0 := by
  have ed := RDN_8 hR
  subst ed
  have f0 := c8_s.2.1
  have hT := MX_8
  refine LI_mk hX ⟨(hP.1 2 (by decide)).trans rfl, Nat.zero_le _, fun k hk => absurd hk (Nat.not_lt_zero _)⟩ ⟨(hP.1 4 (by decide)).trans rfl, Nat.zero_le _, fun k hk => absurd hk (Nat.not_lt_zero _)⟩ ⟨(hP.1 8 (by decide)).trans rfl, (hP.1 9 (by decide)).trans rfl, ?_, ?_, hR, f0, PC_8, ?_, FQ_of (by decide) (fun k hk => (hT.2.2 k hk).2) hR f0, fun k hk => absurd hk (by rw [c8_s.2.2.1]; exact Nat.not_lt_zero _)⟩ rfl (by omega) (by omega) (by omega)
  · unfold MA
    rw [hP.1 14 (by decide), hP.2 8 (by decide) (by decide) (by decide)]
    exact ⟨rfl, rfl, rfl, rfl, 0, by decide, rfl⟩
  · unfold MX at hT ⊢
    rw [hP.1 18 (by decide), hP.2 10 (by decide) (by decide) (by decide)]; exact hT
  · rcases hL with hL | hL
    · exact hL.2
    · exact absurd f0 hL.1
set_option maxHeartbeats 4000000 in
set_option maxRecDepth 100000 in
theorem law_J (hL : G.2.2.2.2.2.2.1.2.1 ≤ 3072) (h1 : σ.1 = X) (h2 : σ.2.1 = 0) (hK : ∀ σ t, LI (X + 66) σ X (X + 34) t → t ≤ 600 → K (some (.int 1)) σ) : a_J G m_law 12 260 0 [(0, .ref G.2.2.2.2.2.2.1.1)] [] σ K := by
  refine a_newC d_L_law_0 n_L_7 (fun t1 n1 u1 c1 o1 => ?_)
  rw [h1] at c1 n1 ⊢
  refine a_dup d_L_law_3 rfl ?_
  refine a_callI 3 63 [] _ d_L_law_4 l_L_9 im_X_init rfl rfl rfl (Nat.le_of_ble_eq_true rfl) ⟨Nat.le_of_ble_eq_true rfl, Nat.le_of_ble_eq_true rfl⟩ ?_
  refine sp_X_init (X := X) c1 n1 (fun t2 n2 u2 o2 hX => ?_)
  refine a_astore_n d_L_law_7 rfl (by decide) ?_
  refine a_newC d_L_law_8 n_L_10 (fun t3 n3 u3 c3 o3 => ?_)
  rw [n2] at c3 o3 n3 ⊢
  refine a_dup d_L_law_11 rfl ?_
  refine a_callI 11 238 [] _ d_L_law_12 l_L_12 im_M_init rfl rfl rfl (Nat.le_of_ble_eq_true rfl) ⟨Nat.le_of_ble_eq_true rfl, Nat.le_of_ble_eq_true rfl⟩ ?_
  refine sp_M_init (m := X + 34) c3 n3 (fun t4 z d n4 u4 o4 hPP hR hP => ?_)
  refine a_astore_n d_L_law_15 rfl (by decide) ?_
  refine a_iconst (v := 0) d_L_law_16 (by decide) ?_
  refine a_istore_n d_L_law_17 rfl (by decide) ?_
  have hX4 : XS t4 X 0 (fun _ => 0) 0 (fun _ => 0) (ah ((0, 0, 0), (fun _ => 0), (fun _ _ => 0)) 1 1) (0, 0, 0, 0) 0 (-1) := hX.low (fun a ha => (o4 a ha).trans (o3 a (by omega)))
  exact a_lvk (lp_law hL hK 600 0 _ (by omega) (by omega) (LI_0 hX4 hPP hR hP (by omega) (by omega))) ⟨rfl, rfl, rfl, rfl, trivial⟩

end Law
