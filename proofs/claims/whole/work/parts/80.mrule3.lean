/-! THE MODEL's rules: the loop -/
/-- what a head leaves -/
def HP (n : Nat) (f : Nat → Nat) (c : aN) (z : aX) : Prop := (∃ e, aRc n f c e ∧ e.1 2 0 = 0 ∧ e.1 0 0 = 1 ∧ LKA n f (e.1 1 0) z ∧ MGd e z ∧ MC e z (e.1 4 0) ∧ MNd e z ∧ MRl e z (e.1 5 0) ∧ MWy e z (e.1 7 0)) ∨ (BAD n f c z ∧ MX z n f)
theorem HP.of {n : Nat} {f : Nat → Nat} {c d : aN} {z : aX} (h : HP n f d z) (g : aRc n f c d) : HP n f c z := by
  rcases h with ⟨e, h1, h2⟩ | ⟨h1, h2⟩
  · exact Or.inl ⟨e, g.trans h1, h2⟩
  · exact Or.inr ⟨h1.of g, h2⟩
section ModM16
variable {G : aG} {σ0 : aS} {K : Option Value → aS → Prop} {m n : Nat} {f : Nat → Nat} {x : aX} {c : aN}
theorem MC.sm {d : aN} {k0 : Nat} (h : MC c x k0) (g : SM c d) : MC d x k0 := h.cg g.cg
theorem MRl.sm {d : aN} {r0 : Nat} (h : MRl c x r0) (g : SM c d) : MRl d x r0 := by
  refine ⟨h.1, fun r hr => ?_⟩
  rw [g.1 23 (by omega) (by omega) (by omega) (by omega) (by omega) (by omega), g.1 26 (by omega) (by omega) (by omega) (by omega) (by omega) (by omega), g.1 25 (by omega) (by omega) (by omega) (by omega) (by omega) (by omega), g.1 27 (by omega) (by omega) (by omega) (by omega) (by omega) (by omega), g.1 28 (by omega) (by omega) (by omega) (by omega) (by omega) (by omega)]
  exact h.2 r hr
theorem MWy.sm {d : aN} {r0 : Nat} (h : MWy c x r0) (g : SM c d) : MWy d x r0 := h.cg g.cg (Or.inr (g.1 33 (by omega) (by omega) (by omega) (by omega) (by omega) (by omega)))
set_option maxHeartbeats 1000000 in
set_option maxRecDepth 100000 in
theorem c_M_186B {v : Int32} (h0 : ¬ x.1 24 = 0) (hK : a_J G m_M_readCounter 9 194 153 [(0, .ref m), (1, .int v)] [] (mk σ0 m x) K) : a_J G m_M_readCounter 9 194 186 [(0, .ref m), (1, .int v)] [] (mk σ0 m x) K := by
  refine a_aload_n d_M_readCounter_186 rfl rfl ?_
  refine a_aload_n d_M_readCounter_187 rfl rfl ?_
  refine a_ldcS 38 d_M_readCounter_188 (by decide) rfl rfl ?_
  apply a_callV (ci := 7) 5 108 [_] _ d_M_readCounter_190 l_M_203 ⟨im_M_isWord, se_M_isWord⟩ rfl rfl rfl rfl (Nat.le_of_ble_eq_true rfl) ⟨Nat.le_of_ble_eq_true rfl, Nat.le_of_ble_eq_true rfl⟩
  · (exact mk_O)
  refine sp_M_isWord (by decide) (jG _ (by decide) (by decide)) ?_
  refine a_if_ne (tgt := 205) d_M_readCounter_193 (by decide) (fun c_1 => ?_) (fun c_1 => ?_)
  · refine a_iconst (v := 1) d_M_readCounter_205 (by decide) ?_
    refine a_goto (tgt := 210) d_M_readCounter_206 (by decide) ?_
    apply a_callV (ci := 7) 1 22 [_] _ d_M_readCounter_210 l_M_229 ⟨im_M_must, se_M_must⟩ rfl rfl rfl rfl (Nat.le_of_ble_eq_true rfl) ⟨Nat.le_of_ble_eq_true rfl, Nat.le_of_ble_eq_true rfl⟩
    · (exact mk_O)
    refine sp_M_mustB h0 ?_
    refine a_if_eq (tgt := 153) d_M_readCounter_213 (by decide) (fun c_2 => ?_) (fun n9 => absurd (rfl) n9)
    exact a_lvk hK ⟨rfl, rfl, trivial⟩
  · refine a_aload_n d_M_readCounter_196 rfl rfl ?_
    refine a_ldcS 39 d_M_readCounter_197 (by decide) rfl rfl ?_
    apply a_callV (ci := 7) 5 108 [_] _ d_M_readCounter_199 l_M_203 ⟨im_M_isWord, se_M_isWord⟩ rfl rfl rfl rfl (Nat.le_of_ble_eq_true rfl) ⟨Nat.le_of_ble_eq_true rfl, Nat.le_of_ble_eq_true rfl⟩
    · (exact mk_O)
    refine sp_M_isWord (by decide) (jG _ (by decide) (by decide)) ?_
    refine a_if_eq (tgt := 209) d_M_readCounter_202 (by decide) (fun c_3 => ?_) (fun c_3 => ?_)
    · refine a_iconst (v := 0) d_M_readCounter_209 (by decide) ?_
      apply a_callV (ci := 7) 1 22 [_] _ d_M_readCounter_210 l_M_229 ⟨im_M_must, se_M_must⟩ rfl rfl rfl rfl (Nat.le_of_ble_eq_true rfl) ⟨Nat.le_of_ble_eq_true rfl, Nat.le_of_ble_eq_true rfl⟩
      · (exact mk_O)
      refine sp_M_mustB h0 ?_
      refine a_if_eq (tgt := 153) d_M_readCounter_213 (by decide) (fun c_4 => ?_) (fun n9 => absurd (rfl) n9)
      exact a_lvk hK ⟨rfl, rfl, trivial⟩
    · refine a_iconst (v := 1) d_M_readCounter_205 (by decide) ?_
      refine a_goto (tgt := 210) d_M_readCounter_206 (by decide) ?_
      apply a_callV (ci := 7) 1 22 [_] _ d_M_readCounter_210 l_M_229 ⟨im_M_must, se_M_must⟩ rfl rfl rfl rfl (Nat.le_of_ble_eq_true rfl) ⟨Nat.le_of_ble_eq_true rfl, Nat.le_of_ble_eq_true rfl⟩
      · (exact mk_O)
      refine sp_M_mustB h0 ?_
      refine a_if_eq (tgt := 153) d_M_readCounter_213 (by decide) (fun c_5 => ?_) (fun n9 => absurd (rfl) n9)
      exact a_lvk hK ⟨rfl, rfl, trivial⟩

set_option maxHeartbeats 1000000 in
set_option maxRecDepth 100000 in
theorem c_M_186F {v : Int32} (w1 : mW x 38 = 0) (w2 : mW x 39 = 0) (hK : a_J G m_M_readCounter 9 194 153 [(0, .ref m), (1, .int v)] [] (mk σ0 m (muX x 0)) K) : a_J G m_M_readCounter 9 194 186 [(0, .ref m), (1, .int v)] [] (mk σ0 m x) K := by
  refine a_aload_n d_M_readCounter_186 rfl rfl ?_
  refine a_aload_n d_M_readCounter_187 rfl rfl ?_
  refine a_ldcS 38 d_M_readCounter_188 (by decide) rfl rfl ?_
  apply a_callV (ci := 7) 5 108 [_] _ d_M_readCounter_190 l_M_203 ⟨im_M_isWord, se_M_isWord⟩ rfl rfl rfl rfl (Nat.le_of_ble_eq_true rfl) ⟨Nat.le_of_ble_eq_true rfl, Nat.le_of_ble_eq_true rfl⟩
  · (exact mk_O)
  refine sp_M_isWord (by decide) (jG _ (by decide) (by decide)) ?_
  refine a_if_ne (tgt := 205) d_M_readCounter_193 (by decide) (fun n9 => absurd (w1) n9) (fun c_1 => ?_)
  refine a_aload_n d_M_readCounter_196 rfl rfl ?_
  refine a_ldcS 39 d_M_readCounter_197 (by decide) rfl rfl ?_
  apply a_callV (ci := 7) 5 108 [_] _ d_M_readCounter_199 l_M_203 ⟨im_M_isWord, se_M_isWord⟩ rfl rfl rfl rfl (Nat.le_of_ble_eq_true rfl) ⟨Nat.le_of_ble_eq_true rfl, Nat.le_of_ble_eq_true rfl⟩
  · (exact mk_O)
  refine sp_M_isWord (by decide) (jG _ (by decide) (by decide)) ?_
  refine a_if_eq (tgt := 209) d_M_readCounter_202 (by decide) (fun c_2 => ?_) (fun n9 => absurd (w2) n9)
  refine a_iconst (v := 0) d_M_readCounter_209 (by decide) ?_
  apply a_callV (ci := 7) 1 22 [_] _ d_M_readCounter_210 l_M_229 ⟨im_M_must, se_M_must⟩ rfl rfl rfl rfl (Nat.le_of_ble_eq_true rfl) ⟨Nat.le_of_ble_eq_true rfl, Nat.le_of_ble_eq_true rfl⟩
  · (exact mk_O)
  refine sp_M_mustF rfl ?_
  refine a_if_eq (tgt := 153) d_M_readCounter_213 (by decide) (fun c_3 => ?_) (fun n9 => absurd (rfl) n9)
  exact a_lvk hK ⟨rfl, rfl, trivial⟩

set_option maxHeartbeats 1000000 in
set_option maxRecDepth 100000 in
theorem c_M_186_1 {v : Int32} {r k0 a : Nat} (hT : MX x n f) (hA : x.1 19 = nI a) (ha : a ≤ n) (h0 : x.1 24 = 0) (w1 : ¬ mW x 38 = 0) (hr : x.1 34 = nI r) (hr24 : r < 24) (hk0 : x.1 28 = nI (k0 + 1)) (hK : ∀ y, NX n f a (sA (sA x 13 r (nI k0)) 14 r 1) y → a_J G m_M_readCounter 9 194 250 [(0, .ref m), (1, .int v)] [] (mk σ0 m y) K) : a_J G m_M_readCounter 9 194 186 [(0, .ref m), (1, .int v)] [] (mk σ0 m x) K := by
  have e38 : mW x 38 = 1 := (mW01 x 38).resolve_left w1
  refine a_aload_n d_M_readCounter_186 rfl rfl ?_
  refine a_aload_n d_M_readCounter_187 rfl rfl ?_
  refine a_ldcS 38 d_M_readCounter_188 (by decide) rfl rfl ?_
  apply a_callV (ci := 7) 5 108 [_] _ d_M_readCounter_190 l_M_203 ⟨im_M_isWord, se_M_isWord⟩ rfl rfl rfl rfl (Nat.le_of_ble_eq_true rfl) ⟨Nat.le_of_ble_eq_true rfl, Nat.le_of_ble_eq_true rfl⟩
  · (exact mk_O)
  refine sp_M_isWord (by decide) (jG _ (by decide) (by decide)) ?_
  refine a_if_ne (tgt := 205) d_M_readCounter_193 (by decide) (fun c_1 => ?_) (fun n9 => absurd n9 (w1))
  refine a_iconst (v := 1) d_M_readCounter_205 (by decide) ?_
  refine a_goto (tgt := 210) d_M_readCounter_206 (by decide) ?_
  apply a_callV (ci := 7) 1 22 [_] _ d_M_readCounter_210 l_M_229 ⟨im_M_must, se_M_must⟩ rfl rfl rfl rfl (Nat.le_of_ble_eq_true rfl) ⟨Nat.le_of_ble_eq_true rfl, Nat.le_of_ble_eq_true rfl⟩
  · (exact mk_O)
  refine sp_M_mustT (by decide) h0 ?_
  refine a_if_eq (tgt := 153) d_M_readCounter_213 (by decide) (fun n9 => absurd n9 (by decide)) (fun c_2 => ?_)
  refine a_aload_n d_M_readCounter_216 rfl rfl ?_
  refine m_get d_M_readCounter_217 f_M_51 rfl ?_
  refine a_aload_n d_M_readCounter_220 rfl rfl ?_
  refine m_get (v := .int (nI r)) d_M_readCounter_221 f_M_239 (congrArg (fun z => some (Value.int z)) hr) ?_
  refine a_aload_n d_M_readCounter_224 rfl rfl ?_
  refine m_get (v := .int (nI (k0 + 1))) d_M_readCounter_225 f_M_236 (congrArg (fun z => some (Value.int z)) hk0) ?_
  refine a_iconst (v := 1) d_M_readCounter_228 (by decide) ?_
  refine a_isub d_M_readCounter_229 ?_
  rw [nI_pred]
  refine m_iast d_M_readCounter_230 (by decide) rfl (vp_in_nI (show r < 24 by omega) (by decide)) ?_
  rw [nI_clamp (show r < 2 ^ 31 by omega)]
  refine a_aload_n d_M_readCounter_231 rfl rfl ?_
  refine m_get d_M_readCounter_232 f_M_54 rfl ?_
  refine a_aload_n d_M_readCounter_235 rfl rfl ?_
  refine m_get (v := .int (nI r)) d_M_readCounter_236 f_M_239 (congrArg (fun z => some (Value.int z)) hr) ?_
  refine a_aload_n d_M_readCounter_239 rfl rfl ?_
  refine a_ldcS 38 d_M_readCounter_240 (by decide) rfl rfl ?_
  apply a_callV (ci := 7) 5 108 [_] _ d_M_readCounter_242 l_M_203 ⟨im_M_isWord, se_M_isWord⟩ rfl rfl rfl rfl (Nat.le_of_ble_eq_true rfl) ⟨Nat.le_of_ble_eq_true rfl, Nat.le_of_ble_eq_true rfl⟩
  · (exact mk_O)
  refine sp_M_isWord (by decide) (jG _ (by decide) (by decide)) ?_
  refine m_zast d_M_readCounter_245 (by decide) rfl (vp_in_nI (show r < 24 by omega) (by decide)) ?_
  rw [nI_clamp (show r < 2 ^ 31 by omega)]
  rw [show vp_nar .boolean (mW (sA x 13 r (nI k0)) 38) = 1 from by rw [show mW (sA x 13 r (nI k0)) 38 = mW x 38 from rfl, e38]; rfl]
  refine a_aload_n d_M_readCounter_246 rfl rfl ?_
  apply a_callV (ci := 7) 2 48 [] _ d_M_readCounter_247 l_M_233 ⟨im_M_next, se_M_next⟩ rfl rfl rfl rfl (Nat.le_of_ble_eq_true rfl) ⟨Nat.le_of_ble_eq_true rfl, Nat.le_of_ble_eq_true rfl⟩
  · (exact mk_O)
  refine sp_M_next (a := a) hT hA ha (fun y hy => ?_)
  exact a_lvk (hK y hy) ⟨rfl, rfl, trivial⟩

set_option maxHeartbeats 1000000 in
set_option maxRecDepth 100000 in
theorem c_M_186_0 {v : Int32} {r k0 a : Nat} (hT : MX x n f) (hA : x.1 19 = nI a) (ha : a ≤ n) (h0 : x.1 24 = 0) (w1 : mW x 38 = 0) (w2 : ¬ mW x 39 = 0) (hr : x.1 34 = nI r) (hr24 : r < 24) (hk0 : x.1 28 = nI (k0 + 1)) (hK : ∀ y, NX n f a (sA (sA x 13 r (nI k0)) 14 r 0) y → a_J G m_M_readCounter 9 194 250 [(0, .ref m), (1, .int v)] [] (mk σ0 m y) K) : a_J G m_M_readCounter 9 194 186 [(0, .ref m), (1, .int v)] [] (mk σ0 m x) K := by
  have e38 : mW x 38 = 0 := w1
  refine a_aload_n d_M_readCounter_186 rfl rfl ?_
  refine a_aload_n d_M_readCounter_187 rfl rfl ?_
  refine a_ldcS 38 d_M_readCounter_188 (by decide) rfl rfl ?_
  apply a_callV (ci := 7) 5 108 [_] _ d_M_readCounter_190 l_M_203 ⟨im_M_isWord, se_M_isWord⟩ rfl rfl rfl rfl (Nat.le_of_ble_eq_true rfl) ⟨Nat.le_of_ble_eq_true rfl, Nat.le_of_ble_eq_true rfl⟩
  · (exact mk_O)
  refine sp_M_isWord (by decide) (jG _ (by decide) (by decide)) ?_
  refine a_if_ne (tgt := 205) d_M_readCounter_193 (by decide) (fun n9 => absurd (w1) n9) (fun c_1 => ?_)
  refine a_aload_n d_M_readCounter_196 rfl rfl ?_
  refine a_ldcS 39 d_M_readCounter_197 (by decide) rfl rfl ?_
  apply a_callV (ci := 7) 5 108 [_] _ d_M_readCounter_199 l_M_203 ⟨im_M_isWord, se_M_isWord⟩ rfl rfl rfl rfl (Nat.le_of_ble_eq_true rfl) ⟨Nat.le_of_ble_eq_true rfl, Nat.le_of_ble_eq_true rfl⟩
  · (exact mk_O)
  refine sp_M_isWord (by decide) (jG _ (by decide) (by decide)) ?_
  refine a_if_eq (tgt := 209) d_M_readCounter_202 (by decide) (fun n9 => absurd n9 (w2)) (fun c_2 => ?_)
  refine a_iconst (v := 1) d_M_readCounter_205 (by decide) ?_
  refine a_goto (tgt := 210) d_M_readCounter_206 (by decide) ?_
  apply a_callV (ci := 7) 1 22 [_] _ d_M_readCounter_210 l_M_229 ⟨im_M_must, se_M_must⟩ rfl rfl rfl rfl (Nat.le_of_ble_eq_true rfl) ⟨Nat.le_of_ble_eq_true rfl, Nat.le_of_ble_eq_true rfl⟩
  · (exact mk_O)
  refine sp_M_mustT (by decide) h0 ?_
  refine a_if_eq (tgt := 153) d_M_readCounter_213 (by decide) (fun n9 => absurd n9 (by decide)) (fun c_3 => ?_)
  refine a_aload_n d_M_readCounter_216 rfl rfl ?_
  refine m_get d_M_readCounter_217 f_M_51 rfl ?_
  refine a_aload_n d_M_readCounter_220 rfl rfl ?_
  refine m_get (v := .int (nI r)) d_M_readCounter_221 f_M_239 (congrArg (fun z => some (Value.int z)) hr) ?_
  refine a_aload_n d_M_readCounter_224 rfl rfl ?_
  refine m_get (v := .int (nI (k0 + 1))) d_M_readCounter_225 f_M_236 (congrArg (fun z => some (Value.int z)) hk0) ?_
  refine a_iconst (v := 1) d_M_readCounter_228 (by decide) ?_
  refine a_isub d_M_readCounter_229 ?_
  rw [nI_pred]
  refine m_iast d_M_readCounter_230 (by decide) rfl (vp_in_nI (show r < 24 by omega) (by decide)) ?_
  rw [nI_clamp (show r < 2 ^ 31 by omega)]
  refine a_aload_n d_M_readCounter_231 rfl rfl ?_
  refine m_get d_M_readCounter_232 f_M_54 rfl ?_
  refine a_aload_n d_M_readCounter_235 rfl rfl ?_
  refine m_get (v := .int (nI r)) d_M_readCounter_236 f_M_239 (congrArg (fun z => some (Value.int z)) hr) ?_
  refine a_aload_n d_M_readCounter_239 rfl rfl ?_
  refine a_ldcS 38 d_M_readCounter_240 (by decide) rfl rfl ?_
  apply a_callV (ci := 7) 5 108 [_] _ d_M_readCounter_242 l_M_203 ⟨im_M_isWord, se_M_isWord⟩ rfl rfl rfl rfl (Nat.le_of_ble_eq_true rfl) ⟨Nat.le_of_ble_eq_true rfl, Nat.le_of_ble_eq_true rfl⟩
  · (exact mk_O)
  refine sp_M_isWord (by decide) (jG _ (by decide) (by decide)) ?_
  refine m_zast d_M_readCounter_245 (by decide) rfl (vp_in_nI (show r < 24 by omega) (by decide)) ?_
  rw [nI_clamp (show r < 2 ^ 31 by omega)]
  rw [show vp_nar .boolean (mW (sA x 13 r (nI k0)) 38) = 0 from by rw [show mW (sA x 13 r (nI k0)) 38 = mW x 38 from rfl, e38]; rfl]
  refine a_aload_n d_M_readCounter_246 rfl rfl ?_
  apply a_callV (ci := 7) 2 48 [] _ d_M_readCounter_247 l_M_233 ⟨im_M_next, se_M_next⟩ rfl rfl rfl rfl (Nat.le_of_ble_eq_true rfl) ⟨Nat.le_of_ble_eq_true rfl, Nat.le_of_ble_eq_true rfl⟩
  · (exact mk_O)
  refine sp_M_next (a := a) hT hA ha (fun y hy => ?_)
  exact a_lvk (hK y hy) ⟨rfl, rfl, trivial⟩

set_option maxHeartbeats 1000000 in
set_option maxRecDepth 100000 in
theorem c_M_153XT {v : Int32} (hT : MX x n f) {a : Nat} (hA : x.1 19 = nI a) (ha : a ≤ n) (h0 : x.1 24 = 0) (ht : x.1 20 = 1) (hK : ∀ y, NX n f a x y → K none (mk σ0 m y)) : a_J G m_M_readCounter 9 194 153 [(0, .ref m), (1, .int v)] [] (mk σ0 m x) K := by
  refine a_aload_n d_M_readCounter_153 rfl rfl ?_
  refine m_get d_M_readCounter_154 f_M_126 rfl ?_
  refine a_if_ne (tgt := 333) d_M_readCounter_157 (by decide) (fun n9 => absurd (h0) n9) (fun c_1 => ?_)
  refine a_aload_n d_M_readCounter_160 rfl rfl ?_
  refine m_get d_M_readCounter_161 f_M_149 rfl ?_
  refine a_if_ne (tgt := 333) d_M_readCounter_164 (by decide) (fun c_2 => ?_) (fun n9 => absurd n9 (fun z => absurd (z.symm.trans ht) (by decide)))
  refine a_aload_n d_M_readCounter_333 rfl rfl ?_
  refine a_iconst (v := 1) d_M_readCounter_334 (by decide) ?_
  apply a_callV (ci := 7) 3 70 [_] _ d_M_readCounter_335 l_M_279 ⟨im_M_expect, se_M_expect⟩ rfl rfl rfl rfl (Nat.le_of_ble_eq_true rfl) ⟨Nat.le_of_ble_eq_true rfl, Nat.le_of_ble_eq_true rfl⟩
  · (exact mk_O)
  refine sp_M_expectT hT hA ha h0 ht (fun y hy => ?_)
  exact a_return d_M_readCounter_338 rfl (hK y hy)

set_option maxHeartbeats 1000000 in
set_option maxRecDepth 100000 in
theorem c_M_153XF {v : Int32} (h0 : x.1 24 = 0) (ht0 : ¬ x.1 20 = 0) (ht : ¬ x.1 20 = 1) (hK : K none (mk σ0 m (muX x 0))) : a_J G m_M_readCounter 9 194 153 [(0, .ref m), (1, .int v)] [] (mk σ0 m x) K := by
  refine a_aload_n d_M_readCounter_153 rfl rfl ?_
  refine m_get d_M_readCounter_154 f_M_126 rfl ?_
  refine a_if_ne (tgt := 333) d_M_readCounter_157 (by decide) (fun n9 => absurd (h0) n9) (fun c_1 => ?_)
  refine a_aload_n d_M_readCounter_160 rfl rfl ?_
  refine m_get d_M_readCounter_161 f_M_149 rfl ?_
  refine a_if_ne (tgt := 333) d_M_readCounter_164 (by decide) (fun c_2 => ?_) (fun n9 => absurd n9 (ht0))
  refine a_aload_n d_M_readCounter_333 rfl rfl ?_
  refine a_iconst (v := 1) d_M_readCounter_334 (by decide) ?_
  apply a_callV (ci := 7) 3 70 [_] _ d_M_readCounter_335 l_M_279 ⟨im_M_expect, se_M_expect⟩ rfl rfl rfl rfl (Nat.le_of_ble_eq_true rfl) ⟨Nat.le_of_ble_eq_true rfl, Nat.le_of_ble_eq_true rfl⟩
  · (exact mk_O)
  refine sp_M_expectF ht ?_
  exact a_return d_M_readCounter_338 rfl (hK)

set_option maxHeartbeats 1000000 in
set_option maxRecDepth 100000 in
theorem c_M_153W (h0 : x.1 24 = 0) (ht : x.1 20 = 0) (hK : K none (mk σ0 m (wrX x 2 (x.1 21)))) : a_J G m_M_readCounter 9 194 153 [(0, .ref m), (1, .int 4)] [] (mk σ0 m x) K := by
  refine a_aload_n d_M_readCounter_153 rfl rfl ?_
  refine m_get d_M_readCounter_154 f_M_126 rfl ?_
  refine a_if_ne (tgt := 333) d_M_readCounter_157 (by decide) (fun n9 => absurd (h0) n9) (fun c_1 => ?_)
  refine a_aload_n d_M_readCounter_160 rfl rfl ?_
  refine m_get d_M_readCounter_161 f_M_149 rfl ?_
  refine a_if_ne (tgt := 333) d_M_readCounter_164 (by decide) (fun n9 => absurd (ht) n9) (fun c_2 => ?_)
  refine a_iload_n d_M_readCounter_167 rfl rfl ?_
  refine a_iconst (v := 4) d_M_readCounter_168 (by decide) ?_
  refine a_icmp_ne (tgt := 182) d_M_readCounter_169 (by decide) (fun n9 => absurd (rfl) n9) (fun c_3 => ?_)
  refine a_aload_n d_M_readCounter_172 rfl rfl ?_
  refine a_iconst (v := 2) d_M_readCounter_173 (by decide) ?_
  refine a_aload_n d_M_readCounter_174 rfl rfl ?_
  refine m_get d_M_readCounter_175 f_M_146 rfl ?_
  apply a_callV (ci := 7) 0 0 [_, _] _ d_M_readCounter_178 l_M_155 ⟨im_M_wrong, se_M_wrong⟩ rfl rfl rfl rfl (Nat.le_of_ble_eq_true rfl) ⟨Nat.le_of_ble_eq_true rfl, Nat.le_of_ble_eq_true rfl⟩
  · (exact mk_O)
  refine sp_M_wrong ?_
  exact a_return d_M_readCounter_181 rfl hK

set_option maxHeartbeats 1000000 in
set_option maxRecDepth 100000 in
theorem c_M_153N {v : Int32} {a : Nat} (hT : MX x n f) (hA : x.1 19 = nI a) (ha : a ≤ n) (h0 : x.1 24 = 0) (ht : x.1 20 = 0) (hv : ¬ v = 4) (hK : ∀ y, NX n f a x y → a_J G m_M_readCounter 9 194 186 [(0, .ref m), (1, .int v)] [] (mk σ0 m y) K) : a_J G m_M_readCounter 9 194 153 [(0, .ref m), (1, .int v)] [] (mk σ0 m x) K := by
  refine a_aload_n d_M_readCounter_153 rfl rfl ?_
  refine m_get d_M_readCounter_154 f_M_126 rfl ?_
  refine a_if_ne (tgt := 333) d_M_readCounter_157 (by decide) (fun n9 => absurd (h0) n9) (fun c_1 => ?_)
  refine a_aload_n d_M_readCounter_160 rfl rfl ?_
  refine m_get d_M_readCounter_161 f_M_149 rfl ?_
  refine a_if_ne (tgt := 333) d_M_readCounter_164 (by decide) (fun n9 => absurd (ht) n9) (fun c_2 => ?_)
  refine a_iload_n d_M_readCounter_167 rfl rfl ?_
  refine a_iconst (v := 4) d_M_readCounter_168 (by decide) ?_
  refine a_icmp_ne (tgt := 182) d_M_readCounter_169 (by decide) (fun c_3 => ?_) (fun n9 => absurd n9 (hv))
  refine a_aload_n d_M_readCounter_182 rfl rfl ?_
  apply a_callV (ci := 7) 2 48 [] _ d_M_readCounter_183 l_M_233 ⟨im_M_next, se_M_next⟩ rfl rfl rfl rfl (Nat.le_of_ble_eq_true rfl) ⟨Nat.le_of_ble_eq_true rfl, Nat.le_of_ble_eq_true rfl⟩
  · (exact mk_O)
  refine sp_M_next (a := a) hT hA ha (fun y hy => ?_)
  exact a_lvk (hK y hy) ⟨rfl, rfl, trivial⟩

set_option maxHeartbeats 4000000 in
theorem lp_M_rules : ∀ (k : Nat) (c : aN) {x : aX}, LKA n f (c.1 1 0) x → (c.1 2 0) = 0 → (c.1 0 0) = 6 → (c.1 10 0) = 0 → c.1 21 ((c.1 4 0) - 1) + k = 5 → AI c → AJ n c → AL c → MGd c x → MC c x (c.1 4 0) → MNd c x → MRl c x (c.1 5 0) → MWy c x (c.1 7 0) → (∀ z, PP x z → HP n f c z → K none (mk σ0 m z)) → a_J G m_M_readCounter 9 194 153 [(0, .ref m), (1, .int (nI (c.1 21 ((c.1 4 0) - 1))))] [] (mk σ0 m x) K := by
  intro k
  induction k with
  | zero =>
    intro c x hx h0 hs hwy hk hA hJ hL hM hMC hMN hMR hMW hK
    have h5 : Q5c c 6 := by have := hA.2.2.2.2.1; unfold Q5 at this; rw [hs] at this; exact this
    unfold Q5c at h5
    exact absurd (hA.1.2.2.1 ((c.1 4 0) - 1) (by omega)) (by omega)
  | succ k ih =>
    intro c x hx h0 hs hwy hk hA hJ hL hM hMC hMN hMR hMW hK
    have h5 : Q5c c 6 := by have := hA.2.2.2.2.1; unfold Q5 at this; rw [hs] at this; exact this
    unfold Q5c at h5
    have hNC : 1 ≤ (c.1 4 0) := by omega
    have hb4 := hA.1.2.2.1 ((c.1 4 0) - 1) (by omega)
    have hle := lx_le n f hx.2.1
    have h6 := stT_6 (tok n f (c.1 1 0)) hs
    by_cases k2 : lxK n f (c.1 1 0) = 2
    · have hd : stT (tok n f (c.1 1 0)) c = gt (tok n f (c.1 1 0)) c 1 := by rw [h6]; unfold a6; rw [if_pos (show (tok n f (c.1 1 0)).1 = 2 from k2)]
      refine c_M_153XT hx.1 hx.2.2.2.2.1 hle.2.2.2 hx.2.2.1 ((tk_1 hx).mpr k2) (fun y hy => ?_)
      obtain ⟨hr, hl⟩ := step_LKA hx h0 (by omega) hd h0 (by show 1 ≤ 1; decide) (by show 1 ≤ 17; decide) rfl hy
      refine hK y hy.pt.pg.pp ?_
      rcases hl with hl | ⟨hl1, hl2⟩
      · have hSM : SM c (gt (tok n f (c.1 1 0)) c 1) := ⟨fun a h1 h2 _ _ _ _ => by show xN (xN c.1 0 0 1) 1 0 _ a = c.1 a; rw [xN_ne h2, xN_ne h1], rfl⟩
        exact Or.inl ⟨gt (tok n f (c.1 1 0)) c 1, hr, h0, rfl, hl, MGd_PT (MGd_SM hM hSM) hy.pt, (hMC.sm hSM).pg hy.pt.pg, (hMN.cg hSM.cg).pg hy.pt.pg, (hMR.sm hSM).pg hy.pt.pg, (hMW.sm hSM).pg hy.pt.pg⟩
      · exact Or.inr ⟨hl1, hl2⟩
    · by_cases k1 : lxK n f (c.1 1 0) = 1
      · by_cases r4 : c.1 21 ((c.1 4 0) - 1) < 4
        · have hd : stT (tok n f (c.1 1 0)) c = gt (tok n f (c.1 1 0)) c 7 := by
            rw [h6]; unfold a6
            rw [if_neg (show ¬ (tok n f (c.1 1 0)).1 = 2 from k2), if_pos]
            exact ⟨k1, by rw [if_pos hwy]; exact r4⟩
          refine c_M_153N hx.1 hx.2.2.2.2.1 hle.2.2.2 hx.2.2.1 ((tk_0 hx).mpr k1) (fun z => absurd ((nI_eq (b := 4) (by omega) (by decide)).mp z) (by omega)) (fun y hy => ?_)
          obtain ⟨hr, hl⟩ := step_LKA hx h0 (by omega) hd h0 (by show 1 ≤ 7; decide) (by show 7 ≤ 17; decide) rfl hy
          rcases hl with hl | ⟨hl1, hl2⟩
          · have hSM : SM c (gt (tok n f (c.1 1 0)) c 7) := ⟨fun a h1 h2 _ _ _ _ => by show xN (xN c.1 0 0 7) 1 0 _ a = c.1 a; rw [xN_ne h2, xN_ne h1], rfl⟩
            have hMd := MGd_PT (MGd_SM hM hSM) hy.pt
            have hMCd : MC (gt (tok n f (c.1 1 0)) c 7) y (c.1 4 0) := (hMC.sm hSM).pg hy.pt.pg
            have hMNd := (hMN.cg hSM.cg).pg hy.pt.pg
            have hMRd : MRl (gt (tok n f (c.1 1 0)) c 7) y (c.1 5 0) := (hMR.sm hSM).pg hy.pt.pg
            have hMWd : MWy (gt (tok n f (c.1 1 0)) c 7) y (c.1 7 0) := (hMW.sm hSM).pg hy.pt.pg
            obtain ⟨d, ed⟩ : ∃ d, d = gt (tok n f (c.1 1 0)) c 7 := ⟨_, rfl⟩
            have hd1 : d.1 1 0 = lxE n f (c.1 1 0) ∧ d.1 0 0 = 7 ∧ d.1 2 0 = 0 ∧ d.1 10 0 = 0 ∧ d.1 4 0 = (c.1 4 0) ∧ d.1 21 ((c.1 4 0) - 1) = c.1 21 ((c.1 4 0) - 1) ∧ d.1 5 0 = (c.1 5 0) ∧ d.1 7 0 = (c.1 7 0) := by rw [ed]; exact ⟨rfl, rfl, h0, hwy, rfl, rfl, rfl, rfl⟩
            rw [← ed] at hl hr hMd hMCd hMNd hMRd hMWd
            rw [← hd1.2.2.2.2.1] at hMCd
            rw [← hd1.2.2.2.2.2.2.1] at hMRd
            rw [← hd1.2.2.2.2.2.2.2] at hMWd
            have hAd := AI_Rc hA hr
            have hNRd : d.1 5 0 < 24 := by
              have q6 := hA.2.2.2.2.2.1
              have q1 := hA.1.1
              rw [hd1.2.2.2.2.2.2.1]; omega
            have hle2 := lx_le n f hl.2.1
            have h7 := stT_7 (tok n f (d.1 1 0)) hd1.2.1
            by_cases w1 : (tok n f (d.1 1 0)).1 = 3 ∧ (tok n f (d.1 1 0)).2.2.2.1 = jS 15
            · have hd2 : stT (tok n f (d.1 1 0)) d = gt (tok n f (d.1 1 0)) ((xN d.1 11 (0) (1)), d.2.1, d.2.2) 8 := by rw [h7]; unfold a7; rw [if_pos hd1.2.2.2.1, if_pos w1]
              refine c_M_186_1 (r := d.1 5 0) (k0 := d.1 4 0 - 1) hl.1 hl.2.2.2.2.1 hle2.2.2.2 hl.2.2.1 (fun z => (W_iff hl (j := 38) (by decide) (by decide)).mp z w1) hMRd.1 (by omega) (by rw [hMCd.1]; congr 1; omega) (fun z hz => ?_)
              have hx5 : LKA n f (d.1 1 0) (sA (sA y 13 (d.1 5 0) (nI (d.1 4 0 - 1))) 14 (d.1 5 0) 1) := hl.keep (fun _ _ _ => rfl) rfl rfl
              obtain ⟨hr2, hl2⟩ := step_LKA hx5 hd1.2.2.1 (by omega) hd2 hd1.2.2.1 (by show 1 ≤ 8; decide) (by show 8 ≤ 17; decide) rfl hz
              have hPP5 : PP y (sA (sA y 13 (d.1 5 0) (nI (d.1 4 0 - 1))) 14 (d.1 5 0) 1) := ⟨fun _ _ => rfl, fun a ha _ _ => by show updA (updA y.2.2.1 13 _ _) 14 _ _ a = _; rw [updA_ne (by omega), updA_ne (by omega)]⟩
              have hPPz : PP x z := (hy.pt.pg.pp.trans hPP5).trans hz.pt.pg.pp
              have hSM2 : SM d (gt (tok n f (d.1 1 0)) ((xN d.1 11 (0) (1)), d.2.1, d.2.2) 8) := ⟨fun a h1 h2 h3 _ _ _ => by show xN (xN (xN d.1 11 0 1) 0 0 8) 1 0 _ a = d.1 a; rw [xN_ne h2, xN_ne h1, xN_ne h3], rfl⟩
              rcases hl2 with hl2 | ⟨hl3, hl4⟩
              · have hrr := hr.trans hr2
                have ez := hz.pt.1
                have hM5 : MGd (gt (tok n f (d.1 1 0)) ((xN d.1 11 (0) (1)), d.2.1, d.2.2) 8) z := MGd_PT (x := (sA (sA y 13 (d.1 5 0) (nI (d.1 4 0 - 1))) 14 (d.1 5 0) 1)) (MGd_SM (c := d) hMd hSM2) hz.pt
                have hC5 : MC (gt (tok n f (d.1 1 0)) ((xN d.1 11 (0) (1)), d.2.1, d.2.2) 8) z (d.1 4 0) := MC.pg (x := (sA (sA y 13 (d.1 5 0) (nI (d.1 4 0 - 1))) 14 (d.1 5 0) 1)) (MC.sm (c := d) hMCd hSM2) hz.pt.pg
                have hN5 : MNd (gt (tok n f (d.1 1 0)) ((xN d.1 11 (0) (1)), d.2.1, d.2.2) 8) z := MNd.pg (x := (sA (sA y 13 (d.1 5 0) (nI (d.1 4 0 - 1))) 14 (d.1 5 0) 1)) (MNd.cg (c := d) hMNd hSM2.cg) hz.pt.pg
                have hR5 : MRl (gt (tok n f (d.1 1 0)) ((xN d.1 11 (0) (1)), d.2.1, d.2.2) 8) z (d.1 5 0) := by
                  refine MRl.pg (x := (sA (sA y 13 (d.1 5 0) (nI (d.1 4 0 - 1))) 14 (d.1 5 0) 1)) (MRl.sm (c := d) ⟨hMRd.1, fun r hr => ?_⟩ hSM2) hz.pt.pg
                  have q := hMRd.2 r hr
                  refine ⟨?_, ?_, q.2.2.1, q.2.2.2.1, q.2.2.2.2⟩
                  · show upd (y.2.2.1 13) (d.1 5 0) _ r = _
                    rw [pk_un (by omega)]; exact q.1
                  · show upd (y.2.2.1 14) (d.1 5 0) _ r = _
                    rw [pk_un (by omega)]; exact q.2.1
                have hW5 : MWy (gt (tok n f (d.1 1 0)) ((xN d.1 11 (0) (1)), d.2.1, d.2.2) 8) z (d.1 7 0) := MWy.pg (x := (sA (sA y 13 (d.1 5 0) (nI (d.1 4 0 - 1))) 14 (d.1 5 0) 1)) (MWy.sm (c := d) hMWd hSM2) hz.pt.pg
                refine c_M_250 (c := (gt (tok n f (d.1 1 0)) ((xN d.1 11 (0) (1)), d.2.1, d.2.2) 8)) hl2 hd1.2.2.1 rfl hd1.2.2.2.1 (AI_Rc hA hrr) (AJ_Rc hx.hf.1 hx.hf.2 hJ hrr) (AL_Rc hA hL hrr) hM5 hC5 hN5 hR5 hW5 (by rw [ez]; exact pk_us) (by rw [ez]; exact pk_us) (fun z2 hz2 hq => ?_)
                rw [nI_1]
                rcases hq with ⟨e, s1, s2, s3, s4, s5, s6, s7, s8, s9, s10, s11, s12, s13⟩ | ⟨s1, s2⟩
                · have s10' : e.1 4 0 = (c.1 4 0) := s10.trans hd1.2.2.2.2.1
                  have s11' : e.1 21 (e.1 4 0 - 1) = c.1 21 ((c.1 4 0) - 1) + 1 := by rw [s11]; show d.1 21 (d.1 4 0 - 1) + 1 = _; rw [hd1.2.2.2.2.1, hd1.2.2.2.2.2.1]
                  have hre := hrr.trans s1
                  have := ih e s4 s2 s3 s12 (by rw [s11']; omega) (AI_Rc hA hre) (AJ_Rc hx.hf.1 hx.hf.2 hJ hre) (AL_Rc hA hL hre) s5 s6 s7 s8 s9 (fun z3 hz3 hq3 => hK z3 ((hPPz.trans hz2).trans hz3) (hq3.of hre))
                  rw [s11'] at this
                  exact this
                · exact c_M_153B s1.ne (hK z2 (hPPz.trans hz2) (Or.inr ⟨s1.of hrr, s2⟩))
              · refine c_M_250B (r := d.1 5 0) ((hz.pt.2 34 (by decide) (by decide) (by decide) (by decide) (by decide)).trans hMRd.1) hl3.ne (c_M_262B ((hz.pt.2 34 (by decide) (by decide) (by decide) (by decide) (by decide)).trans hMRd.1) (by omega) hl3.ne (fun z2 hz2 h1 h2 => ?_))
                exact c_M_153B (by rw [h1]; exact hl3.ne) (hK z2 (hPPz.trans hz2) (Or.inr ⟨(hl3.eq h1 h2).of hr, hz2.mx hl4⟩))
            · by_cases w2 : (tok n f (d.1 1 0)).1 = 3 ∧ (tok n f (d.1 1 0)).2.2.2.1 = jS 16
              · have hd2 : stT (tok n f (d.1 1 0)) d = gt (tok n f (d.1 1 0)) ((xN d.1 11 (0) (0)), d.2.1, d.2.2) 8 := by rw [h7]; unfold a7; rw [if_pos hd1.2.2.2.1, if_neg w1, if_pos w2]
                refine c_M_186_0 (r := d.1 5 0) (k0 := d.1 4 0 - 1) hl.1 hl.2.2.2.2.1 hle2.2.2.2 hl.2.2.1 ((W_iff hl (j := 38) (by decide) (by decide)).mpr w1) (fun z => (W_iff hl (j := 39) (by decide) (by decide)).mp z w2) hMRd.1 (by omega) (by rw [hMCd.1]; congr 1; omega) (fun z hz => ?_)
                have hx5 : LKA n f (d.1 1 0) (sA (sA y 13 (d.1 5 0) (nI (d.1 4 0 - 1))) 14 (d.1 5 0) 0) := hl.keep (fun _ _ _ => rfl) rfl rfl
                obtain ⟨hr2, hl2⟩ := step_LKA hx5 hd1.2.2.1 (by omega) hd2 hd1.2.2.1 (by show 1 ≤ 8; decide) (by show 8 ≤ 17; decide) rfl hz
                have hPP5 : PP y (sA (sA y 13 (d.1 5 0) (nI (d.1 4 0 - 1))) 14 (d.1 5 0) 0) := ⟨fun _ _ => rfl, fun a ha _ _ => by show updA (updA y.2.2.1 13 _ _) 14 _ _ a = _; rw [updA_ne (by omega), updA_ne (by omega)]⟩
                have hPPz : PP x z := (hy.pt.pg.pp.trans hPP5).trans hz.pt.pg.pp
                have hSM2 : SM d (gt (tok n f (d.1 1 0)) ((xN d.1 11 (0) (0)), d.2.1, d.2.2) 8) := ⟨fun a h1 h2 h3 _ _ _ => by show xN (xN (xN d.1 11 0 0) 0 0 8) 1 0 _ a = d.1 a; rw [xN_ne h2, xN_ne h1, xN_ne h3], rfl⟩
                rcases hl2 with hl2 | ⟨hl3, hl4⟩
                · have hrr := hr.trans hr2
                  have ez := hz.pt.1
                  have hM5 : MGd (gt (tok n f (d.1 1 0)) ((xN d.1 11 (0) (0)), d.2.1, d.2.2) 8) z := MGd_PT (x := (sA (sA y 13 (d.1 5 0) (nI (d.1 4 0 - 1))) 14 (d.1 5 0) 0)) (MGd_SM (c := d) hMd hSM2) hz.pt
                  have hC5 : MC (gt (tok n f (d.1 1 0)) ((xN d.1 11 (0) (0)), d.2.1, d.2.2) 8) z (d.1 4 0) := MC.pg (x := (sA (sA y 13 (d.1 5 0) (nI (d.1 4 0 - 1))) 14 (d.1 5 0) 0)) (MC.sm (c := d) hMCd hSM2) hz.pt.pg
                  have hN5 : MNd (gt (tok n f (d.1 1 0)) ((xN d.1 11 (0) (0)), d.2.1, d.2.2) 8) z := MNd.pg (x := (sA (sA y 13 (d.1 5 0) (nI (d.1 4 0 - 1))) 14 (d.1 5 0) 0)) (MNd.cg (c := d) hMNd hSM2.cg) hz.pt.pg
                  have hR5 : MRl (gt (tok n f (d.1 1 0)) ((xN d.1 11 (0) (0)), d.2.1, d.2.2) 8) z (d.1 5 0) := by
                    refine MRl.pg (x := (sA (sA y 13 (d.1 5 0) (nI (d.1 4 0 - 1))) 14 (d.1 5 0) 0)) (MRl.sm (c := d) ⟨hMRd.1, fun r hr => ?_⟩ hSM2) hz.pt.pg
                    have q := hMRd.2 r hr
                    refine ⟨?_, ?_, q.2.2.1, q.2.2.2.1, q.2.2.2.2⟩
                    · show upd (y.2.2.1 13) (d.1 5 0) _ r = _
                      rw [pk_un (by omega)]; exact q.1
                    · show upd (y.2.2.1 14) (d.1 5 0) _ r = _
                      rw [pk_un (by omega)]; exact q.2.1
                  have hW5 : MWy (gt (tok n f (d.1 1 0)) ((xN d.1 11 (0) (0)), d.2.1, d.2.2) 8) z (d.1 7 0) := MWy.pg (x := (sA (sA y 13 (d.1 5 0) (nI (d.1 4 0 - 1))) 14 (d.1 5 0) 0)) (MWy.sm (c := d) hMWd hSM2) hz.pt.pg
                  refine c_M_250 (c := (gt (tok n f (d.1 1 0)) ((xN d.1 11 (0) (0)), d.2.1, d.2.2) 8)) hl2 hd1.2.2.1 rfl hd1.2.2.2.1 (AI_Rc hA hrr) (AJ_Rc hx.hf.1 hx.hf.2 hJ hrr) (AL_Rc hA hL hrr) hM5 hC5 hN5 hR5 hW5 (by rw [ez]; exact pk_us) (by rw [ez]; exact pk_us) (fun z2 hz2 hq => ?_)
                  rw [nI_1]
                  rcases hq with ⟨e, s1, s2, s3, s4, s5, s6, s7, s8, s9, s10, s11, s12, s13⟩ | ⟨s1, s2⟩
                  · have s10' : e.1 4 0 = (c.1 4 0) := s10.trans hd1.2.2.2.2.1
                    have s11' : e.1 21 (e.1 4 0 - 1) = c.1 21 ((c.1 4 0) - 1) + 1 := by rw [s11]; show d.1 21 (d.1 4 0 - 1) + 1 = _; rw [hd1.2.2.2.2.1, hd1.2.2.2.2.2.1]
                    have hre := hrr.trans s1
                    have := ih e s4 s2 s3 s12 (by rw [s11']; omega) (AI_Rc hA hre) (AJ_Rc hx.hf.1 hx.hf.2 hJ hre) (AL_Rc hA hL hre) s5 s6 s7 s8 s9 (fun z3 hz3 hq3 => hK z3 ((hPPz.trans hz2).trans hz3) (hq3.of hre))
                    rw [s11'] at this
                    exact this
                  · exact c_M_153B s1.ne (hK z2 (hPPz.trans hz2) (Or.inr ⟨s1.of hrr, s2⟩))
                · refine c_M_250B (r := d.1 5 0) ((hz.pt.2 34 (by decide) (by decide) (by decide) (by decide) (by decide)).trans hMRd.1) hl3.ne (c_M_262B ((hz.pt.2 34 (by decide) (by decide) (by decide) (by decide) (by decide)).trans hMRd.1) (by omega) hl3.ne (fun z2 hz2 h1 h2 => ?_))
                  exact c_M_153B (by rw [h1]; exact hl3.ne) (hK z2 (hPPz.trans hz2) (Or.inr ⟨(hl3.eq h1 h2).of hr, hz2.mx hl4⟩))
              · have hd2 : stT (tok n f (d.1 1 0)) d = wr (tok n f (d.1 1 0)) d := by rw [h7]; unfold a7; rw [if_pos hd1.2.2.2.1, if_neg w1, if_neg w2]
                exact c_M_186F ((W_iff hl (j := 38) (by decide) (by decide)).mpr w1) ((W_iff hl (j := 39) (by decide) (by decide)).mpr w2) (c_M_153B (mu_ne y) (hK _ (hy.pt.trans (PT.mu y)).pg.pp (Or.inr ⟨(BAD_must hl hd1.2.2.1 (by omega) hd2).of hr, (PT.mu y).mx hl.1⟩)))
          · exact c_M_186B hl1.ne (c_M_153B hl1.ne (hK y hy.pt.pg.pp (Or.inr ⟨hl1, hl2⟩)))
        · have hd : stT (tok n f (c.1 1 0)) c = wr (tok n f (c.1 1 0)) c := by
            rw [h6]; unfold a6
            rw [if_neg (show ¬ (tok n f (c.1 1 0)).1 = 2 from k2), if_neg]
            intro z
            have z2 := z.2
            rw [if_pos hwy] at z2
            exact r4 z2
          rw [show c.1 21 ((c.1 4 0) - 1) = 4 by omega]
          refine c_M_153W hx.2.2.1 ((tk_0 hx).mpr k1) ?_
          rw [← mu_2 hx (by rw [k1]; decide)]
          exact hK _ (PT.mu x).pg.pp (Or.inr ⟨BAD_must hx h0 (by omega) hd, (PT.mu x).mx hx.1⟩)
      · have hd : stT (tok n f (c.1 1 0)) c = wr (tok n f (c.1 1 0)) c := by
          rw [h6]; unfold a6
          rw [if_neg (show ¬ (tok n f (c.1 1 0)).1 = 2 from k2), if_neg (fun z => k1 z.1)]
        exact c_M_153XF hx.2.2.1 (fun z => k1 ((tk_0 hx).mp z)) (fun z => k2 ((tk_1 hx).mp z)) (hK _ (PT.mu x).pg.pp (Or.inr ⟨BAD_must hx h0 (by omega) hd, (PT.mu x).mx hx.1⟩))
end ModM16
