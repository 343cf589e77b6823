/-! THE MODEL's ways: goal and close -/
section ModM18
variable {G : aG} {σ0 : aS} {K : Option Value → aS → Prop} {m n : Nat} {f : Nat → Nat} {x : aX} {c : aN}
set_option maxHeartbeats 1000000 in
set_option maxRecDepth 100000 in
theorem n_M_94B {v : Int32} (h0 : ¬ x.1 24 = 0) (hK : K none (mk σ0 m x)) : a_J G m_M_readNode 9 194 94 [(0, .ref m), (1, .int v)] [] (mk σ0 m x) K := by
  refine a_aload_n d_M_readNode_94 rfl rfl ?_
  refine m_get d_M_readNode_95 f_M_126 rfl ?_
  refine a_if_ne (tgt := 274) d_M_readNode_98 (by decide) (fun c_1 => ?_) (fun n9 => absurd n9 (h0))
  refine a_aload_n d_M_readNode_274 rfl rfl ?_
  refine a_iconst (v := 1) d_M_readNode_275 (by decide) ?_
  apply a_callV (ci := 7) 3 70 [_] _ d_M_readNode_276 l_M_279 ⟨im_M_expect, se_M_expect⟩ rfl rfl rfl rfl (Nat.le_of_ble_eq_true rfl) ⟨Nat.le_of_ble_eq_true rfl, Nat.le_of_ble_eq_true rfl⟩
  · (exact mk_O)
  refine sp_M_expectB h0 ?_
  exact a_return d_M_readNode_279 rfl hK

set_option maxHeartbeats 1000000 in
set_option maxRecDepth 100000 in
theorem n_M_266T {v : Int32} (hT : MX x n f) {a : Nat} (hA : x.1 19 = nI a) (ha : a ≤ n) (h0 : x.1 24 = 0) (ht : x.1 20 = 1) (hK : ∀ y, NX n f a x y → a_J G m_M_readNode 9 194 94 [(0, .ref m), (1, .int v)] [] (mk σ0 m y) K) : a_J G m_M_readNode 9 194 266 [(0, .ref m), (1, .int v)] [] (mk σ0 m x) K := by
  refine a_aload_n d_M_readNode_266 rfl rfl ?_
  refine a_iconst (v := 1) d_M_readNode_267 (by decide) ?_
  apply a_callV (ci := 7) 3 70 [_] _ d_M_readNode_268 l_M_279 ⟨im_M_expect, se_M_expect⟩ rfl rfl rfl rfl (Nat.le_of_ble_eq_true rfl) ⟨Nat.le_of_ble_eq_true rfl, Nat.le_of_ble_eq_true rfl⟩
  · (exact mk_O)
  refine sp_M_expectT hT hA ha h0 ht (fun y hy => ?_)
  refine a_goto (tgt := 94) d_M_readNode_271 (by decide) ?_
  exact a_lvk (hK y hy) ⟨rfl, rfl, trivial⟩

set_option maxHeartbeats 1000000 in
set_option maxRecDepth 100000 in
theorem n_M_266F {v : Int32} (ht : ¬ x.1 20 = 1) (hK : a_J G m_M_readNode 9 194 94 [(0, .ref m), (1, .int v)] [] (mk σ0 m (muX x 0)) K) : a_J G m_M_readNode 9 194 266 [(0, .ref m), (1, .int v)] [] (mk σ0 m x) K := by
  refine a_aload_n d_M_readNode_266 rfl rfl ?_
  refine a_iconst (v := 1) d_M_readNode_267 (by decide) ?_
  apply a_callV (ci := 7) 3 70 [_] _ d_M_readNode_268 l_M_279 ⟨im_M_expect, se_M_expect⟩ rfl rfl rfl rfl (Nat.le_of_ble_eq_true rfl) ⟨Nat.le_of_ble_eq_true rfl, Nat.le_of_ble_eq_true rfl⟩
  · (exact mk_O)
  refine sp_M_expectF ht ?_
  refine a_goto (tgt := 94) d_M_readNode_271 (by decide) ?_
  exact a_lvk (hK) ⟨rfl, rfl, trivial⟩

set_option maxHeartbeats 1000000 in
set_option maxRecDepth 100000 in
theorem n_M_266B {v : Int32} (h0 : ¬ x.1 24 = 0) (hK : a_J G m_M_readNode 9 194 94 [(0, .ref m), (1, .int v)] [] (mk σ0 m x) K) : a_J G m_M_readNode 9 194 266 [(0, .ref m), (1, .int v)] [] (mk σ0 m x) K := by
  refine a_aload_n d_M_readNode_266 rfl rfl ?_
  refine a_iconst (v := 1) d_M_readNode_267 (by decide) ?_
  apply a_callV (ci := 7) 3 70 [_] _ d_M_readNode_268 l_M_279 ⟨im_M_expect, se_M_expect⟩ rfl rfl rfl rfl (Nat.le_of_ble_eq_true rfl) ⟨Nat.le_of_ble_eq_true rfl, Nat.le_of_ble_eq_true rfl⟩
  · (exact mk_O)
  refine sp_M_expectB h0 ?_
  refine a_goto (tgt := 94) d_M_readNode_271 (by decide) ?_
  exact a_lvk (hK) ⟨rfl, rfl, trivial⟩

set_option maxHeartbeats 1000000 in
set_option maxRecDepth 100000 in
theorem n_M_149B {v w g : Int32} (h0 : ¬ x.1 24 = 0) (hK : a_J G m_M_readNode 9 194 94 [(0, .ref m), (1, .int v)] [] (mk σ0 m x) K) : a_J G m_M_readNode 9 194 149 [(0, .ref m), (1, .int v), (2, .int w), (3, .int g)] [] (mk σ0 m x) K := by
  refine a_aload_n d_M_readNode_149 rfl rfl ?_
  refine a_aload_n d_M_readNode_150 rfl rfl ?_
  refine m_get d_M_readNode_151 f_M_149 rfl ?_
  refine a_iconst (v := 2) d_M_readNode_154 (by decide) ?_
  refine a_icmp_ne (tgt := 169) d_M_readNode_155 (by decide) (fun c_1 => ?_) (fun c_1 => ?_)
  · refine a_iconst (v := 0) d_M_readNode_169 (by decide) ?_
    apply a_callV (ci := 7) 1 22 [_] _ d_M_readNode_170 l_M_229 ⟨im_M_must, se_M_must⟩ rfl rfl rfl rfl (Nat.le_of_ble_eq_true rfl) ⟨Nat.le_of_ble_eq_true rfl, Nat.le_of_ble_eq_true rfl⟩
    · (exact mk_O)
    refine sp_M_mustB h0 ?_
    refine a_if_eq (tgt := 271) d_M_readNode_173 (by decide) (fun c_2 => ?_) (fun n9 => absurd (rfl) n9)
    refine a_goto (tgt := 94) d_M_readNode_271 (by decide) ?_
    exact a_lvk hK ⟨rfl, rfl, trivial⟩
  · refine a_aload_n d_M_readNode_158 rfl rfl ?_
    apply a_callV (ci := 7) 6 129 [] _ d_M_readNode_159 l_M_263 ⟨im_M_isReserved, se_M_isReserved⟩ rfl rfl rfl rfl (Nat.le_of_ble_eq_true rfl) ⟨Nat.le_of_ble_eq_true rfl, Nat.le_of_ble_eq_true rfl⟩
    · (exact mk_O)
    refine sp_M_isReserved ?_
    refine a_if_ne (tgt := 169) d_M_readNode_162 (by decide) (fun c_3 => ?_) (fun c_3 => ?_)
    · refine a_iconst (v := 0) d_M_readNode_169 (by decide) ?_
      apply a_callV (ci := 7) 1 22 [_] _ d_M_readNode_170 l_M_229 ⟨im_M_must, se_M_must⟩ rfl rfl rfl rfl (Nat.le_of_ble_eq_true rfl) ⟨Nat.le_of_ble_eq_true rfl, Nat.le_of_ble_eq_true rfl⟩
      · (exact mk_O)
      refine sp_M_mustB h0 ?_
      refine a_if_eq (tgt := 271) d_M_readNode_173 (by decide) (fun c_4 => ?_) (fun n9 => absurd (rfl) n9)
      refine a_goto (tgt := 94) d_M_readNode_271 (by decide) ?_
      exact a_lvk hK ⟨rfl, rfl, trivial⟩
    · refine a_iconst (v := 1) d_M_readNode_165 (by decide) ?_
      refine a_goto (tgt := 170) d_M_readNode_166 (by decide) ?_
      apply a_callV (ci := 7) 1 22 [_] _ d_M_readNode_170 l_M_229 ⟨im_M_must, se_M_must⟩ rfl rfl rfl rfl (Nat.le_of_ble_eq_true rfl) ⟨Nat.le_of_ble_eq_true rfl, Nat.le_of_ble_eq_true rfl⟩
      · (exact mk_O)
      refine sp_M_mustB h0 ?_
      refine a_if_eq (tgt := 271) d_M_readNode_173 (by decide) (fun c_5 => ?_) (fun n9 => absurd (rfl) n9)
      refine a_goto (tgt := 94) d_M_readNode_271 (by decide) ?_
      exact a_lvk hK ⟨rfl, rfl, trivial⟩

set_option maxHeartbeats 1000000 in
set_option maxRecDepth 100000 in
theorem n_M_149F {v w g : Int32} (ht : ¬ (x.1 20 = 2 ∧ mR x = 0)) (hK : a_J G m_M_readNode 9 194 94 [(0, .ref m), (1, .int v)] [] (mk σ0 m (muX x 0)) K) : a_J G m_M_readNode 9 194 149 [(0, .ref m), (1, .int v), (2, .int w), (3, .int g)] [] (mk σ0 m x) K := by
  refine a_aload_n d_M_readNode_149 rfl rfl ?_
  refine a_aload_n d_M_readNode_150 rfl rfl ?_
  refine m_get d_M_readNode_151 f_M_149 rfl ?_
  refine a_iconst (v := 2) d_M_readNode_154 (by decide) ?_
  refine a_icmp_ne (tgt := 169) d_M_readNode_155 (by decide) (fun c_1 => ?_) (fun c_1 => ?_)
  · refine a_iconst (v := 0) d_M_readNode_169 (by decide) ?_
    apply a_callV (ci := 7) 1 22 [_] _ d_M_readNode_170 l_M_229 ⟨im_M_must, se_M_must⟩ rfl rfl rfl rfl (Nat.le_of_ble_eq_true rfl) ⟨Nat.le_of_ble_eq_true rfl, Nat.le_of_ble_eq_true rfl⟩
    · (exact mk_O)
    refine sp_M_mustF rfl ?_
    refine a_if_eq (tgt := 271) d_M_readNode_173 (by decide) (fun c_2 => ?_) (fun n9 => absurd (rfl) n9)
    refine a_goto (tgt := 94) d_M_readNode_271 (by decide) ?_
    exact a_lvk hK ⟨rfl, rfl, trivial⟩
  · refine a_aload_n d_M_readNode_158 rfl rfl ?_
    apply a_callV (ci := 7) 6 129 [] _ d_M_readNode_159 l_M_263 ⟨im_M_isReserved, se_M_isReserved⟩ rfl rfl rfl rfl (Nat.le_of_ble_eq_true rfl) ⟨Nat.le_of_ble_eq_true rfl, Nat.le_of_ble_eq_true rfl⟩
    · (exact mk_O)
    refine sp_M_isReserved ?_
    refine a_if_ne (tgt := 169) d_M_readNode_162 (by decide) (fun c_3 => ?_) (fun c_3 => ?_)
    · refine a_iconst (v := 0) d_M_readNode_169 (by decide) ?_
      apply a_callV (ci := 7) 1 22 [_] _ d_M_readNode_170 l_M_229 ⟨im_M_must, se_M_must⟩ rfl rfl rfl rfl (Nat.le_of_ble_eq_true rfl) ⟨Nat.le_of_ble_eq_true rfl, Nat.le_of_ble_eq_true rfl⟩
      · (exact mk_O)
      refine sp_M_mustF rfl ?_
      refine a_if_eq (tgt := 271) d_M_readNode_173 (by decide) (fun c_4 => ?_) (fun n9 => absurd (rfl) n9)
      refine a_goto (tgt := 94) d_M_readNode_271 (by decide) ?_
      exact a_lvk hK ⟨rfl, rfl, trivial⟩
    · exact absurd ⟨by first | assumption | exact Decidable.not_not.mp (by assumption), by first | assumption | exact Decidable.not_not.mp (by assumption)⟩ ht

set_option maxHeartbeats 1000000 in
set_option maxRecDepth 100000 in
theorem n_M_149T {v w g : Int32} {r k0 l a : Nat} (hT : MX x n f) (hA : x.1 19 = nI a) (ha : a ≤ n) (h0 : x.1 24 = 0) (ht : x.1 20 = 2 ∧ mR x = 0) (hr : x.1 43 = nI r) (hr9 : r < 192) (hk0 : x.1 36 = nI (k0 + 1)) (hl : x.1 52 = nI l) (hl2 : l < 1250) (hK : ∀ y, NX n f a (sI (ntX (sB (sA (sA (sA (sA x 19 r (nI k0)) 20 r w) 21 r g) 22 r (x.1 50 - g)) 23 r (x.2.1 22)) l 1 (nI r) 0) 43 (nI (r + 1))) y → a_J G m_M_readNode 9 194 266 [(0, .ref m), (1, .int (v + 1))] [] (mk σ0 m y) K) : a_J G m_M_readNode 9 194 149 [(0, .ref m), (1, .int v), (2, .int w), (3, .int g)] [] (mk σ0 m x) K := by
  refine a_aload_n d_M_readNode_149 rfl rfl ?_
  refine a_aload_n d_M_readNode_150 rfl rfl ?_
  refine m_get d_M_readNode_151 f_M_149 rfl ?_
  refine a_iconst (v := 2) d_M_readNode_154 (by decide) ?_
  refine a_icmp_ne (tgt := 169) d_M_readNode_155 (by decide) (fun n9 => absurd (ht.1) n9) (fun c_1 => ?_)
  refine a_aload_n d_M_readNode_158 rfl rfl ?_
  apply a_callV (ci := 7) 6 129 [] _ d_M_readNode_159 l_M_263 ⟨im_M_isReserved, se_M_isReserved⟩ rfl rfl rfl rfl (Nat.le_of_ble_eq_true rfl) ⟨Nat.le_of_ble_eq_true rfl, Nat.le_of_ble_eq_true rfl⟩
  · (exact mk_O)
  refine sp_M_isReserved ?_
  refine a_if_ne (tgt := 169) d_M_readNode_162 (by decide) (fun n9 => absurd (ht.2) n9) (fun c_2 => ?_)
  refine a_iconst (v := 1) d_M_readNode_165 (by decide) ?_
  refine a_goto (tgt := 170) d_M_readNode_166 (by decide) ?_
  apply a_callV (ci := 7) 1 22 [_] _ d_M_readNode_170 l_M_229 ⟨im_M_must, se_M_must⟩ rfl rfl rfl rfl (Nat.le_of_ble_eq_true rfl) ⟨Nat.le_of_ble_eq_true rfl, Nat.le_of_ble_eq_true rfl⟩
  · (exact mk_O)
  refine sp_M_mustT (by decide) h0 ?_
  refine a_if_eq (tgt := 271) d_M_readNode_173 (by decide) (fun n9 => absurd n9 (by decide)) (fun c_3 => ?_)
  refine a_aload_n d_M_readNode_176 rfl rfl ?_
  refine m_get d_M_readNode_177 f_M_70 rfl ?_
  refine a_aload_n d_M_readNode_180 rfl rfl ?_
  refine m_get (v := .int (nI r)) d_M_readNode_181 f_M_245 (congrArg (fun z => some (Value.int z)) hr) ?_
  refine a_aload_n d_M_readNode_184 rfl rfl ?_
  refine m_get (v := .int (nI (k0 + 1))) d_M_readNode_185 f_M_242 (congrArg (fun z => some (Value.int z)) hk0) ?_
  refine a_iconst (v := 1) d_M_readNode_188 (by decide) ?_
  refine a_isub d_M_readNode_189 ?_
  rw [nI_pred]
  refine m_iast d_M_readNode_190 (by decide) rfl (vp_in_nI (show r < 192 by omega) (by decide)) ?_
  rw [nI_clamp (show r < 2 ^ 31 by omega)]
  refine a_aload_n d_M_readNode_191 rfl rfl ?_
  refine m_get d_M_readNode_192 f_M_73 rfl ?_
  refine a_aload_n d_M_readNode_195 rfl rfl ?_
  refine m_get (v := .int (nI r)) d_M_readNode_196 f_M_245 (congrArg (fun z => some (Value.int z)) hr) ?_
  refine a_iload_n d_M_readNode_199 rfl rfl ?_
  refine m_iast d_M_readNode_200 (by decide) rfl (vp_in_nI (show r < 192 by omega) (by decide)) ?_
  rw [nI_clamp (show r < 2 ^ 31 by omega)]
  refine a_aload_n d_M_readNode_201 rfl rfl ?_
  refine m_get d_M_readNode_202 f_M_76 rfl ?_
  refine a_aload_n d_M_readNode_205 rfl rfl ?_
  refine m_get (v := .int (nI r)) d_M_readNode_206 f_M_245 (congrArg (fun z => some (Value.int z)) hr) ?_
  refine a_iload_n d_M_readNode_209 rfl rfl ?_
  refine m_iast d_M_readNode_210 (by decide) rfl (vp_in_nI (show r < 192 by omega) (by decide)) ?_
  rw [nI_clamp (show r < 2 ^ 31 by omega)]
  refine a_aload_n d_M_readNode_211 rfl rfl ?_
  refine m_get d_M_readNode_212 f_M_79 rfl ?_
  refine a_aload_n d_M_readNode_215 rfl rfl ?_
  refine m_get (v := .int (nI r)) d_M_readNode_216 f_M_245 (congrArg (fun z => some (Value.int z)) hr) ?_
  refine a_aload_n d_M_readNode_219 rfl rfl ?_
  refine m_get d_M_readNode_220 f_M_248 rfl ?_
  refine a_iload_n d_M_readNode_223 rfl rfl ?_
  refine a_isub d_M_readNode_224 ?_
  refine m_iast d_M_readNode_225 (by decide) rfl (vp_in_nI (show r < 192 by omega) (by decide)) ?_
  rw [nI_clamp (show r < 2 ^ 31 by omega)]
  refine a_aload_n d_M_readNode_226 rfl rfl ?_
  refine m_get d_M_readNode_227 f_M_82 rfl ?_
  refine a_aload_n d_M_readNode_230 rfl rfl ?_
  refine m_get (v := .int (nI r)) d_M_readNode_231 f_M_245 (congrArg (fun z => some (Value.int z)) hr) ?_
  refine a_aload_n d_M_readNode_234 rfl rfl ?_
  refine m_get d_M_readNode_235 f_M_166 rfl ?_
  refine m_last d_M_readNode_238 (by decide) rfl (vp_in_nI (show r < 192 by omega) (by decide)) ?_
  rw [nI_clamp (show r < 2 ^ 31 by omega)]
  refine a_aload_n d_M_readNode_239 rfl rfl ?_
  refine a_iconst (v := 1) d_M_readNode_240 (by decide) ?_
  refine a_aload_n d_M_readNode_241 rfl rfl ?_
  refine m_get (v := .int (nI r)) d_M_readNode_242 f_M_245 (congrArg (fun z => some (Value.int z)) hr) ?_
  refine a_iconst (v := 0) d_M_readNode_245 (by decide) ?_
  apply a_callV (ci := 7) 0 0 [_, _, _] _ d_M_readNode_246 l_M_286 ⟨im_M_note, se_M_note⟩ rfl rfl rfl rfl (Nat.le_of_ble_eq_true rfl) ⟨Nat.le_of_ble_eq_true rfl, Nat.le_of_ble_eq_true rfl⟩
  · (exact mk_O)
  refine sp_M_note (l := l) hl hl2 ?_
  refine a_aload_n d_M_readNode_249 rfl rfl ?_
  refine a_dup d_M_readNode_250 rfl ?_
  refine m_get (v := .int (nI r)) d_M_readNode_251 f_M_245 (congrArg (fun z => some (Value.int z)) hr) ?_
  refine a_iconst (v := 1) d_M_readNode_254 (by decide) ?_
  refine a_iadd d_M_readNode_255 ?_
  rw [nI_1]
  refine m_putI d_M_readNode_256 p_M_245 rfl rfl (by decide) ?_
  refine a_iinc (c0 := 1) d_M_readNode_259 rfl (by decide) (by decide) ?_
  refine a_aload_n d_M_readNode_262 rfl rfl ?_
  apply a_callV (ci := 7) 2 48 [] _ d_M_readNode_263 l_M_233 ⟨im_M_next, se_M_next⟩ rfl rfl rfl rfl (Nat.le_of_ble_eq_true rfl) ⟨Nat.le_of_ble_eq_true rfl, Nat.le_of_ble_eq_true rfl⟩
  · (exact mk_O)
  refine sp_M_next (a := a) hT hA ha (fun y hy => ?_)
  exact a_lvk (hK y hy) ⟨rfl, rfl, trivial⟩

/-- what a way leaves -/
def WP_ (n : Nat) (f : Nat → Nat) (c : aN) (z : aX) : Prop := (∃ e, aRc n f c e ∧ e.1 2 0 = 0 ∧ e.1 0 0 = 6 ∧ LKA n f (e.1 1 0) z ∧ MGd e z ∧ MC e z (e.1 4 0) ∧ MNd e z ∧ MRl e z (e.1 5 0) ∧ MWy e z (e.1 7 0) ∧ e.1 6 0 = (c.1 6 0) ∧ e.1 22 = c.1 22 ∧ e.1 10 0 = (c.1 10 0)) ∨ (BAD n f c z ∧ MX z n f)
set_option maxHeartbeats 4000000 in
theorem n_M_149 {v w : Int32} (hx : LKA n f (c.1 1 0) x) (h0 : (c.1 2 0) = 0) (hs : (c.1 0 0) = 9) (hwy : ¬ (c.1 10 0) = 0) (ho : ¬ lxK n f (c.1 1 0) = 1) (hA : AI c) (hJ : AJ n c) (hL : AL c) (hM : MGd c x) (hw : w = ccF (acl c)) (hMC : MC c x (c.1 4 0)) (hMN : MNd c x) (hMR : MRl c x (c.1 5 0)) (hMW : MWy c x ((c.1 7 0) - 1)) (hK : ∀ z v2, PP x z → (v2 = v + 1 ∧ WP_ n f c z ∨ (BAD n f c z ∧ MX z n f)) → a_J G m_M_readNode 9 194 94 [(0, .ref m), (1, .int v2)] [] (mk σ0 m z) K) : a_J G m_M_readNode 9 194 149 [(0, .ref m), (1, .int v), (2, .int w), (3, .int (nI (c.1 32 ((c.1 7 0) - 1))))] [] (mk σ0 m x) K := by
  have hle := lx_le n f hx.2.1
  have hNT := NT_lt hA
  have hNL := NL_lt hA hL h0
  have h5 : Q5c c 9 := by have := hA.2.2.2.2.1; unfold Q5 at this; rw [hs] at this; exact this
  unfold Q5c at h5
  have hcur := (h5.2.2.2.2.2.2.1 (by omega)).2 hwy
  have h9 := stT_9 (tok n f (c.1 1 0)) hs
  by_cases w1 : fre (tok n f (c.1 1 0))
  · have hd : stT (tok n f (c.1 1 0)) c = (gt (tok n f (c.1 1 0)) (alk ((xN c.1 35 ((c.1 7 0) - 1) ((tok n f (c.1 1 0)).2.1)), (xL c.2.1 3 ((c.1 7 0) - 1) ((tok n f (c.1 1 0)).2.2.2.1)), c.2.2) 1 ((c.1 7 0) - 1) 0 (tok n f (c.1 1 0)).2.1) 10) := by rw [h9]; unfold a9; rw [if_neg (show ¬ ((tok n f (c.1 1 0)).1 = 1 ∧ acm c < 4) from fun z => ho z.1), if_neg hwy, if_pos w1]
    refine n_M_149T (r := (c.1 7 0) - 1) (k0 := (c.1 6 0) - 1) (l := (c.1 9 0)) hx.1 hx.2.2.2.2.1 hle.2.2.2 hx.2.2.1 ((F_iff hx).mpr w1) hMW.1 (by omega) (by rw [hMN.1]; congr 1; omega) hM.2.1 hNL (fun y hy => ?_)
    have hx3 : LKA n f (c.1 1 0) (sI (ntX (sB (sA (sA (sA (sA x 19 ((c.1 7 0) - 1) (nI ((c.1 6 0) - 1))) 20 ((c.1 7 0) - 1) w) 21 ((c.1 7 0) - 1) (nI (c.1 32 ((c.1 7 0) - 1)))) 22 ((c.1 7 0) - 1) (x.1 50 - (nI (c.1 32 ((c.1 7 0) - 1))))) 23 ((c.1 7 0) - 1) (x.2.1 22)) (c.1 9 0) 1 (nI ((c.1 7 0) - 1)) 0) 43 (nI (((c.1 7 0) - 1) + 1))) := hx.keep (fun k h1 h2 => by show upd (upd x.1 52 _) 43 _ k = x.1 k; rw [pk_un (by omega), pk_un (by omega)]) rfl rfl
    obtain ⟨hr, hl⟩ := step_LKA hx3 h0 (by omega) hd h0 (by show 1 ≤ 10; decide) (by show 10 ≤ 17; decide) rfl hy
    have hPP3 : PP x (sI (ntX (sB (sA (sA (sA (sA x 19 ((c.1 7 0) - 1) (nI ((c.1 6 0) - 1))) 20 ((c.1 7 0) - 1) w) 21 ((c.1 7 0) - 1) (nI (c.1 32 ((c.1 7 0) - 1)))) 22 ((c.1 7 0) - 1) (x.1 50 - (nI (c.1 32 ((c.1 7 0) - 1))))) 23 ((c.1 7 0) - 1) (x.2.1 22)) (c.1 9 0) 1 (nI ((c.1 7 0) - 1)) 0) 43 (nI (((c.1 7 0) - 1) + 1))) := ⟨fun k hk => by show upd (upd x.1 52 _) 43 _ k = x.1 k; rw [pk_un (by omega), pk_un (by omega)], fun a ha _ _ => by show updA (updA (updA (updA (updA (updA (updA (updA x.2.2.1 19 _ _) 20 _ _) 21 _ _) 22 _ _) 31 _ _) 31 _ _) 31 _ _) 31 _ _ a = _; rw [updA_ne (by omega), updA_ne (by omega), updA_ne (by omega), updA_ne (by omega), updA_ne (by omega), updA_ne (by omega), updA_ne (by omega), updA_ne (by omega)]⟩
    have hPPy := hPP3.trans hy.pt.pg.pp
    rcases hl with hl | ⟨hl1, hl2⟩
    · have hLK : ∀ i, ((sI (ntX (sB (sA (sA (sA (sA x 19 ((c.1 7 0) - 1) (nI ((c.1 6 0) - 1))) 20 ((c.1 7 0) - 1) w) 21 ((c.1 7 0) - 1) (nI (c.1 32 ((c.1 7 0) - 1)))) 22 ((c.1 7 0) - 1) (x.1 50 - (nI (c.1 32 ((c.1 7 0) - 1))))) 23 ((c.1 7 0) - 1) (x.2.1 22)) (c.1 9 0) 1 (nI ((c.1 7 0) - 1)) 0) 43 (nI (((c.1 7 0) - 1) + 1)))).2.2.1 31 i = upd (upd (upd (upd (x.2.2.1 31) (4 * (c.1 9 0)) 1) (4 * (c.1 9 0) + 1) (nI ((c.1 7 0) - 1))) (4 * (c.1 9 0) + 2) 0) (4 * (c.1 9 0) + 3) (x.1 21) i := fun i => rfl
      have hMG : MGd (gt (tok n f (c.1 1 0)) (alk ((xN c.1 35 ((c.1 7 0) - 1) ((tok n f (c.1 1 0)).2.1)), (xL c.2.1 3 ((c.1 7 0) - 1) ((tok n f (c.1 1 0)).2.2.2.1)), c.2.2) 1 ((c.1 7 0) - 1) 0 (tok n f (c.1 1 0)).2.1) 10) y := by
        refine MGd_PT (x := (sI (ntX (sB (sA (sA (sA (sA x 19 ((c.1 7 0) - 1) (nI ((c.1 6 0) - 1))) 20 ((c.1 7 0) - 1) w) 21 ((c.1 7 0) - 1) (nI (c.1 32 ((c.1 7 0) - 1)))) 22 ((c.1 7 0) - 1) (x.1 50 - (nI (c.1 32 ((c.1 7 0) - 1))))) 23 ((c.1 7 0) - 1) (x.2.1 22)) (c.1 9 0) 1 (nI ((c.1 7 0) - 1)) 0) 43 (nI (((c.1 7 0) - 1) + 1)))) ⟨hM.1, by show nI ((c.1 9 0) + 1) = nI ((c.1 9 0) + 1); rfl, fun g hg => hM.2.2.1 g hg, fun l hl => ?_⟩ hy.pt
        have hl : l < (c.1 9 0) + 1 := hl
        unfold lOK
        rw [hLK, hLK, hLK, hLK]
        show _ = nI (if l = (c.1 9 0) then 1 else c.1 41 (l)) ∧ _ = nI (if l = (c.1 9 0) then (c.1 7 0) - 1 else c.1 42 (l)) ∧ _ = ccF (if l = (c.1 9 0) then 0 else c.1 43 (l)) ∧ _ = nI (if l = (c.1 9 0) then (tok n f (c.1 1 0)).2.1 else c.1 44 (l))
        by_cases e : l = (c.1 9 0)
        · rw [if_pos e, if_pos e, if_pos e, if_pos e, e]
          rw [pk_un (by omega), pk_un (by omega), pk_un (by omega), pk_us, pk_un (by omega), pk_un (by omega), pk_us, pk_un (by omega), pk_us, pk_us]
          exact ⟨rfl, rfl, rfl, hx.2.2.2.2.2.1⟩
        · rw [if_neg e, if_neg e, if_neg e, if_neg e]
          rw [pk_un (by omega), pk_un (by omega), pk_un (by omega), pk_un (by omega), pk_un (by omega), pk_un (by omega), pk_un (by omega), pk_un (by omega), pk_un (by omega), pk_un (by omega), pk_un (by omega), pk_un (by omega), pk_un (by omega), pk_un (by omega), pk_un (by omega), pk_un (by omega)]
          exact hM.2.2.2 l (by omega)
      have hC' : MC (gt (tok n f (c.1 1 0)) (alk ((xN c.1 35 ((c.1 7 0) - 1) ((tok n f (c.1 1 0)).2.1)), (xL c.2.1 3 ((c.1 7 0) - 1) ((tok n f (c.1 1 0)).2.2.2.1)), c.2.2) 1 ((c.1 7 0) - 1) 0 (tok n f (c.1 1 0)).2.1) 10) y (c.1 4 0) := MC.pg (x := (sI (ntX (sB (sA (sA (sA (sA x 19 ((c.1 7 0) - 1) (nI ((c.1 6 0) - 1))) 20 ((c.1 7 0) - 1) w) 21 ((c.1 7 0) - 1) (nI (c.1 32 ((c.1 7 0) - 1)))) 22 ((c.1 7 0) - 1) (x.1 50 - (nI (c.1 32 ((c.1 7 0) - 1))))) 23 ((c.1 7 0) - 1) (x.2.1 22)) (c.1 9 0) 1 (nI ((c.1 7 0) - 1)) 0) 43 (nI (((c.1 7 0) - 1) + 1)))) (show MC (gt (tok n f (c.1 1 0)) (alk ((xN c.1 35 ((c.1 7 0) - 1) ((tok n f (c.1 1 0)).2.1)), (xL c.2.1 3 ((c.1 7 0) - 1) ((tok n f (c.1 1 0)).2.2.2.1)), c.2.2) 1 ((c.1 7 0) - 1) 0 (tok n f (c.1 1 0)).2.1) 10) (sI (ntX (sB (sA (sA (sA (sA x 19 ((c.1 7 0) - 1) (nI ((c.1 6 0) - 1))) 20 ((c.1 7 0) - 1) w) 21 ((c.1 7 0) - 1) (nI (c.1 32 ((c.1 7 0) - 1)))) 22 ((c.1 7 0) - 1) (x.1 50 - (nI (c.1 32 ((c.1 7 0) - 1))))) 23 ((c.1 7 0) - 1) (x.2.1 22)) (c.1 9 0) 1 (nI ((c.1 7 0) - 1)) 0) 43 (nI (((c.1 7 0) - 1) + 1))) (c.1 4 0) from hMC) hy.pt.pg
      have hN' : MNd (gt (tok n f (c.1 1 0)) (alk ((xN c.1 35 ((c.1 7 0) - 1) ((tok n f (c.1 1 0)).2.1)), (xL c.2.1 3 ((c.1 7 0) - 1) ((tok n f (c.1 1 0)).2.2.2.1)), c.2.2) 1 ((c.1 7 0) - 1) 0 (tok n f (c.1 1 0)).2.1) 10) y := MNd.pg (x := (sI (ntX (sB (sA (sA (sA (sA x 19 ((c.1 7 0) - 1) (nI ((c.1 6 0) - 1))) 20 ((c.1 7 0) - 1) w) 21 ((c.1 7 0) - 1) (nI (c.1 32 ((c.1 7 0) - 1)))) 22 ((c.1 7 0) - 1) (x.1 50 - (nI (c.1 32 ((c.1 7 0) - 1))))) 23 ((c.1 7 0) - 1) (x.2.1 22)) (c.1 9 0) 1 (nI ((c.1 7 0) - 1)) 0) 43 (nI (((c.1 7 0) - 1) + 1)))) (show MNd (gt (tok n f (c.1 1 0)) (alk ((xN c.1 35 ((c.1 7 0) - 1) ((tok n f (c.1 1 0)).2.1)), (xL c.2.1 3 ((c.1 7 0) - 1) ((tok n f (c.1 1 0)).2.2.2.1)), c.2.2) 1 ((c.1 7 0) - 1) 0 (tok n f (c.1 1 0)).2.1) 10) (sI (ntX (sB (sA (sA (sA (sA x 19 ((c.1 7 0) - 1) (nI ((c.1 6 0) - 1))) 20 ((c.1 7 0) - 1) w) 21 ((c.1 7 0) - 1) (nI (c.1 32 ((c.1 7 0) - 1)))) 22 ((c.1 7 0) - 1) (x.1 50 - (nI (c.1 32 ((c.1 7 0) - 1))))) 23 ((c.1 7 0) - 1) (x.2.1 22)) (c.1 9 0) 1 (nI ((c.1 7 0) - 1)) 0) 43 (nI (((c.1 7 0) - 1) + 1))) from hMN) hy.pt.pg
      have hR' : MRl (gt (tok n f (c.1 1 0)) (alk ((xN c.1 35 ((c.1 7 0) - 1) ((tok n f (c.1 1 0)).2.1)), (xL c.2.1 3 ((c.1 7 0) - 1) ((tok n f (c.1 1 0)).2.2.2.1)), c.2.2) 1 ((c.1 7 0) - 1) 0 (tok n f (c.1 1 0)).2.1) 10) y (c.1 5 0) := MRl.pg (x := (sI (ntX (sB (sA (sA (sA (sA x 19 ((c.1 7 0) - 1) (nI ((c.1 6 0) - 1))) 20 ((c.1 7 0) - 1) w) 21 ((c.1 7 0) - 1) (nI (c.1 32 ((c.1 7 0) - 1)))) 22 ((c.1 7 0) - 1) (x.1 50 - (nI (c.1 32 ((c.1 7 0) - 1))))) 23 ((c.1 7 0) - 1) (x.2.1 22)) (c.1 9 0) 1 (nI ((c.1 7 0) - 1)) 0) 43 (nI (((c.1 7 0) - 1) + 1)))) (show MRl (gt (tok n f (c.1 1 0)) (alk ((xN c.1 35 ((c.1 7 0) - 1) ((tok n f (c.1 1 0)).2.1)), (xL c.2.1 3 ((c.1 7 0) - 1) ((tok n f (c.1 1 0)).2.2.2.1)), c.2.2) 1 ((c.1 7 0) - 1) 0 (tok n f (c.1 1 0)).2.1) 10) (sI (ntX (sB (sA (sA (sA (sA x 19 ((c.1 7 0) - 1) (nI ((c.1 6 0) - 1))) 20 ((c.1 7 0) - 1) w) 21 ((c.1 7 0) - 1) (nI (c.1 32 ((c.1 7 0) - 1)))) 22 ((c.1 7 0) - 1) (x.1 50 - (nI (c.1 32 ((c.1 7 0) - 1))))) 23 ((c.1 7 0) - 1) (x.2.1 22)) (c.1 9 0) 1 (nI ((c.1 7 0) - 1)) 0) 43 (nI (((c.1 7 0) - 1) + 1))) (c.1 5 0) from hMR) hy.pt.pg
      have hW' : MWy (gt (tok n f (c.1 1 0)) (alk ((xN c.1 35 ((c.1 7 0) - 1) ((tok n f (c.1 1 0)).2.1)), (xL c.2.1 3 ((c.1 7 0) - 1) ((tok n f (c.1 1 0)).2.2.2.1)), c.2.2) 1 ((c.1 7 0) - 1) 0 (tok n f (c.1 1 0)).2.1) 10) y (c.1 7 0) := by
        refine MWy.pg (x := (sI (ntX (sB (sA (sA (sA (sA x 19 ((c.1 7 0) - 1) (nI ((c.1 6 0) - 1))) 20 ((c.1 7 0) - 1) w) 21 ((c.1 7 0) - 1) (nI (c.1 32 ((c.1 7 0) - 1)))) 22 ((c.1 7 0) - 1) (x.1 50 - (nI (c.1 32 ((c.1 7 0) - 1))))) 23 ((c.1 7 0) - 1) (x.2.1 22)) (c.1 9 0) 1 (nI ((c.1 7 0) - 1)) 0) 43 (nI (((c.1 7 0) - 1) + 1)))) ⟨by show nI ((c.1 7 0) - 1 + 1) = nI (c.1 7 0); rw [show (c.1 7 0) - 1 + 1 = (c.1 7 0) by omega], fun r hr2 => ?_⟩ hy.pt.pg
        show upd (x.2.2.1 19) ((c.1 7 0) - 1) (nI ((c.1 6 0) - 1)) r = nI (c.1 29 (r)) ∧ upd (x.2.2.1 20) ((c.1 7 0) - 1) w r = ccF (c.1 31 (r)) ∧ upd (x.2.2.1 21) ((c.1 7 0) - 1) (nI (c.1 32 ((c.1 7 0) - 1))) r = nI (c.1 32 (r)) ∧ upd (x.2.2.1 22) ((c.1 7 0) - 1) (x.1 50 - nI (c.1 32 ((c.1 7 0) - 1))) r = nI (c.1 33 (r)) ∧ vp_updL (x.2.2.2 23) ((c.1 7 0) - 1) (x.2.1 22) r = e27 (if r = (c.1 7 0) - 1 then (tok n f (c.1 1 0)).2.2.2.1 else c.2.1 3 (r))
        by_cases er : r = (c.1 7 0) - 1
        · rw [if_pos er, er, pk_us, pk_us, pk_us, pk_us, pk_uLs, hM.1, nI_sub (by omega)]
          refine ⟨by congr 1; omega, ?_, rfl, by congr 1; omega, hx.2.2.2.2.2.2.2.1 w1.1⟩
          rw [hw]; unfold acl; rw [if_neg hwy]
        · rw [if_neg er, pk_un er, pk_un er, pk_un er, pk_un er, pk_uLn er]; exact hMW.2 r (by omega)
      obtain ⟨d, ed⟩ : ∃ d, d = (gt (tok n f (c.1 1 0)) (alk ((xN c.1 35 ((c.1 7 0) - 1) ((tok n f (c.1 1 0)).2.1)), (xL c.2.1 3 ((c.1 7 0) - 1) ((tok n f (c.1 1 0)).2.2.2.1)), c.2.2) 1 ((c.1 7 0) - 1) 0 (tok n f (c.1 1 0)).2.1) 10) := ⟨_, rfl⟩
      have hd1 : d.1 2 0 = 0 ∧ d.1 0 0 = 10 ∧ d.1 4 0 = (c.1 4 0) ∧ d.1 5 0 = (c.1 5 0) ∧ d.1 6 0 = (c.1 6 0) ∧ d.1 7 0 = (c.1 7 0) ∧ d.1 22 = c.1 22 ∧ d.1 10 0 = (c.1 10 0) := by rw [ed]; exact ⟨h0, rfl, rfl, rfl, rfl, rfl, rfl, rfl⟩
      rw [← ed] at hl hr hMG hC' hN' hR' hW'
      have hle2 := lx_le n f hl.2.1
      have h10 := stT_10 (tok n f (d.1 1 0)) hd1.2.1
      by_cases k2 : lxK n f (d.1 1 0) = 2
      · have hd2 : stT (tok n f (d.1 1 0)) d = gt (tok n f (d.1 1 0)) d 6 := by rw [h10]; unfold a10; rw [if_pos (show (tok n f (d.1 1 0)).1 = 2 from k2)]
        refine n_M_266T hl.1 hl.2.2.2.2.1 hle2.2.2.2 hl.2.2.1 ((tk_1 hl).mpr k2) (fun z hz => ?_)
        obtain ⟨hr2, hl2⟩ := step_LKA hl hd1.1 (by omega) hd2 hd1.1 (by show 1 ≤ 6; decide) (by show 6 ≤ 17; decide) rfl hz
        refine hK z _ (hPPy.trans hz.pt.pg.pp) ?_
        rcases hl2 with hl2 | ⟨hl3, hl4⟩
        · have hSM : SM d (gt (tok n f (d.1 1 0)) d 6) := ⟨fun a h1 h2 _ _ _ _ => by show xN (xN d.1 0 0 6) 1 0 _ a = d.1 a; rw [xN_ne h2, xN_ne h1], rfl⟩
          refine Or.inl ⟨rfl, Or.inl ⟨gt (tok n f (d.1 1 0)) d 6, hr.trans hr2, hd1.1, rfl, hl2, MGd_PT (MGd_SM hMG hSM) hz.pt, ?_, (hN'.cg hSM.cg).pg hz.pt.pg, ?_, ?_, hd1.2.2.2.2.1, hd1.2.2.2.2.2.2.1, hd1.2.2.2.2.2.2.2⟩⟩
          · rw [show (gt (tok n f (d.1 1 0)) d 6).1 4 0 = (c.1 4 0) from hd1.2.2.1]; exact (hC'.sm hSM).pg hz.pt.pg
          · rw [show (gt (tok n f (d.1 1 0)) d 6).1 5 0 = (c.1 5 0) from hd1.2.2.2.1]; exact (hR'.sm hSM).pg hz.pt.pg
          · rw [show (gt (tok n f (d.1 1 0)) d 6).1 7 0 = (c.1 7 0) from hd1.2.2.2.2.2.1]; exact (hW'.sm hSM).pg hz.pt.pg
        · exact Or.inr ⟨hl3.of hr, hl4⟩
      · have hd2 : stT (tok n f (d.1 1 0)) d = wr (tok n f (d.1 1 0)) d := by rw [h10]; unfold a10; rw [if_neg (show ¬ (tok n f (d.1 1 0)).1 = 2 from k2)]
        exact n_M_266F (fun z => k2 ((tk_1 hl).mp z)) (hK _ _ (hPPy.trans (PT.mu y).pg.pp) (Or.inr ⟨(BAD_must hl hd1.1 (by omega) hd2).of hr, (PT.mu y).mx hl.1⟩))
    · exact n_M_266B hl1.ne (hK y _ hPPy (Or.inr ⟨hl1, hl2⟩))
  · have hd : stT (tok n f (c.1 1 0)) c = wr (tok n f (c.1 1 0)) c := by rw [h9]; unfold a9; rw [if_neg (show ¬ ((tok n f (c.1 1 0)).1 = 1 ∧ acm c < 4) from fun z => ho z.1), if_neg hwy, if_neg w1]
    exact n_M_149F (fun z => w1 ((F_iff hx).mp z)) (hK _ _ (PT.mu x).pg.pp (Or.inr ⟨BAD_must hx h0 (by omega) hd, (PT.mu x).mx hx.1⟩))
end ModM18
