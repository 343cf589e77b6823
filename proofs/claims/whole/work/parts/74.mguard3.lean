/-! THE MODEL's readGuard: op, which -/
section ModM10
variable {G : aG} {σ0 : aS} {K : Option Value → aS → Prop} {m n : Nat} {f : Nat → Nat} {x : aX} {c : aN}
theorem NT_lt (hA : AI c) : (c.1 8 0) ≤ 864 ∧ (c.1 5 0) ≤ 24 ∧ (c.1 7 0) ≤ 192 := by
  have hQ6 := hA.2.2.2.2.2
  have q1 := hA.1.1
  have q2 := hA.1.2.1
  have q3 := hQ6.1
  have q4 := hQ6.2.1
  have q5 := hQ6.2.2.1
  have q6 : (c.1 4 0) = 0 ∨ c.1 21 ((c.1 4 0) - 1) ≤ 4 := by
    by_cases z : (c.1 4 0) = 0
    · exact Or.inl z
    · exact Or.inr (hA.1.2.2.1 _ (by omega))
  have q7 : (c.1 6 0) = 0 ∨ c.1 22 ((c.1 6 0) - 1) ≤ 8 := by
    by_cases z : (c.1 6 0) = 0
    · exact Or.inl z
    · exact Or.inr (hA.1.2.2.2 _ (by omega))
  have q8 : (c.1 4 0) = 0 → (c.1 5 0) = 0 := fun z => by
    by_cases y : (c.1 5 0) = 0
    · exact y
    · have := (hA.2.1 0 (by omega)).1; omega
  have q9 : (c.1 6 0) = 0 → (c.1 7 0) = 0 := fun z => by
    by_cases y : (c.1 7 0) = 0
    · exact y
    · have := (hA.2.2.1 0 (by omega)).1; omega
  omega
set_option maxHeartbeats 1000000 in
set_option maxRecDepth 100000 in
theorem g_M_264B {w t : Int32} (h0 : ¬ x.1 24 = 0) (hK : K none (mk σ0 m x)) : a_J G m_M_readGuard 7 149 264 [(0, .ref m), (1, .int w), (2, .int t)] [] (mk σ0 m x) K := by
  refine a_aload_n d_M_readGuard_264 rfl rfl ?_
  refine a_aload_n d_M_readGuard_265 rfl rfl ?_
  refine a_ldcS 46 d_M_readGuard_266 (by decide) rfl rfl ?_
  apply a_callV (ci := 7) 5 108 [_] _ d_M_readGuard_268 l_M_203 ⟨im_M_isWord, se_M_isWord⟩ rfl rfl rfl rfl (Nat.le_of_ble_eq_true rfl) ⟨Nat.le_of_ble_eq_true rfl, Nat.le_of_ble_eq_true rfl⟩
  · (exact mk_O)
  refine sp_M_isWord (by decide) (jG _ (by decide) (by decide)) ?_
  refine a_if_ne (tgt := 292) d_M_readGuard_271 (by decide) (fun c_1 => ?_) (fun c_1 => ?_)
  · refine a_iconst (v := 1) d_M_readGuard_292 (by decide) ?_
    refine a_goto (tgt := 297) d_M_readGuard_293 (by decide) ?_
    apply a_callV (ci := 7) 1 22 [_] _ d_M_readGuard_297 l_M_229 ⟨im_M_must, se_M_must⟩ rfl rfl rfl rfl (Nat.le_of_ble_eq_true rfl) ⟨Nat.le_of_ble_eq_true rfl, Nat.le_of_ble_eq_true rfl⟩
    · (exact mk_O)
    refine sp_M_mustB h0 ?_
    refine a_if_ne (tgt := 304) d_M_readGuard_300 (by decide) (fun n9 => absurd (rfl) n9) (fun c_2 => ?_)
    exact a_return d_M_readGuard_303 rfl hK
  · refine a_aload_n d_M_readGuard_274 rfl rfl ?_
    refine a_ldcS 47 d_M_readGuard_275 (by decide) rfl rfl ?_
    apply a_callV (ci := 7) 5 108 [_] _ d_M_readGuard_277 l_M_203 ⟨im_M_isWord, se_M_isWord⟩ rfl rfl rfl rfl (Nat.le_of_ble_eq_true rfl) ⟨Nat.le_of_ble_eq_true rfl, Nat.le_of_ble_eq_true rfl⟩
    · (exact mk_O)
    refine sp_M_isWord (by decide) (jG _ (by decide) (by decide)) ?_
    refine a_if_ne (tgt := 292) d_M_readGuard_280 (by decide) (fun c_3 => ?_) (fun c_3 => ?_)
    · refine a_iconst (v := 1) d_M_readGuard_292 (by decide) ?_
      refine a_goto (tgt := 297) d_M_readGuard_293 (by decide) ?_
      apply a_callV (ci := 7) 1 22 [_] _ d_M_readGuard_297 l_M_229 ⟨im_M_must, se_M_must⟩ rfl rfl rfl rfl (Nat.le_of_ble_eq_true rfl) ⟨Nat.le_of_ble_eq_true rfl, Nat.le_of_ble_eq_true rfl⟩
      · (exact mk_O)
      refine sp_M_mustB h0 ?_
      refine a_if_ne (tgt := 304) d_M_readGuard_300 (by decide) (fun n9 => absurd (rfl) n9) (fun c_4 => ?_)
      exact a_return d_M_readGuard_303 rfl hK
    · refine a_aload_n d_M_readGuard_283 rfl rfl ?_
      refine a_ldcS 48 d_M_readGuard_284 (by decide) rfl rfl ?_
      apply a_callV (ci := 7) 5 108 [_] _ d_M_readGuard_286 l_M_203 ⟨im_M_isWord, se_M_isWord⟩ rfl rfl rfl rfl (Nat.le_of_ble_eq_true rfl) ⟨Nat.le_of_ble_eq_true rfl, Nat.le_of_ble_eq_true rfl⟩
      · (exact mk_O)
      refine sp_M_isWord (by decide) (jG _ (by decide) (by decide)) ?_
      refine a_if_eq (tgt := 296) d_M_readGuard_289 (by decide) (fun c_5 => ?_) (fun c_5 => ?_)
      · refine a_iconst (v := 0) d_M_readGuard_296 (by decide) ?_
        apply a_callV (ci := 7) 1 22 [_] _ d_M_readGuard_297 l_M_229 ⟨im_M_must, se_M_must⟩ rfl rfl rfl rfl (Nat.le_of_ble_eq_true rfl) ⟨Nat.le_of_ble_eq_true rfl, Nat.le_of_ble_eq_true rfl⟩
        · (exact mk_O)
        refine sp_M_mustB h0 ?_
        refine a_if_ne (tgt := 304) d_M_readGuard_300 (by decide) (fun n9 => absurd (rfl) n9) (fun c_6 => ?_)
        exact a_return d_M_readGuard_303 rfl hK
      · refine a_iconst (v := 1) d_M_readGuard_292 (by decide) ?_
        refine a_goto (tgt := 297) d_M_readGuard_293 (by decide) ?_
        apply a_callV (ci := 7) 1 22 [_] _ d_M_readGuard_297 l_M_229 ⟨im_M_must, se_M_must⟩ rfl rfl rfl rfl (Nat.le_of_ble_eq_true rfl) ⟨Nat.le_of_ble_eq_true rfl, Nat.le_of_ble_eq_true rfl⟩
        · (exact mk_O)
        refine sp_M_mustB h0 ?_
        refine a_if_ne (tgt := 304) d_M_readGuard_300 (by decide) (fun n9 => absurd (rfl) n9) (fun c_7 => ?_)
        exact a_return d_M_readGuard_303 rfl hK

set_option maxHeartbeats 1000000 in
set_option maxRecDepth 100000 in
theorem g_M_264F {w t : Int32} (w1 : mW x 46 = 0) (w2 : mW x 47 = 0) (w3 : mW x 48 = 0) (hK : K none (mk σ0 m (muX x 0))) : a_J G m_M_readGuard 7 149 264 [(0, .ref m), (1, .int w), (2, .int t)] [] (mk σ0 m x) K := by
  refine a_aload_n d_M_readGuard_264 rfl rfl ?_
  refine a_aload_n d_M_readGuard_265 rfl rfl ?_
  refine a_ldcS 46 d_M_readGuard_266 (by decide) rfl rfl ?_
  apply a_callV (ci := 7) 5 108 [_] _ d_M_readGuard_268 l_M_203 ⟨im_M_isWord, se_M_isWord⟩ rfl rfl rfl rfl (Nat.le_of_ble_eq_true rfl) ⟨Nat.le_of_ble_eq_true rfl, Nat.le_of_ble_eq_true rfl⟩
  · (exact mk_O)
  refine sp_M_isWord (by decide) (jG _ (by decide) (by decide)) ?_
  refine a_if_ne (tgt := 292) d_M_readGuard_271 (by decide) (fun n9 => absurd (w1) n9) (fun c_1 => ?_)
  refine a_aload_n d_M_readGuard_274 rfl rfl ?_
  refine a_ldcS 47 d_M_readGuard_275 (by decide) rfl rfl ?_
  apply a_callV (ci := 7) 5 108 [_] _ d_M_readGuard_277 l_M_203 ⟨im_M_isWord, se_M_isWord⟩ rfl rfl rfl rfl (Nat.le_of_ble_eq_true rfl) ⟨Nat.le_of_ble_eq_true rfl, Nat.le_of_ble_eq_true rfl⟩
  · (exact mk_O)
  refine sp_M_isWord (by decide) (jG _ (by decide) (by decide)) ?_
  refine a_if_ne (tgt := 292) d_M_readGuard_280 (by decide) (fun n9 => absurd (w2) n9) (fun c_2 => ?_)
  refine a_aload_n d_M_readGuard_283 rfl rfl ?_
  refine a_ldcS 48 d_M_readGuard_284 (by decide) rfl rfl ?_
  apply a_callV (ci := 7) 5 108 [_] _ d_M_readGuard_286 l_M_203 ⟨im_M_isWord, se_M_isWord⟩ rfl rfl rfl rfl (Nat.le_of_ble_eq_true rfl) ⟨Nat.le_of_ble_eq_true rfl, Nat.le_of_ble_eq_true rfl⟩
  · (exact mk_O)
  refine sp_M_isWord (by decide) (jG _ (by decide) (by decide)) ?_
  refine a_if_eq (tgt := 296) d_M_readGuard_289 (by decide) (fun c_3 => ?_) (fun n9 => absurd (w3) n9)
  refine a_iconst (v := 0) d_M_readGuard_296 (by decide) ?_
  apply a_callV (ci := 7) 1 22 [_] _ d_M_readGuard_297 l_M_229 ⟨im_M_must, se_M_must⟩ rfl rfl rfl rfl (Nat.le_of_ble_eq_true rfl) ⟨Nat.le_of_ble_eq_true rfl, Nat.le_of_ble_eq_true rfl⟩
  · (exact mk_O)
  refine sp_M_mustF rfl ?_
  refine a_if_ne (tgt := 304) d_M_readGuard_300 (by decide) (fun n9 => absurd (rfl) n9) (fun c_4 => ?_)
  exact a_return d_M_readGuard_303 rfl hK

set_option maxHeartbeats 1000000 in
set_option maxRecDepth 100000 in
theorem g_M_264_0 {w t : Int32} {g a : Nat} (hT : MX x n f) (hA : x.1 19 = nI a) (ha : a ≤ n) (h0 : x.1 24 = 0) (w1 : ¬ mW x 46 = 0) (hg : x.1 50 = nI g) (hg9 : g < 900) (hK : ∀ y, NX n f a (sA x 28 g 0) y → a_J G m_M_readGuard 7 149 344 [(0, .ref m), (1, .int w), (2, .int t)] [] (mk σ0 m y) K) : a_J G m_M_readGuard 7 149 264 [(0, .ref m), (1, .int w), (2, .int t)] [] (mk σ0 m x) K := by
  refine a_aload_n d_M_readGuard_264 rfl rfl ?_
  refine a_aload_n d_M_readGuard_265 rfl rfl ?_
  refine a_ldcS 46 d_M_readGuard_266 (by decide) rfl rfl ?_
  apply a_callV (ci := 7) 5 108 [_] _ d_M_readGuard_268 l_M_203 ⟨im_M_isWord, se_M_isWord⟩ rfl rfl rfl rfl (Nat.le_of_ble_eq_true rfl) ⟨Nat.le_of_ble_eq_true rfl, Nat.le_of_ble_eq_true rfl⟩
  · (exact mk_O)
  refine sp_M_isWord (by decide) (jG _ (by decide) (by decide)) ?_
  refine a_if_ne (tgt := 292) d_M_readGuard_271 (by decide) (fun c_1 => ?_) (fun n9 => absurd n9 (w1))
  refine a_iconst (v := 1) d_M_readGuard_292 (by decide) ?_
  refine a_goto (tgt := 297) d_M_readGuard_293 (by decide) ?_
  apply a_callV (ci := 7) 1 22 [_] _ d_M_readGuard_297 l_M_229 ⟨im_M_must, se_M_must⟩ rfl rfl rfl rfl (Nat.le_of_ble_eq_true rfl) ⟨Nat.le_of_ble_eq_true rfl, Nat.le_of_ble_eq_true rfl⟩
  · (exact mk_O)
  refine sp_M_mustT (by decide) h0 ?_
  refine a_if_ne (tgt := 304) d_M_readGuard_300 (by decide) (fun c_2 => ?_) (fun n9 => absurd n9 (by decide))
  refine a_aload_n d_M_readGuard_304 rfl rfl ?_
  refine m_get d_M_readGuard_305 f_M_97 rfl ?_
  refine a_aload_n d_M_readGuard_308 rfl rfl ?_
  refine m_get (v := .int (nI g)) d_M_readGuard_309 f_M_248 (congrArg (fun z => some (Value.int z)) hg) ?_
  refine a_aload_n d_M_readGuard_312 rfl rfl ?_
  refine a_ldcS 46 d_M_readGuard_313 (by decide) rfl rfl ?_
  apply a_callV (ci := 7) 5 108 [_] _ d_M_readGuard_315 l_M_203 ⟨im_M_isWord, se_M_isWord⟩ rfl rfl rfl rfl (Nat.le_of_ble_eq_true rfl) ⟨Nat.le_of_ble_eq_true rfl, Nat.le_of_ble_eq_true rfl⟩
  · (exact mk_O)
  refine sp_M_isWord (by decide) (jG _ (by decide) (by decide)) ?_
  refine a_if_eq (tgt := 325) d_M_readGuard_318 (by decide) (fun n9 => absurd n9 (w1)) (fun c_3 => ?_)
  refine a_iconst (v := 0) d_M_readGuard_321 (by decide) ?_
  refine a_goto (tgt := 339) d_M_readGuard_322 (by decide) ?_
  refine m_iast d_M_readGuard_339 (by decide) rfl (vp_in_nI (show g < 900 by omega) (by decide)) ?_
  rw [nI_clamp (show g < 2 ^ 31 by omega)]
  refine a_aload_n d_M_readGuard_340 rfl rfl ?_
  apply a_callV (ci := 7) 2 48 [] _ d_M_readGuard_341 l_M_233 ⟨im_M_next, se_M_next⟩ rfl rfl rfl rfl (Nat.le_of_ble_eq_true rfl) ⟨Nat.le_of_ble_eq_true rfl, Nat.le_of_ble_eq_true rfl⟩
  · (exact mk_O)
  refine sp_M_next (a := a) hT hA ha (fun y hy => ?_)
  exact a_lvk (hK y hy) ⟨rfl, rfl, rfl, trivial⟩

set_option maxHeartbeats 1000000 in
set_option maxRecDepth 100000 in
theorem g_M_264_1 {w t : Int32} {g a : Nat} (hT : MX x n f) (hA : x.1 19 = nI a) (ha : a ≤ n) (h0 : x.1 24 = 0) (w1 : mW x 46 = 0) (w2 : ¬ mW x 47 = 0) (hg : x.1 50 = nI g) (hg9 : g < 900) (hK : ∀ y, NX n f a (sA x 28 g 1) y → a_J G m_M_readGuard 7 149 344 [(0, .ref m), (1, .int w), (2, .int t)] [] (mk σ0 m y) K) : a_J G m_M_readGuard 7 149 264 [(0, .ref m), (1, .int w), (2, .int t)] [] (mk σ0 m x) K := by
  refine a_aload_n d_M_readGuard_264 rfl rfl ?_
  refine a_aload_n d_M_readGuard_265 rfl rfl ?_
  refine a_ldcS 46 d_M_readGuard_266 (by decide) rfl rfl ?_
  apply a_callV (ci := 7) 5 108 [_] _ d_M_readGuard_268 l_M_203 ⟨im_M_isWord, se_M_isWord⟩ rfl rfl rfl rfl (Nat.le_of_ble_eq_true rfl) ⟨Nat.le_of_ble_eq_true rfl, Nat.le_of_ble_eq_true rfl⟩
  · (exact mk_O)
  refine sp_M_isWord (by decide) (jG _ (by decide) (by decide)) ?_
  refine a_if_ne (tgt := 292) d_M_readGuard_271 (by decide) (fun n9 => absurd (w1) n9) (fun c_1 => ?_)
  refine a_aload_n d_M_readGuard_274 rfl rfl ?_
  refine a_ldcS 47 d_M_readGuard_275 (by decide) rfl rfl ?_
  apply a_callV (ci := 7) 5 108 [_] _ d_M_readGuard_277 l_M_203 ⟨im_M_isWord, se_M_isWord⟩ rfl rfl rfl rfl (Nat.le_of_ble_eq_true rfl) ⟨Nat.le_of_ble_eq_true rfl, Nat.le_of_ble_eq_true rfl⟩
  · (exact mk_O)
  refine sp_M_isWord (by decide) (jG _ (by decide) (by decide)) ?_
  refine a_if_ne (tgt := 292) d_M_readGuard_280 (by decide) (fun c_2 => ?_) (fun n9 => absurd n9 (w2))
  refine a_iconst (v := 1) d_M_readGuard_292 (by decide) ?_
  refine a_goto (tgt := 297) d_M_readGuard_293 (by decide) ?_
  apply a_callV (ci := 7) 1 22 [_] _ d_M_readGuard_297 l_M_229 ⟨im_M_must, se_M_must⟩ rfl rfl rfl rfl (Nat.le_of_ble_eq_true rfl) ⟨Nat.le_of_ble_eq_true rfl, Nat.le_of_ble_eq_true rfl⟩
  · (exact mk_O)
  refine sp_M_mustT (by decide) h0 ?_
  refine a_if_ne (tgt := 304) d_M_readGuard_300 (by decide) (fun c_3 => ?_) (fun n9 => absurd n9 (by decide))
  refine a_aload_n d_M_readGuard_304 rfl rfl ?_
  refine m_get d_M_readGuard_305 f_M_97 rfl ?_
  refine a_aload_n d_M_readGuard_308 rfl rfl ?_
  refine m_get (v := .int (nI g)) d_M_readGuard_309 f_M_248 (congrArg (fun z => some (Value.int z)) hg) ?_
  refine a_aload_n d_M_readGuard_312 rfl rfl ?_
  refine a_ldcS 46 d_M_readGuard_313 (by decide) rfl rfl ?_
  apply a_callV (ci := 7) 5 108 [_] _ d_M_readGuard_315 l_M_203 ⟨im_M_isWord, se_M_isWord⟩ rfl rfl rfl rfl (Nat.le_of_ble_eq_true rfl) ⟨Nat.le_of_ble_eq_true rfl, Nat.le_of_ble_eq_true rfl⟩
  · (exact mk_O)
  refine sp_M_isWord (by decide) (jG _ (by decide) (by decide)) ?_
  refine a_if_eq (tgt := 325) d_M_readGuard_318 (by decide) (fun c_4 => ?_) (fun n9 => absurd (w1) n9)
  refine a_aload_n d_M_readGuard_325 rfl rfl ?_
  refine a_ldcS 47 d_M_readGuard_326 (by decide) rfl rfl ?_
  apply a_callV (ci := 7) 5 108 [_] _ d_M_readGuard_328 l_M_203 ⟨im_M_isWord, se_M_isWord⟩ rfl rfl rfl rfl (Nat.le_of_ble_eq_true rfl) ⟨Nat.le_of_ble_eq_true rfl, Nat.le_of_ble_eq_true rfl⟩
  · (exact mk_O)
  refine sp_M_isWord (by decide) (jG _ (by decide) (by decide)) ?_
  refine a_if_eq (tgt := 338) d_M_readGuard_331 (by decide) (fun n9 => absurd n9 (w2)) (fun c_5 => ?_)
  refine a_iconst (v := 1) d_M_readGuard_334 (by decide) ?_
  refine a_goto (tgt := 339) d_M_readGuard_335 (by decide) ?_
  refine m_iast d_M_readGuard_339 (by decide) rfl (vp_in_nI (show g < 900 by omega) (by decide)) ?_
  rw [nI_clamp (show g < 2 ^ 31 by omega)]
  refine a_aload_n d_M_readGuard_340 rfl rfl ?_
  apply a_callV (ci := 7) 2 48 [] _ d_M_readGuard_341 l_M_233 ⟨im_M_next, se_M_next⟩ rfl rfl rfl rfl (Nat.le_of_ble_eq_true rfl) ⟨Nat.le_of_ble_eq_true rfl, Nat.le_of_ble_eq_true rfl⟩
  · (exact mk_O)
  refine sp_M_next (a := a) hT hA ha (fun y hy => ?_)
  exact a_lvk (hK y hy) ⟨rfl, rfl, rfl, trivial⟩

set_option maxHeartbeats 1000000 in
set_option maxRecDepth 100000 in
theorem g_M_264_2 {w t : Int32} {g a : Nat} (hT : MX x n f) (hA : x.1 19 = nI a) (ha : a ≤ n) (h0 : x.1 24 = 0) (w1 : mW x 46 = 0) (w2 : mW x 47 = 0) (w3 : ¬ mW x 48 = 0) (hg : x.1 50 = nI g) (hg9 : g < 900) (hK : ∀ y, NX n f a (sA x 28 g 2) y → a_J G m_M_readGuard 7 149 344 [(0, .ref m), (1, .int w), (2, .int t)] [] (mk σ0 m y) K) : a_J G m_M_readGuard 7 149 264 [(0, .ref m), (1, .int w), (2, .int t)] [] (mk σ0 m x) K := by
  refine a_aload_n d_M_readGuard_264 rfl rfl ?_
  refine a_aload_n d_M_readGuard_265 rfl rfl ?_
  refine a_ldcS 46 d_M_readGuard_266 (by decide) rfl rfl ?_
  apply a_callV (ci := 7) 5 108 [_] _ d_M_readGuard_268 l_M_203 ⟨im_M_isWord, se_M_isWord⟩ rfl rfl rfl rfl (Nat.le_of_ble_eq_true rfl) ⟨Nat.le_of_ble_eq_true rfl, Nat.le_of_ble_eq_true rfl⟩
  · (exact mk_O)
  refine sp_M_isWord (by decide) (jG _ (by decide) (by decide)) ?_
  refine a_if_ne (tgt := 292) d_M_readGuard_271 (by decide) (fun n9 => absurd (w1) n9) (fun c_1 => ?_)
  refine a_aload_n d_M_readGuard_274 rfl rfl ?_
  refine a_ldcS 47 d_M_readGuard_275 (by decide) rfl rfl ?_
  apply a_callV (ci := 7) 5 108 [_] _ d_M_readGuard_277 l_M_203 ⟨im_M_isWord, se_M_isWord⟩ rfl rfl rfl rfl (Nat.le_of_ble_eq_true rfl) ⟨Nat.le_of_ble_eq_true rfl, Nat.le_of_ble_eq_true rfl⟩
  · (exact mk_O)
  refine sp_M_isWord (by decide) (jG _ (by decide) (by decide)) ?_
  refine a_if_ne (tgt := 292) d_M_readGuard_280 (by decide) (fun n9 => absurd (w2) n9) (fun c_2 => ?_)
  refine a_aload_n d_M_readGuard_283 rfl rfl ?_
  refine a_ldcS 48 d_M_readGuard_284 (by decide) rfl rfl ?_
  apply a_callV (ci := 7) 5 108 [_] _ d_M_readGuard_286 l_M_203 ⟨im_M_isWord, se_M_isWord⟩ rfl rfl rfl rfl (Nat.le_of_ble_eq_true rfl) ⟨Nat.le_of_ble_eq_true rfl, Nat.le_of_ble_eq_true rfl⟩
  · (exact mk_O)
  refine sp_M_isWord (by decide) (jG _ (by decide) (by decide)) ?_
  refine a_if_eq (tgt := 296) d_M_readGuard_289 (by decide) (fun n9 => absurd n9 (w3)) (fun c_3 => ?_)
  refine a_iconst (v := 1) d_M_readGuard_292 (by decide) ?_
  refine a_goto (tgt := 297) d_M_readGuard_293 (by decide) ?_
  apply a_callV (ci := 7) 1 22 [_] _ d_M_readGuard_297 l_M_229 ⟨im_M_must, se_M_must⟩ rfl rfl rfl rfl (Nat.le_of_ble_eq_true rfl) ⟨Nat.le_of_ble_eq_true rfl, Nat.le_of_ble_eq_true rfl⟩
  · (exact mk_O)
  refine sp_M_mustT (by decide) h0 ?_
  refine a_if_ne (tgt := 304) d_M_readGuard_300 (by decide) (fun c_4 => ?_) (fun n9 => absurd n9 (by decide))
  refine a_aload_n d_M_readGuard_304 rfl rfl ?_
  refine m_get d_M_readGuard_305 f_M_97 rfl ?_
  refine a_aload_n d_M_readGuard_308 rfl rfl ?_
  refine m_get (v := .int (nI g)) d_M_readGuard_309 f_M_248 (congrArg (fun z => some (Value.int z)) hg) ?_
  refine a_aload_n d_M_readGuard_312 rfl rfl ?_
  refine a_ldcS 46 d_M_readGuard_313 (by decide) rfl rfl ?_
  apply a_callV (ci := 7) 5 108 [_] _ d_M_readGuard_315 l_M_203 ⟨im_M_isWord, se_M_isWord⟩ rfl rfl rfl rfl (Nat.le_of_ble_eq_true rfl) ⟨Nat.le_of_ble_eq_true rfl, Nat.le_of_ble_eq_true rfl⟩
  · (exact mk_O)
  refine sp_M_isWord (by decide) (jG _ (by decide) (by decide)) ?_
  refine a_if_eq (tgt := 325) d_M_readGuard_318 (by decide) (fun c_5 => ?_) (fun n9 => absurd (w1) n9)
  refine a_aload_n d_M_readGuard_325 rfl rfl ?_
  refine a_ldcS 47 d_M_readGuard_326 (by decide) rfl rfl ?_
  apply a_callV (ci := 7) 5 108 [_] _ d_M_readGuard_328 l_M_203 ⟨im_M_isWord, se_M_isWord⟩ rfl rfl rfl rfl (Nat.le_of_ble_eq_true rfl) ⟨Nat.le_of_ble_eq_true rfl, Nat.le_of_ble_eq_true rfl⟩
  · (exact mk_O)
  refine sp_M_isWord (by decide) (jG _ (by decide) (by decide)) ?_
  refine a_if_eq (tgt := 338) d_M_readGuard_331 (by decide) (fun c_6 => ?_) (fun n9 => absurd (w2) n9)
  refine a_iconst (v := 2) d_M_readGuard_338 (by decide) ?_
  refine m_iast d_M_readGuard_339 (by decide) rfl (vp_in_nI (show g < 900 by omega) (by decide)) ?_
  rw [nI_clamp (show g < 2 ^ 31 by omega)]
  refine a_aload_n d_M_readGuard_340 rfl rfl ?_
  apply a_callV (ci := 7) 2 48 [] _ d_M_readGuard_341 l_M_233 ⟨im_M_next, se_M_next⟩ rfl rfl rfl rfl (Nat.le_of_ble_eq_true rfl) ⟨Nat.le_of_ble_eq_true rfl, Nat.le_of_ble_eq_true rfl⟩
  · (exact mk_O)
  refine sp_M_next (a := a) hT hA ha (fun y hy => ?_)
  exact a_lvk (hK y hy) ⟨rfl, rfl, rfl, trivial⟩

theorem AJ_Rc {n : Nat} {f : Nat → Nat} (hn : n < 65536) (hf : ∀ k, k < n → f k < 256) {c d : aN} (h : AJ n c) (g : aRc n f c d) : AJ n d := by
  obtain ⟨m, rfl⟩ := g
  exact AJ_ait hn hf m h
set_option maxHeartbeats 2000000 in
theorem g_M_264 {w : Int32} (hx : LKA n f (c.1 1 0) x) (h0 : (c.1 2 0) = 0) (hs : (c.1 0 0) = 15) (hA : AI c) (hJ : AJ n c) (hM : MGd c x) (hp : pd2 c x) (hK : ∀ y, PG x y → GP n f c y → K none (mk σ0 m y)) : a_J G m_M_readGuard 7 149 264 [(0, .ref m), (1, .int w), (2, .int (nI (c.1 12 0)))] [] (mk σ0 m x) K := by
  have hle := lx_le n f hx.2.1
  have hNT := NT_lt hA
  have h15 := stT_15 (tok n f (c.1 1 0)) hs
  by_cases w1 : (tok n f (c.1 1 0)).1 = 3 ∧ (tok n f (c.1 1 0)).2.2.2.1 = jS 11
  · have hd : stT (tok n f (c.1 1 0)) c = gt (tok n f (c.1 1 0)) ((xN c.1 17 (0) (0)), c.2.1, c.2.2) 16 := by rw [h15]; unfold a15; rw [if_pos w1]
    refine g_M_264_0 hx.1 hx.2.2.2.2.1 hle.2.2.2 hx.2.2.1 (fun z => (W_iff hx (j := 46) (by decide) (by decide)).mp z w1) hM.1 (by omega) (fun y hy => ?_)
    have hx3 : LKA n f (c.1 1 0) (sA x 28 (c.1 8 0) 0) := hx.keep (fun _ _ _ => rfl) rfl rfl
    obtain ⟨hr, hl⟩ := step_LKA hx3 h0 (by omega) hd h0 (by show 1 ≤ 16; decide) (by show 16 ≤ 17; decide) rfl hy
    have hPGy : PG x y := (show PG x (sA x 28 (c.1 8 0) 0) from ⟨fun _ _ _ _ _ _ _ _ => rfl, fun a ha => ⟨updA_ne (by omega), rfl⟩⟩).trans hy.pt.pg
    rcases hl with hl | ⟨hl1, hl2⟩
    · have hSM : SM c (gt (tok n f (c.1 1 0)) ((xN c.1 17 (0) (0)), c.2.1, c.2.2) 16) := ⟨fun a h1 h2 _ _ _ h6 => by show xN (xN (xN c.1 17 0 0) 0 0 16) 1 0 _ a = c.1 a; rw [xN_ne h2, xN_ne h1, xN_ne h6], rfl⟩
      have hMG : MGd (gt (tok n f (c.1 1 0)) ((xN c.1 17 (0) (0)), c.2.1, c.2.2) 16) y := by
        refine MGd_PT (x := sA x 28 (c.1 8 0) 0) (MGd_SM (c := c) ⟨hM.1, hM.2.1, fun g hg => ?_, hM.2.2.2⟩ hSM) hy.pt
        have q := hM.2.2.1 g hg
        refine ⟨q.1, q.2.1, q.2.2.1, ?_, q.2.2.2.2.1, q.2.2.2.2.2⟩
        show updA x.2.2.1 28 (c.1 8 0) 0 28 g = _
        rw [updA_eq, pk_un (by omega)]; exact q.2.2.2.1
      have ey := hy.pt.1
      refine g_M_344 (c := (gt (tok n f (c.1 1 0)) ((xN c.1 17 (0) (0)), c.2.1, c.2.2) 16)) hl h0 rfl (AI_Rc hA hr) (AJ_Rc hx.hf.1 hx.hf.2 hJ hr) hMG ⟨⟨by rw [ey]; exact hp.1.1, by rw [ey]; exact hp.1.2⟩, by rw [ey]; exact hp.2.1, by rw [ey]; exact hp.2.2⟩ (by rw [ey]; show updA x.2.2.1 28 (c.1 8 0) 0 28 (c.1 8 0) = nI 0; rw [updA_eq, pk_us]; rfl) (fun z hz hq => hK z (hPGy.trans hz) (hq.of hr hSM.cg rfl))
    · exact g_M_344B hl1.ne (hK y hPGy (Or.inr ⟨hl1, hl2⟩))
  · by_cases w2 : (tok n f (c.1 1 0)).1 = 3 ∧ (tok n f (c.1 1 0)).2.2.2.1 = jS 12
    · have hd : stT (tok n f (c.1 1 0)) c = gt (tok n f (c.1 1 0)) ((xN c.1 17 (0) (1)), c.2.1, c.2.2) 16 := by rw [h15]; unfold a15; rw [if_neg w1, if_pos w2]
      refine g_M_264_1 hx.1 hx.2.2.2.2.1 hle.2.2.2 hx.2.2.1 ((W_iff hx (j := 46) (by decide) (by decide)).mpr w1) (fun z => (W_iff hx (j := 47) (by decide) (by decide)).mp z w2) hM.1 (by omega) (fun y hy => ?_)
      have hx3 : LKA n f (c.1 1 0) (sA x 28 (c.1 8 0) 1) := hx.keep (fun _ _ _ => rfl) rfl rfl
      obtain ⟨hr, hl⟩ := step_LKA hx3 h0 (by omega) hd h0 (by show 1 ≤ 16; decide) (by show 16 ≤ 17; decide) rfl hy
      have hPGy : PG x y := (show PG x (sA x 28 (c.1 8 0) 1) from ⟨fun _ _ _ _ _ _ _ _ => rfl, fun a ha => ⟨updA_ne (by omega), rfl⟩⟩).trans hy.pt.pg
      rcases hl with hl | ⟨hl1, hl2⟩
      · have hSM : SM c (gt (tok n f (c.1 1 0)) ((xN c.1 17 (0) (1)), c.2.1, c.2.2) 16) := ⟨fun a h1 h2 _ _ _ h6 => by show xN (xN (xN c.1 17 0 1) 0 0 16) 1 0 _ a = c.1 a; rw [xN_ne h2, xN_ne h1, xN_ne h6], rfl⟩
        have hMG : MGd (gt (tok n f (c.1 1 0)) ((xN c.1 17 (0) (1)), c.2.1, c.2.2) 16) y := by
          refine MGd_PT (x := sA x 28 (c.1 8 0) 1) (MGd_SM (c := c) ⟨hM.1, hM.2.1, fun g hg => ?_, hM.2.2.2⟩ hSM) hy.pt
          have q := hM.2.2.1 g hg
          refine ⟨q.1, q.2.1, q.2.2.1, ?_, q.2.2.2.2.1, q.2.2.2.2.2⟩
          show updA x.2.2.1 28 (c.1 8 0) 1 28 g = _
          rw [updA_eq, pk_un (by omega)]; exact q.2.2.2.1
        have ey := hy.pt.1
        refine g_M_344 (c := (gt (tok n f (c.1 1 0)) ((xN c.1 17 (0) (1)), c.2.1, c.2.2) 16)) hl h0 rfl (AI_Rc hA hr) (AJ_Rc hx.hf.1 hx.hf.2 hJ hr) hMG ⟨⟨by rw [ey]; exact hp.1.1, by rw [ey]; exact hp.1.2⟩, by rw [ey]; exact hp.2.1, by rw [ey]; exact hp.2.2⟩ (by rw [ey]; show updA x.2.2.1 28 (c.1 8 0) 1 28 (c.1 8 0) = nI 1; rw [updA_eq, pk_us]; rfl) (fun z hz hq => hK z (hPGy.trans hz) (hq.of hr hSM.cg rfl))
      · exact g_M_344B hl1.ne (hK y hPGy (Or.inr ⟨hl1, hl2⟩))
    · by_cases w3 : (tok n f (c.1 1 0)).1 = 3 ∧ (tok n f (c.1 1 0)).2.2.2.1 = jS 13
      · have hd : stT (tok n f (c.1 1 0)) c = gt (tok n f (c.1 1 0)) ((xN c.1 17 (0) (2)), c.2.1, c.2.2) 16 := by rw [h15]; unfold a15; rw [if_neg w1, if_neg w2, if_pos w3]
        refine g_M_264_2 hx.1 hx.2.2.2.2.1 hle.2.2.2 hx.2.2.1 ((W_iff hx (j := 46) (by decide) (by decide)).mpr w1) ((W_iff hx (j := 47) (by decide) (by decide)).mpr w2) (fun z => (W_iff hx (j := 48) (by decide) (by decide)).mp z w3) hM.1 (by omega) (fun y hy => ?_)
        have hx3 : LKA n f (c.1 1 0) (sA x 28 (c.1 8 0) 2) := hx.keep (fun _ _ _ => rfl) rfl rfl
        obtain ⟨hr, hl⟩ := step_LKA hx3 h0 (by omega) hd h0 (by show 1 ≤ 16; decide) (by show 16 ≤ 17; decide) rfl hy
        have hPGy : PG x y := (show PG x (sA x 28 (c.1 8 0) 2) from ⟨fun _ _ _ _ _ _ _ _ => rfl, fun a ha => ⟨updA_ne (by omega), rfl⟩⟩).trans hy.pt.pg
        rcases hl with hl | ⟨hl1, hl2⟩
        · have hSM : SM c (gt (tok n f (c.1 1 0)) ((xN c.1 17 (0) (2)), c.2.1, c.2.2) 16) := ⟨fun a h1 h2 _ _ _ h6 => by show xN (xN (xN c.1 17 0 2) 0 0 16) 1 0 _ a = c.1 a; rw [xN_ne h2, xN_ne h1, xN_ne h6], rfl⟩
          have hMG : MGd (gt (tok n f (c.1 1 0)) ((xN c.1 17 (0) (2)), c.2.1, c.2.2) 16) y := by
            refine MGd_PT (x := sA x 28 (c.1 8 0) 2) (MGd_SM (c := c) ⟨hM.1, hM.2.1, fun g hg => ?_, hM.2.2.2⟩ hSM) hy.pt
            have q := hM.2.2.1 g hg
            refine ⟨q.1, q.2.1, q.2.2.1, ?_, q.2.2.2.2.1, q.2.2.2.2.2⟩
            show updA x.2.2.1 28 (c.1 8 0) 2 28 g = _
            rw [updA_eq, pk_un (by omega)]; exact q.2.2.2.1
          have ey := hy.pt.1
          refine g_M_344 (c := (gt (tok n f (c.1 1 0)) ((xN c.1 17 (0) (2)), c.2.1, c.2.2) 16)) hl h0 rfl (AI_Rc hA hr) (AJ_Rc hx.hf.1 hx.hf.2 hJ hr) hMG ⟨⟨by rw [ey]; exact hp.1.1, by rw [ey]; exact hp.1.2⟩, by rw [ey]; exact hp.2.1, by rw [ey]; exact hp.2.2⟩ (by rw [ey]; show updA x.2.2.1 28 (c.1 8 0) 2 28 (c.1 8 0) = nI 2; rw [updA_eq, pk_us]; rfl) (fun z hz hq => hK z (hPGy.trans hz) (hq.of hr hSM.cg rfl))
        · exact g_M_344B hl1.ne (hK y hPGy (Or.inr ⟨hl1, hl2⟩))
      · have hd : stT (tok n f (c.1 1 0)) c = wr (tok n f (c.1 1 0)) c := by rw [h15]; unfold a15; rw [if_neg w1, if_neg w2, if_neg w3]
        exact g_M_264F ((W_iff hx (j := 46) (by decide) (by decide)).mpr w1) ((W_iff hx (j := 47) (by decide) (by decide)).mpr w2) ((W_iff hx (j := 48) (by decide) (by decide)).mpr w3) (hK _ (PT.mu x).pg (Or.inr ⟨BAD_must hx h0 (by omega) hd, (PT.mu x).mx hx.1⟩))
end ModM10
