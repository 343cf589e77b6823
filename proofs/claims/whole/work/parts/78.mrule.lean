/-! THE MODEL's rules: its rows, and what stands behind a rule's call -/
def MC (c : aN) (x : aX) (k0 : Nat) : Prop := x.1 28 = nI k0 ∧ ∀ k, k < k0 → x.2.2.2 11 k = e27 (c.2.1 0 (k)) ∧ x.2.2.1 5 k = nI (c.2.1 0 (k)).length ∧ x.2.2.1 12 k = nI (c.1 20 (k))
def MNd (c : aN) (x : aX) : Prop := x.1 36 = nI (c.1 6 0) ∧ ∀ k, k < (c.1 6 0) → x.2.2.2 18 k = e27 (c.2.1 1 (k)) ∧ x.2.2.1 6 k = nI (c.2.1 1 (k)).length
def MRl (c : aN) (x : aX) (r0 : Nat) : Prop := x.1 34 = nI r0 ∧ ∀ r, r < r0 → x.2.2.1 13 r = nI (c.1 23 (r)) ∧ x.2.2.1 14 r = nI (c.1 26 (r)) ∧ x.2.2.1 15 r = ccF (c.1 25 (r)) ∧ x.2.2.1 16 r = nI (c.1 27 (r)) ∧ x.2.2.1 17 r = nI (c.1 28 (r))
def MWy (c : aN) (x : aX) (r0 : Nat) : Prop := x.1 43 = nI r0 ∧ ∀ r, r < r0 → x.2.2.1 19 r = nI (c.1 29 (r)) ∧ x.2.2.1 20 r = ccF (c.1 31 (r)) ∧ x.2.2.1 21 r = nI (c.1 32 (r)) ∧ x.2.2.1 22 r = nI (c.1 33 (r)) ∧ x.2.2.2 23 r = e27 (c.2.1 3 (r))
section ModM14
variable {G : aG} {σ0 : aS} {K : Option Value → aS → Prop} {m n : Nat} {f : Nat → Nat} {x : aX} {c : aN}
theorem MC.pg {y : aX} {k0 : Nat} (h : MC c x k0) (g : PG x y) : MC c y k0 := by
  unfold MC
  rw [g.1 28 (by decide) (by decide) (by decide) (by decide) (by decide) (by decide) (by decide), (g.2 11 (by decide)).2, (g.2 5 (by decide)).1, (g.2 12 (by decide)).1]; exact h
theorem MNd.pg {y : aX} (h : MNd c x) (g : PG x y) : MNd c y := by
  unfold MNd
  rw [g.1 36 (by decide) (by decide) (by decide) (by decide) (by decide) (by decide) (by decide), (g.2 18 (by decide)).2, (g.2 6 (by decide)).1]; exact h
theorem MRl.pg {y : aX} {r0 : Nat} (h : MRl c x r0) (g : PG x y) : MRl c y r0 := by
  unfold MRl
  rw [g.1 34 (by decide) (by decide) (by decide) (by decide) (by decide) (by decide) (by decide), (g.2 13 (by decide)).1, (g.2 14 (by decide)).1, (g.2 15 (by decide)).1, (g.2 16 (by decide)).1, (g.2 17 (by decide)).1]; exact h
theorem MWy.pg {y : aX} {r0 : Nat} (h : MWy c x r0) (g : PG x y) : MWy c y r0 := by
  unfold MWy
  rw [g.1 43 (by decide) (by decide) (by decide) (by decide) (by decide) (by decide) (by decide), (g.2 19 (by decide)).1, (g.2 20 (by decide)).1, (g.2 21 (by decide)).1, (g.2 22 (by decide)).1, (g.2 23 (by decide)).2]; exact h
theorem MC.cg {d : aN} {k0 : Nat} (h : MC c x k0) (g : CG c d) : MC d x k0 := by
  unfold MC
  rw [g.1 20 (by omega), g.2.2.2.1]; exact h
theorem MNd.cg {d : aN} (h : MNd c x) (g : CG c d) : MNd d x := by
  unfold MNd
  rw [g.1 6 (by omega), g.2.2.2.2.1]; exact h
theorem MRl.cg {d : aN} {r0 : Nat} (h : MRl c x r0) (g : CG c d) (hr : r0 ≤ (c.1 5 0) - 1) : MRl d x r0 := by
  refine ⟨h.1, fun r hr2 => ?_⟩
  rw [g.1 23 (by omega), g.1 26 (by omega), g.1 25 (by omega), g.1 27 (by omega), g.2.1 r (by omega)]; exact h.2 r hr2
theorem MWy.cg {d : aN} {r0 : Nat} (h : MWy c x r0) (g : CG c d) (hr : r0 ≤ (c.1 7 0) - 1 ∨ d.1 33 = c.1 33) : MWy d x r0 := by
  refine ⟨h.1, fun r hr2 => ?_⟩
  have e : d.1 33 r = c.1 33 r := by
    rcases hr with hr | hr
    · exact g.2.2.1 r (by omega)
    · rw [hr]
  rw [g.1 29 (by omega), g.1 31 (by omega), g.1 32 (by omega), e, g.2.2.2.2.2]; exact h.2 r hr2
set_option maxHeartbeats 1000000 in
set_option maxRecDepth 100000 in
theorem c_M_153B {v : Int32} (h0 : ¬ x.1 24 = 0) (hK : K none (mk σ0 m x)) : a_J G m_M_readCounter 9 194 153 [(0, .ref m), (1, .int v)] [] (mk σ0 m x) K := by
  refine a_aload_n d_M_readCounter_153 rfl rfl ?_
  refine m_get d_M_readCounter_154 f_M_126 rfl ?_
  refine a_if_ne (tgt := 333) d_M_readCounter_157 (by decide) (fun c_1 => ?_) (fun n9 => absurd n9 (h0))
  refine a_aload_n d_M_readCounter_333 rfl rfl ?_
  refine a_iconst (v := 1) d_M_readCounter_334 (by decide) ?_
  apply a_callV (ci := 7) 3 70 [_] _ d_M_readCounter_335 l_M_279 ⟨im_M_expect, se_M_expect⟩ rfl rfl rfl rfl (Nat.le_of_ble_eq_true rfl) ⟨Nat.le_of_ble_eq_true rfl, Nat.le_of_ble_eq_true rfl⟩
  · (exact mk_O)
  refine sp_M_expectB h0 ?_
  exact a_return d_M_readCounter_338 rfl hK

set_option maxHeartbeats 1000000 in
set_option maxRecDepth 100000 in
theorem c_M_289T {v : Int32} {r : Nat} (hr : x.1 34 = nI r) (hr24 : r < 24) (hT : MX x n f) {a : Nat} (hA : x.1 19 = nI a) (ha : a ≤ n) (h0 : x.1 24 = 0) (ht : x.1 20 = 1) (hK : ∀ y, NX n f a (sI (sA x 17 r (x.1 50 - x.2.2.1 16 r)) 34 (nI (r + 1))) y → a_J G m_M_readCounter 9 194 153 [(0, .ref m), (1, .int (v + 1))] [] (mk σ0 m y) K) : a_J G m_M_readCounter 9 194 289 [(0, .ref m), (1, .int v)] [] (mk σ0 m x) K := by
  refine a_aload_n d_M_readCounter_289 rfl rfl ?_
  refine m_get d_M_readCounter_290 f_M_64 rfl ?_
  refine a_aload_n d_M_readCounter_293 rfl rfl ?_
  refine m_get (v := .int (nI r)) d_M_readCounter_294 f_M_239 (congrArg (fun z => some (Value.int z)) hr) ?_
  refine a_aload_n d_M_readCounter_297 rfl rfl ?_
  refine m_get d_M_readCounter_298 f_M_248 rfl ?_
  refine a_aload_n d_M_readCounter_301 rfl rfl ?_
  refine m_get d_M_readCounter_302 f_M_61 rfl ?_
  refine a_aload_n d_M_readCounter_305 rfl rfl ?_
  refine m_get (v := .int (nI r)) d_M_readCounter_306 f_M_239 (congrArg (fun z => some (Value.int z)) hr) ?_
  refine m_iald d_M_readCounter_309 (by decide) rfl (vp_in_nI (show r < 24 by omega) (by decide)) ?_
  rw [nI_clamp (show r < 2 ^ 31 by omega)]
  refine a_isub d_M_readCounter_310 ?_
  refine m_iast d_M_readCounter_311 (by decide) rfl (vp_in_nI (show r < 24 by omega) (by decide)) ?_
  rw [nI_clamp (show r < 2 ^ 31 by omega)]
  refine a_aload_n d_M_readCounter_312 rfl rfl ?_
  refine a_dup d_M_readCounter_313 rfl ?_
  refine m_get (v := .int (nI r)) d_M_readCounter_314 f_M_239 (congrArg (fun z => some (Value.int z)) hr) ?_
  refine a_iconst (v := 1) d_M_readCounter_317 (by decide) ?_
  refine a_iadd d_M_readCounter_318 ?_
  rw [nI_1]
  refine m_putI d_M_readCounter_319 p_M_239 rfl rfl (by decide) ?_
  refine a_iinc (c0 := 1) d_M_readCounter_322 rfl (by decide) (by decide) ?_
  refine a_aload_n d_M_readCounter_325 rfl rfl ?_
  refine a_iconst (v := 1) d_M_readCounter_326 (by decide) ?_
  apply a_callV (ci := 7) 3 70 [_] _ d_M_readCounter_327 l_M_279 ⟨im_M_expect, se_M_expect⟩ rfl rfl rfl rfl (Nat.le_of_ble_eq_true rfl) ⟨Nat.le_of_ble_eq_true rfl, Nat.le_of_ble_eq_true rfl⟩
  · (exact mk_O)
  refine sp_M_expectT hT hA ha h0 ht (fun y hy => ?_)
  refine a_goto (tgt := 153) d_M_readCounter_330 (by decide) ?_
  exact a_lvk (hK y hy) ⟨rfl, rfl, trivial⟩

set_option maxHeartbeats 1000000 in
set_option maxRecDepth 100000 in
theorem c_M_289F {v : Int32} {r : Nat} (hr : x.1 34 = nI r) (hr24 : r < 24) (ht : ¬ x.1 20 = 1) (hK : a_J G m_M_readCounter 9 194 153 [(0, .ref m), (1, .int (v + 1))] [] (mk σ0 m (muX (sI (sA x 17 r (x.1 50 - x.2.2.1 16 r)) 34 (nI (r + 1))) 0)) K) : a_J G m_M_readCounter 9 194 289 [(0, .ref m), (1, .int v)] [] (mk σ0 m x) K := by
  refine a_aload_n d_M_readCounter_289 rfl rfl ?_
  refine m_get d_M_readCounter_290 f_M_64 rfl ?_
  refine a_aload_n d_M_readCounter_293 rfl rfl ?_
  refine m_get (v := .int (nI r)) d_M_readCounter_294 f_M_239 (congrArg (fun z => some (Value.int z)) hr) ?_
  refine a_aload_n d_M_readCounter_297 rfl rfl ?_
  refine m_get d_M_readCounter_298 f_M_248 rfl ?_
  refine a_aload_n d_M_readCounter_301 rfl rfl ?_
  refine m_get d_M_readCounter_302 f_M_61 rfl ?_
  refine a_aload_n d_M_readCounter_305 rfl rfl ?_
  refine m_get (v := .int (nI r)) d_M_readCounter_306 f_M_239 (congrArg (fun z => some (Value.int z)) hr) ?_
  refine m_iald d_M_readCounter_309 (by decide) rfl (vp_in_nI (show r < 24 by omega) (by decide)) ?_
  rw [nI_clamp (show r < 2 ^ 31 by omega)]
  refine a_isub d_M_readCounter_310 ?_
  refine m_iast d_M_readCounter_311 (by decide) rfl (vp_in_nI (show r < 24 by omega) (by decide)) ?_
  rw [nI_clamp (show r < 2 ^ 31 by omega)]
  refine a_aload_n d_M_readCounter_312 rfl rfl ?_
  refine a_dup d_M_readCounter_313 rfl ?_
  refine m_get (v := .int (nI r)) d_M_readCounter_314 f_M_239 (congrArg (fun z => some (Value.int z)) hr) ?_
  refine a_iconst (v := 1) d_M_readCounter_317 (by decide) ?_
  refine a_iadd d_M_readCounter_318 ?_
  rw [nI_1]
  refine m_putI d_M_readCounter_319 p_M_239 rfl rfl (by decide) ?_
  refine a_iinc (c0 := 1) d_M_readCounter_322 rfl (by decide) (by decide) ?_
  refine a_aload_n d_M_readCounter_325 rfl rfl ?_
  refine a_iconst (v := 1) d_M_readCounter_326 (by decide) ?_
  apply a_callV (ci := 7) 3 70 [_] _ d_M_readCounter_327 l_M_279 ⟨im_M_expect, se_M_expect⟩ rfl rfl rfl rfl (Nat.le_of_ble_eq_true rfl) ⟨Nat.le_of_ble_eq_true rfl, Nat.le_of_ble_eq_true rfl⟩
  · (exact mk_O)
  refine sp_M_expectF ht ?_
  refine a_goto (tgt := 153) d_M_readCounter_330 (by decide) ?_
  exact a_lvk (hK) ⟨rfl, rfl, trivial⟩

set_option maxHeartbeats 1000000 in
set_option maxRecDepth 100000 in
theorem c_M_289B {v : Int32} {r : Nat} (hr : x.1 34 = nI r) (hr24 : r < 24) (h0 : ¬ x.1 24 = 0) (hK : a_J G m_M_readCounter 9 194 153 [(0, .ref m), (1, .int (v + 1))] [] (mk σ0 m (sI (sA x 17 r (x.1 50 - x.2.2.1 16 r)) 34 (nI (r + 1)))) K) : a_J G m_M_readCounter 9 194 289 [(0, .ref m), (1, .int v)] [] (mk σ0 m x) K := by
  refine a_aload_n d_M_readCounter_289 rfl rfl ?_
  refine m_get d_M_readCounter_290 f_M_64 rfl ?_
  refine a_aload_n d_M_readCounter_293 rfl rfl ?_
  refine m_get (v := .int (nI r)) d_M_readCounter_294 f_M_239 (congrArg (fun z => some (Value.int z)) hr) ?_
  refine a_aload_n d_M_readCounter_297 rfl rfl ?_
  refine m_get d_M_readCounter_298 f_M_248 rfl ?_
  refine a_aload_n d_M_readCounter_301 rfl rfl ?_
  refine m_get d_M_readCounter_302 f_M_61 rfl ?_
  refine a_aload_n d_M_readCounter_305 rfl rfl ?_
  refine m_get (v := .int (nI r)) d_M_readCounter_306 f_M_239 (congrArg (fun z => some (Value.int z)) hr) ?_
  refine m_iald d_M_readCounter_309 (by decide) rfl (vp_in_nI (show r < 24 by omega) (by decide)) ?_
  rw [nI_clamp (show r < 2 ^ 31 by omega)]
  refine a_isub d_M_readCounter_310 ?_
  refine m_iast d_M_readCounter_311 (by decide) rfl (vp_in_nI (show r < 24 by omega) (by decide)) ?_
  rw [nI_clamp (show r < 2 ^ 31 by omega)]
  refine a_aload_n d_M_readCounter_312 rfl rfl ?_
  refine a_dup d_M_readCounter_313 rfl ?_
  refine m_get (v := .int (nI r)) d_M_readCounter_314 f_M_239 (congrArg (fun z => some (Value.int z)) hr) ?_
  refine a_iconst (v := 1) d_M_readCounter_317 (by decide) ?_
  refine a_iadd d_M_readCounter_318 ?_
  rw [nI_1]
  refine m_putI d_M_readCounter_319 p_M_239 rfl rfl (by decide) ?_
  refine a_iinc (c0 := 1) d_M_readCounter_322 rfl (by decide) (by decide) ?_
  refine a_aload_n d_M_readCounter_325 rfl rfl ?_
  refine a_iconst (v := 1) d_M_readCounter_326 (by decide) ?_
  apply a_callV (ci := 7) 3 70 [_] _ d_M_readCounter_327 l_M_279 ⟨im_M_expect, se_M_expect⟩ rfl rfl rfl rfl (Nat.le_of_ble_eq_true rfl) ⟨Nat.le_of_ble_eq_true rfl, Nat.le_of_ble_eq_true rfl⟩
  · (exact mk_O)
  refine sp_M_expectB h0 ?_
  refine a_goto (tgt := 153) d_M_readCounter_330 (by decide) ?_
  exact a_lvk (hK) ⟨rfl, rfl, trivial⟩

set_option maxHeartbeats 1000000 in
set_option maxRecDepth 100000 in
theorem c_M_262 {v w : Int32} {r : Nat} (hr : x.1 34 = nI r) (hr24 : r < 24) (hG : a_C G m_M_readGuards 8 172 [.ref m, .int w] (mk σ0 m (sA (sA x 15 r w) 16 r (x.1 50))) (fun u τ => a_J G m_M_readCounter 9 194 289 [(0, .ref m), (1, .int v)] (u.toList ++ []) τ K)) : a_J G m_M_readCounter 9 194 262 [(0, .ref m), (1, .int v)] [.int w, .int (nI r), .ref (m + 15)] (mk σ0 m x) K := by
  refine m_iast d_M_readCounter_262 (by decide) rfl (vp_in_nI (show r < 24 by omega) (by decide)) ?_
  rw [nI_clamp (show r < 2 ^ 31 by omega)]
  refine a_aload_n d_M_readCounter_263 rfl rfl ?_
  refine m_get d_M_readCounter_264 f_M_61 rfl ?_
  refine a_aload_n d_M_readCounter_267 rfl rfl ?_
  refine m_get (v := .int (nI r)) d_M_readCounter_268 f_M_239 (congrArg (fun z => some (Value.int z)) hr) ?_
  refine a_aload_n d_M_readCounter_271 rfl rfl ?_
  refine m_get d_M_readCounter_272 f_M_248 rfl ?_
  refine m_iast d_M_readCounter_275 (by decide) rfl (vp_in_nI (show r < 24 by omega) (by decide)) ?_
  rw [nI_clamp (show r < 2 ^ 31 by omega)]
  refine a_aload_n d_M_readCounter_276 rfl rfl ?_
  refine a_aload_n d_M_readCounter_277 rfl rfl ?_
  refine m_get d_M_readCounter_278 f_M_58 rfl ?_
  refine a_aload_n d_M_readCounter_281 rfl rfl ?_
  refine m_get (v := .int (nI r)) d_M_readCounter_282 f_M_239 (congrArg (fun z => some (Value.int z)) hr) ?_
  refine m_iald d_M_readCounter_285 (by decide) rfl (vp_in_nI (show r < 24 by omega) (by decide)) ?_
  rw [nI_clamp (show r < 2 ^ 31 by omega)]
  apply a_callV (ci := 7) 8 172 [_] _ d_M_readCounter_286 l_M_276 ⟨im_M_readGuards, se_M_readGuards⟩ rfl rfl rfl rfl (Nat.le_of_ble_eq_true rfl) ⟨Nat.le_of_ble_eq_true rfl, Nat.le_of_ble_eq_true rfl⟩
  · (exact mk_O)
  rw [show (sA (sA x 15 r w) 16 r ((sA x 15 r w).1 50)).2.2.1 15 r = w from pk_us]
  exact hG

/-- what lies apart from what is read -/
def PP (x y : aX) : Prop := (∀ k, k ≤ 18 → y.1 k = x.1 k) ∧ ∀ a, a ≤ 10 → ¬ a = 5 → ¬ a = 6 → y.2.2.1 a = x.2.2.1 a
theorem PP.rf {x : aX} : PP x x := ⟨fun _ _ => rfl, fun _ _ _ _ => rfl⟩
theorem PP.trans {x y z : aX} (h : PP x y) (g : PP y z) : PP x z := ⟨fun k a => (g.1 k a).trans (h.1 k a), fun a b c d => (g.2 a b c d).trans (h.2 a b c d)⟩
theorem PG.pp {x y : aX} (h : PG x y) : PP x y := ⟨fun k hk => h.1 k (by omega) (by omega) (by omega) (by omega) (by omega) (by omega) (by omega), fun a ha _ _ => (h.2 a (by omega)).1⟩
theorem PP.mx {x y : aX} (h : PP x y) (g : MX x n f) : MX y n f := ⟨(h.1 18 (by omega)).trans g.1, g.2.1, by rw [h.2 10 (by decide) (by decide) (by decide)]; exact g.2.2⟩
/-- what a rule leaves -/
def RP (n : Nat) (f : Nat → Nat) (c : aN) (z : aX) : Prop := (∃ e, aRc n f c e ∧ e.1 2 0 = 0 ∧ e.1 0 0 = 6 ∧ LKA n f (e.1 1 0) z ∧ MGd e z ∧ MC e z (e.1 4 0) ∧ MNd e z ∧ MRl e z (e.1 5 0) ∧ MWy e z (e.1 7 0) ∧ CG c e) ∨ (BAD n f c z ∧ MX z n f)
set_option maxHeartbeats 2000000 in
theorem c_M_262G {v w : Int32} (hx : LKA n f (c.1 1 0) x) (h0 : (c.1 2 0) = 0) (hs : (c.1 0 0) = 9) (hwy : (c.1 10 0) = 0) (hc : acm c = 0) (hA : AI c) (hJ : AJ n c) (hL : AL c) (hM : MGd c x) (hw : w = ccF (acl c)) (hMC : MC c x (c.1 4 0)) (hMN : MNd c x) (hMR : MRl c x ((c.1 5 0) - 1)) (hMW : MWy c x (c.1 7 0)) (hro : x.2.2.1 13 ((c.1 5 0) - 1) = nI (c.1 23 ((c.1 5 0) - 1))) (hup : x.2.2.1 14 ((c.1 5 0) - 1) = nI (c.1 26 ((c.1 5 0) - 1))) (hK : ∀ z, PP x z → RP n f c z → a_J G m_M_readCounter 9 194 153 [(0, .ref m), (1, .int (v + 1))] [] (mk σ0 m z) K) : a_J G m_M_readCounter 9 194 262 [(0, .ref m), (1, .int v)] [.int w, .int (nI ((c.1 5 0) - 1)), .ref (m + 15)] (mk σ0 m x) K := by
  have hNT := NT_lt hA
  have h5 : Q5c c 9 := by have := hA.2.2.2.2.1; unfold Q5 at this; rw [hs] at this; exact this
  unfold Q5c at h5
  have hcur := (h5.2.2.2.2.2.2.1 (by omega)).1 hwy
  have hx7 : LKA n f (c.1 1 0) (sA (sA x 15 ((c.1 5 0) - 1) w) 16 ((c.1 5 0) - 1) (x.1 50)) := hx.keep (fun _ _ _ => rfl) rfl rfl
  have hPP7 : PP x (sA (sA x 15 ((c.1 5 0) - 1) w) 16 ((c.1 5 0) - 1) (x.1 50)) := ⟨fun _ _ => rfl, fun a ha _ _ => by show updA (updA x.2.2.1 15 _ _) 16 _ _ a = _; rw [updA_ne (by omega), updA_ne (by omega)]⟩
  refine c_M_262 hMR.1 (by omega) (sp_M_readGuards (c := c) hx7 h0 hs hc hA hJ hL hM hw (fun y hy hq => ?_))
  have e34 : y.1 34 = nI ((c.1 5 0) - 1) := (hy.1 34 (by decide) (by decide) (by decide) (by decide) (by decide) (by decide) (by decide)).trans hMR.1
  have hPPy := hPP7.trans hy.pp
  have hPPm : PP y (sI (sA y 17 ((c.1 5 0) - 1) (y.1 50 - y.2.2.1 16 ((c.1 5 0) - 1))) 34 (nI ((c.1 5 0) - 1 + 1))) := ⟨fun k hk => by show upd y.1 34 _ k = y.1 k; rw [pk_un (by omega)], fun a ha _ _ => updA_ne (by omega)⟩
  rcases hq with ⟨d, q1, q2, q3, q4, q5, q6, q7⟩ | ⟨q1, q2⟩
  · have hA2 := AI_Rc hA q1
    have e5 : d.1 5 = c.1 5 := q7.1 5 (by omega)
    have e10 : d.1 10 = c.1 10 := q7.1 10 (by omega)
    have e27' : d.1 27 = c.1 27 := q7.1 27 (by omega)
    have hle := lx_le n f q4.2.1
    have hwd : d.1 10 0 = 0 := by rw [e10]; exact hwy
    have hcm := (acm_NT hA2 q3).1 hwd
    rw [e5, e27'] at hcm
    have hrm : acm d = d.1 28 ((c.1 5 0) - 1) := by unfold acm; rw [if_pos hwd, e5]
    have hNT2 := NT_lt hA2
    have hx8 : LKA n f (d.1 1 0) (sI (sA y 17 ((c.1 5 0) - 1) (y.1 50 - y.2.2.1 16 ((c.1 5 0) - 1))) 34 (nI ((c.1 5 0) - 1 + 1))) := q4.keep (fun k h1 h2 => by show upd y.1 34 _ k = y.1 k; rw [pk_un (by omega)]) rfl rfl
    by_cases k2 : lxK n f (d.1 1 0) = 2
    · have hd : stT (tok n f (d.1 1 0)) d = gt (tok n f (d.1 1 0)) d 6 := by
        rw [stT_9 (tok n f (d.1 1 0)) q3]; unfold a9
        rw [if_neg (show ¬ ((tok n f (d.1 1 0)).1 = 1 ∧ acm d < 4) from fun z => q5 z.1), if_pos hwd, if_pos (show (tok n f (d.1 1 0)).1 = 2 from k2)]
      refine c_M_289T e34 (by omega) q4.1 q4.2.2.2.2.1 hle.2.2.2 q4.2.2.1 ((tk_1 q4).mpr k2) (fun z hz => ?_)
      obtain ⟨hr, hl⟩ := step_LKA hx8 q2 (by omega) hd q2 (by show 1 ≤ 6; decide) (by show 6 ≤ 17; decide) rfl hz
      refine hK z ((hPPy.trans hPPm).trans hz.pt.pg.pp) ?_
      rcases hl with hl | ⟨hl1, hl2⟩
      · have hCG : CG c (gt (tok n f (d.1 1 0)) d 6) := q7.trans (CG_gt _ _)
        have hSM : SM d (gt (tok n f (d.1 1 0)) d 6) := ⟨fun a h1 h2 _ _ _ _ => by show xN (xN d.1 0 0 6) 1 0 _ a = d.1 a; rw [xN_ne h2, xN_ne h1], rfl⟩
        have hMGz : MGd (gt (tok n f (d.1 1 0)) d 6) z := MGd_PT (x := (sI (sA y 17 ((c.1 5 0) - 1) (y.1 50 - y.2.2.1 16 ((c.1 5 0) - 1))) 34 (nI ((c.1 5 0) - 1 + 1)))) (MGd_SM (c := d) ⟨q6.1, q6.2.1, q6.2.2.1, q6.2.2.2⟩ hSM) hz.pt
        have e4g : (gt (tok n f (d.1 1 0)) d 6).1 4 = c.1 4 := hCG.1 4 (by omega)
        have e5g : (gt (tok n f (d.1 1 0)) d 6).1 5 = c.1 5 := hCG.1 5 (by omega)
        have e7g : (gt (tok n f (d.1 1 0)) d 6).1 7 = c.1 7 := hCG.1 7 (by omega)
        have hnw : (c.1 7 0) = 0 := by
          by_cases zz : (c.1 7 0) = 0
          · exact zz
          · have := (hA.2.2.1 0 (by omega)).1; omega
        refine Or.inl ⟨gt (tok n f (d.1 1 0)) d 6, q1.trans hr, q2, rfl, hl, hMGz, ?_, ?_, ?_, ?_, hCG⟩
        · rw [e4g]
          have h1 : MC c (sA (sA x 15 ((c.1 5 0) - 1) w) 16 ((c.1 5 0) - 1) (x.1 50)) (c.1 4 0) := hMC
          have h2 : MC (gt (tok n f (d.1 1 0)) d 6) y (c.1 4 0) := (h1.pg hy).cg hCG
          have h3 : MC (gt (tok n f (d.1 1 0)) d 6) (sI (sA y 17 ((c.1 5 0) - 1) (y.1 50 - y.2.2.1 16 ((c.1 5 0) - 1))) 34 (nI ((c.1 5 0) - 1 + 1))) (c.1 4 0) := h2
          exact h3.pg hz.pt.pg
        · have h1 : MNd c (sA (sA x 15 ((c.1 5 0) - 1) w) 16 ((c.1 5 0) - 1) (x.1 50)) := hMN
          have h2 : MNd (gt (tok n f (d.1 1 0)) d 6) y := (h1.pg hy).cg hCG
          have h3 : MNd (gt (tok n f (d.1 1 0)) d 6) (sI (sA y 17 ((c.1 5 0) - 1) (y.1 50 - y.2.2.1 16 ((c.1 5 0) - 1))) 34 (nI ((c.1 5 0) - 1 + 1))) := h2
          exact h3.pg hz.pt.pg
        · rw [e5g]
          have h3 : MRl (gt (tok n f (d.1 1 0)) d 6) (sI (sA y 17 ((c.1 5 0) - 1) (y.1 50 - y.2.2.1 16 ((c.1 5 0) - 1))) 34 (nI ((c.1 5 0) - 1 + 1))) (c.1 5 0) := by
            refine ⟨by show nI ((c.1 5 0) - 1 + 1) = nI (c.1 5 0); rw [show (c.1 5 0) - 1 + 1 = (c.1 5 0) by omega], fun r hr2 => ?_⟩
            have y13 := (hy.2 13 (by decide)).1
            have y14 := (hy.2 14 (by decide)).1
            have y15 := (hy.2 15 (by decide)).1
            have y16 := (hy.2 16 (by decide)).1
            have y17 := (hy.2 17 (by decide)).1
            show y.2.2.1 13 r = nI (d.1 23 r) ∧ y.2.2.1 14 r = nI (d.1 26 r) ∧ y.2.2.1 15 r = ccF (d.1 25 r) ∧ y.2.2.1 16 r = nI (d.1 27 r) ∧ upd (y.2.2.1 17) ((c.1 5 0) - 1) (y.1 50 - y.2.2.1 16 ((c.1 5 0) - 1)) r = nI (d.1 28 r)
            rw [y13, y14, y15, y16, q7.1 23 (by omega), q7.1 26 (by omega), q7.1 25 (by omega), e27']
            show x.2.2.1 13 r = _ ∧ x.2.2.1 14 r = _ ∧ upd (x.2.2.1 15) ((c.1 5 0) - 1) w r = _ ∧ upd (x.2.2.1 16) ((c.1 5 0) - 1) (x.1 50) r = _ ∧ upd (y.2.2.1 17) ((c.1 5 0) - 1) (y.1 50 - upd (x.2.2.1 16) ((c.1 5 0) - 1) (x.1 50) ((c.1 5 0) - 1)) r = _
            by_cases er : r = (c.1 5 0) - 1
            · rw [er, pk_us, pk_us, pk_us, q6.1, hM.1]
              refine ⟨hro, hup, ?_, ?_, ?_⟩
              · rw [hw]; unfold acl; rw [if_pos hwy]
              · have hc0 := (acm_NT hA hs).1 hwy; congr 1; omega
              · have hc0 := (acm_NT hA hs).1 hwy
                rw [nI_sub (by omega)]; congr 1; omega
            · rw [pk_un er, pk_un er, pk_un er, y17, q7.2.1 r er]
              exact hMR.2 r (by omega)
          exact h3.pg hz.pt.pg
        · rw [e7g]
          have h1 : MWy c (sA (sA x 15 ((c.1 5 0) - 1) w) 16 ((c.1 5 0) - 1) (x.1 50)) (c.1 7 0) := hMW
          have h2 : MWy (gt (tok n f (d.1 1 0)) d 6) y (c.1 7 0) := (h1.pg hy).cg hCG (Or.inl (by omega))
          have h3 : MWy (gt (tok n f (d.1 1 0)) d 6) (sI (sA y 17 ((c.1 5 0) - 1) (y.1 50 - y.2.2.1 16 ((c.1 5 0) - 1))) 34 (nI ((c.1 5 0) - 1 + 1))) (c.1 7 0) := h2
          exact h3.pg hz.pt.pg
      · exact Or.inr ⟨hl1.of q1, hl2⟩
    · have hd : stT (tok n f (d.1 1 0)) d = wr (tok n f (d.1 1 0)) d := by
        rw [stT_9 (tok n f (d.1 1 0)) q3]; unfold a9
        rw [if_neg (show ¬ ((tok n f (d.1 1 0)).1 = 1 ∧ acm d < 4) from fun z => q5 z.1), if_pos hwd, if_neg (show ¬ (tok n f (d.1 1 0)).1 = 2 from k2)]
      refine c_M_289F e34 (by omega) (fun z => k2 ((tk_1 q4).mp z)) (hK _ ((hPPy.trans hPPm).trans (PT.mu _).pg.pp) (Or.inr ⟨(BAD_must hx8 q2 (by omega) hd).of q1, (PT.mu _).mx hx8.1⟩))
  · exact c_M_289B e34 (by omega) q1.ne (hK _ (hPPy.trans hPPm) (Or.inr ⟨q1.eq rfl rfl, hPPm.mx q2⟩))
end ModM14
