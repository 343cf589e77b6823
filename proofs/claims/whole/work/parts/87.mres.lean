/-! THE MODEL's resolve is the machine's linking -/
/-- the model's rows are c's; the first l looks are linked -/
def ML (d : aN) (y : aX) (l : Nat) : Prop := y.1 24 = 0 ∧ y.1 25 = -1 ∧ MGd d y ∧ MC d y (d.1 4 0) ∧ MNd d y ∧ MRl d y (d.1 5 0) ∧ MWy d y (d.1 7 0) ∧ ∀ i, i < l → d.1 41 i = 1 → y.2.2.1 24 (d.1 42 i) = nI (d.1 34 (d.1 42 i))
def LPo (d : aN) (z : aX) : Prop := (d.1 2 0 = 0 ∧ ML d z (d.1 9 0)) ∨ (¬ d.1 2 0 = 0 ∧ z.1 24 = nI (d.1 2 0) ∧ z.1 25 = nI (d.1 3 0))
theorem cov (p : Nat → Nat) : ∀ k l, p 0 ≤ l → l < p k → ∃ r, r < k ∧ p r ≤ l ∧ l < p (r + 1)
  | 0, l, h1, h2 => by omega
  | k + 1, l, h1, h2 => by
    by_cases e : l < p k
    · obtain ⟨r, a, b⟩ := cov p k l h1 e
      exact ⟨r, by omega, b⟩
    · exact ⟨k, by omega, by omega, h2⟩
theorem lk_cov {n : Nat} {c : aN} (hA : AI c) (hJ : AJ n c) (hE2 : E2 c) (hE3 : E3c c 0) {l : Nat} (h : l < c.1 9 0) : (∃ g call, tLk c l g call ∧ g < c.1 8 0 ∧ call ≤ 16) ∨ (c.1 41 l = 1 ∧ c.1 42 l < c.1 7 0) := by
  have hfin : fin c 0 = c.1 7 0 := by unfold fin; rw [if_neg (by omega)]
  obtain ⟨e1, e2, e3, e4, -⟩ := hE3
  rw [hfin] at e1 e4
  rw [if_neg (by omega)] at e1
  by_cases hl : l < pR c (c.1 5 0)
  · left
    obtain ⟨r, h1, h2, h3⟩ := cov (pR c) _ l (by rw [pR_0 hE2]; omega) hl
    rw [pR_s hE2 h1] at h3
    have ep : pR c r = c.1 27 r := by unfold pR; rw [if_pos h1]
    rw [ep] at h2 h3
    have q := hA.2.1 r h1
    have j := hJ.2.1 r
    have := e2 r h1 (l - c.1 27 r) (by omega)
    rw [show c.1 27 r + (l - c.1 27 r) = l by omega] at this
    exact ⟨l, _, this, by omega, by omega⟩
  · have hW : pW c (c.1 7 0) = c.1 8 0 + c.1 7 0 := by unfold pW; rw [if_neg (by omega)]
    obtain ⟨r, h1, h2, h3⟩ := cov (pW c) (c.1 7 0) l (by rw [← pRW hE2]; omega) (by rw [hW]; omega)
    rw [pW_s hE2 h1] at h3
    have ep : pW c r = c.1 32 r + r := by unfold pW; rw [if_pos h1]
    rw [ep] at h2 h3
    have q := hA.2.2.1 r h1
    have j := hJ.2.1 r
    by_cases z : l = c.1 32 r + c.1 33 r + r
    · right
      have := e4 r h1
      rw [← z] at this
      exact ⟨this.1, by rw [this.2.1]; exact h1⟩
    · left
      have := e3 r h1 (l - c.1 32 r - r) (by omega)
      rw [show c.1 32 r + (l - c.1 32 r - r) + r = l by omega] at this
      exact ⟨_, _, this, by omega, by omega⟩
theorem LK0_rf {n : Nat} {c : aN} (hJ : AJ n c) : LK0 c c := ⟨fun _ _ _ _ _ => rfl, rfl, fun g => by have := hJ.2.1 g; exact ⟨by omega, fun _ => by omega⟩⟩
theorem LK0_wt {c0 c : aN} (hK : LK0 c0 c) (r j : Nat) : LK0 c0 (xN c.1 34 r j, c.2) := by
  refine ⟨fun a h1 h2 h3 h4 => ?_, hK.2.1, fun g => ?_⟩
  · show xN c.1 34 r j a = _
    rw [xN_ne h2]; exact hK.1 a h1 h2 h3 h4
  · show xN c.1 34 r j 37 g ≤ 7 ∧ (¬ xN c.1 34 r j 36 g = 1 → xN c.1 34 r j 37 g ≤ 2)
    rw [xN_ne (by decide), xN_ne (by decide)]; exact hK.2.2 g
theorem sA_ne {x : aX} {a i b : Nat} {v : Int32} (h : ¬ b = a) : (sA x a i v).2.2.1 b = x.2.2.1 b := updA_ne h
theorem sA_at {x : aX} {a i : Nat} {v : Int32} : (sA x a i v).2.2.1 a i = v := by
  show updA x.2.2.1 a i v a i = v
  rw [updA_eq]; simp [upd]
theorem sA_un {x : aX} {a i k : Nat} {v : Int32} (h : ¬ k = i) : (sA x a i v).2.2.1 a k = x.2.2.1 a k := by
  show updA x.2.2.1 a i v a k = _
  rw [updA_eq]; simp [upd, h]
theorem xN_at {N : Nat → Nat → Nat} {i k v : Nat} : xN N i k v i k = v := by simp [xN]
theorem xN_un {N : Nat → Nat → Nat} {i k v j : Nat} (h : ¬ j = k) : xN N i k v i j = N i j := by simp [xN, h]
/-- a counter is found -/
theorem ML_tw {d : aN} {y : aX} {l g j : Nat} (h : ML d y l) (hl : ¬ d.1 41 l = 1) : ML (xN d.1 37 g j, d.2) (sA y 26 g (nI j)) (l + 1) := by
  obtain ⟨h1, h2, ⟨m1, m2, m3, m4⟩, hC, hN, hR, hW, ht⟩ := h
  refine ⟨h1, h2, ⟨?_, ?_, fun b hb => ?_, fun b hb => ?_⟩, ?_, ?_, ?_, ?_, fun i hi hi2 => ?_⟩
  · show y.1 50 = nI (xN d.1 37 g j 8 0)
    rw [xN_ne (by decide)]; exact m1
  · show y.1 52 = nI (xN d.1 37 g j 9 0)
    rw [xN_ne (by decide)]; exact m2
  · have hb2 : b < xN d.1 37 g j 8 0 := hb
    rw [xN_ne (by decide)] at hb2
    have m := m3 b hb2
    unfold gOK at m ⊢
    rw [sA_ne (by decide), sA_ne (b := 28) (by decide), sA_ne (b := 29) (by decide), sA_ne (b := 30) (by decide)]
    show y.2.2.1 25 b = nI (xN d.1 37 g j 36 b) ∧ (sA y 26 g (nI j)).2.2.1 26 b = nI (xN d.1 37 g j 37 b) ∧ (xN d.1 37 g j 36 b = 1 → _) ∧ y.2.2.1 28 b = nI (xN d.1 37 g j 38 b) ∧ _ ∧ y.2.2.1 30 b = nI (xN d.1 37 g j 39 b)
    rw [xN_ne (by decide), xN_ne (a := 38) (by decide), xN_ne (a := 39) (by decide)]
    refine ⟨m.1, ?_, m.2.2.1, m.2.2.2.1, m.2.2.2.2.1, m.2.2.2.2.2⟩
    by_cases e : b = g
    · rw [e, sA_at, xN_at]
    · rw [sA_un e, xN_un e]; exact m.2.1
  · have hb2 : b < xN d.1 37 g j 9 0 := hb
    rw [xN_ne (by decide)] at hb2
    have m := m4 b hb2
    unfold lOK at m ⊢
    rw [sA_ne (by decide)]
    show y.2.2.1 31 (4 * b) = nI (xN d.1 37 g j 41 b) ∧ y.2.2.1 31 (4 * b + 1) = nI (xN d.1 37 g j 42 b) ∧ y.2.2.1 31 (4 * b + 2) = ccF (xN d.1 37 g j 43 b) ∧ y.2.2.1 31 (4 * b + 3) = nI (xN d.1 37 g j 44 b)
    rw [xN_ne (by decide), xN_ne (a := 42) (by decide), xN_ne (a := 43) (by decide), xN_ne (a := 44) (by decide)]; exact m
  · unfold MC at hC ⊢
    rw [sA_ne (by decide), sA_ne (b := 12) (by decide)]
    show y.1 28 = nI (xN d.1 37 g j 4 0) ∧ ∀ k, k < xN d.1 37 g j 4 0 → _ ∧ _ ∧ _ = nI (xN d.1 37 g j 20 k)
    rw [xN_ne (by decide), xN_ne (a := 20) (by decide)]; exact hC
  · unfold MNd at hN ⊢
    rw [sA_ne (by decide)]
    show y.1 36 = nI (xN d.1 37 g j 6 0) ∧ ∀ k, k < xN d.1 37 g j 6 0 → _
    rw [xN_ne (by decide)]; exact hN
  · unfold MRl at hR ⊢
    rw [sA_ne (by decide), sA_ne (b := 14) (by decide), sA_ne (b := 15) (by decide), sA_ne (b := 16) (by decide), sA_ne (b := 17) (by decide)]
    show y.1 34 = nI (xN d.1 37 g j 5 0) ∧ ∀ r, r < xN d.1 37 g j 5 0 → _ = nI (xN d.1 37 g j 23 r) ∧ _ = nI (xN d.1 37 g j 26 r) ∧ _ = ccF (xN d.1 37 g j 25 r) ∧ _ = nI (xN d.1 37 g j 27 r) ∧ _ = nI (xN d.1 37 g j 28 r)
    rw [xN_ne (by decide), xN_ne (a := 23) (by decide), xN_ne (a := 26) (by decide), xN_ne (a := 25) (by decide), xN_ne (a := 27) (by decide), xN_ne (a := 28) (by decide)]; exact hR
  · unfold MWy at hW ⊢
    rw [sA_ne (by decide), sA_ne (b := 20) (by decide), sA_ne (b := 21) (by decide), sA_ne (b := 22) (by decide)]
    show y.1 43 = nI (xN d.1 37 g j 7 0) ∧ ∀ r, r < xN d.1 37 g j 7 0 → _ = nI (xN d.1 37 g j 29 r) ∧ _ = ccF (xN d.1 37 g j 31 r) ∧ _ = nI (xN d.1 37 g j 32 r) ∧ _ = nI (xN d.1 37 g j 33 r) ∧ _
    rw [xN_ne (by decide), xN_ne (a := 29) (by decide), xN_ne (a := 31) (by decide), xN_ne (a := 32) (by decide), xN_ne (a := 33) (by decide)]; exact hW
  · have hi3 : xN d.1 37 g j 41 i = 1 := hi2
    rw [xN_ne (by decide)] at hi3
    show (sA y 26 g (nI j)).2.2.1 24 (xN d.1 37 g j 42 i) = nI (xN d.1 37 g j 34 (xN d.1 37 g j 42 i))
    rw [sA_ne (by decide), xN_ne (a := 42) (by decide), xN_ne (a := 34) (by decide)]
    refine ht i ?_ hi3
    by_cases e : i = l
    · rw [e] at hi3; exact absurd hi3 hl
    · omega
/-- a node is found -/
theorem ML_wt {d : aN} {y : aX} {l r j : Nat} (h : ML d y l) (hl : d.1 42 l = r) : ML (xN d.1 34 r j, d.2) (sA y 24 r (nI j)) (l + 1) := by
  obtain ⟨h1, h2, ⟨m1, m2, m3, m4⟩, hC, hN, hR, hW, ht⟩ := h
  refine ⟨h1, h2, ⟨?_, ?_, fun b hb => ?_, fun b hb => ?_⟩, ?_, ?_, ?_, ?_, fun i hi hi2 => ?_⟩
  · show y.1 50 = nI (xN d.1 34 r j 8 0)
    rw [xN_ne (by decide)]; exact m1
  · show y.1 52 = nI (xN d.1 34 r j 9 0)
    rw [xN_ne (by decide)]; exact m2
  · have hb2 : b < xN d.1 34 r j 8 0 := hb
    rw [xN_ne (by decide)] at hb2
    have m := m3 b hb2
    unfold gOK at m ⊢
    rw [sA_ne (by decide), sA_ne (b := 26) (by decide), sA_ne (b := 28) (by decide), sA_ne (b := 29) (by decide), sA_ne (b := 30) (by decide)]
    show y.2.2.1 25 b = nI (xN d.1 34 r j 36 b) ∧ _ = nI (xN d.1 34 r j 37 b) ∧ (xN d.1 34 r j 36 b = 1 → _) ∧ y.2.2.1 28 b = nI (xN d.1 34 r j 38 b) ∧ _ ∧ y.2.2.1 30 b = nI (xN d.1 34 r j 39 b)
    rw [xN_ne (by decide), xN_ne (a := 37) (by decide), xN_ne (a := 38) (by decide), xN_ne (a := 39) (by decide)]
    exact m
  · have hb2 : b < xN d.1 34 r j 9 0 := hb
    rw [xN_ne (by decide)] at hb2
    have m := m4 b hb2
    unfold lOK at m ⊢
    rw [sA_ne (by decide)]
    show y.2.2.1 31 (4 * b) = nI (xN d.1 34 r j 41 b) ∧ y.2.2.1 31 (4 * b + 1) = nI (xN d.1 34 r j 42 b) ∧ y.2.2.1 31 (4 * b + 2) = ccF (xN d.1 34 r j 43 b) ∧ y.2.2.1 31 (4 * b + 3) = nI (xN d.1 34 r j 44 b)
    rw [xN_ne (by decide), xN_ne (a := 42) (by decide), xN_ne (a := 43) (by decide), xN_ne (a := 44) (by decide)]; exact m
  · unfold MC at hC ⊢
    rw [sA_ne (by decide), sA_ne (b := 12) (by decide)]
    show y.1 28 = nI (xN d.1 34 r j 4 0) ∧ ∀ k, k < xN d.1 34 r j 4 0 → _ ∧ _ ∧ _ = nI (xN d.1 34 r j 20 k)
    rw [xN_ne (by decide), xN_ne (a := 20) (by decide)]; exact hC
  · unfold MNd at hN ⊢
    rw [sA_ne (by decide)]
    show y.1 36 = nI (xN d.1 34 r j 6 0) ∧ ∀ k, k < xN d.1 34 r j 6 0 → _
    rw [xN_ne (by decide)]; exact hN
  · unfold MRl at hR ⊢
    rw [sA_ne (by decide), sA_ne (b := 14) (by decide), sA_ne (b := 15) (by decide), sA_ne (b := 16) (by decide), sA_ne (b := 17) (by decide)]
    show y.1 34 = nI (xN d.1 34 r j 5 0) ∧ ∀ q, q < xN d.1 34 r j 5 0 → _ = nI (xN d.1 34 r j 23 q) ∧ _ = nI (xN d.1 34 r j 26 q) ∧ _ = ccF (xN d.1 34 r j 25 q) ∧ _ = nI (xN d.1 34 r j 27 q) ∧ _ = nI (xN d.1 34 r j 28 q)
    rw [xN_ne (by decide), xN_ne (a := 23) (by decide), xN_ne (a := 26) (by decide), xN_ne (a := 25) (by decide), xN_ne (a := 27) (by decide), xN_ne (a := 28) (by decide)]; exact hR
  · unfold MWy at hW ⊢
    rw [sA_ne (by decide), sA_ne (b := 20) (by decide), sA_ne (b := 21) (by decide), sA_ne (b := 22) (by decide)]
    show y.1 43 = nI (xN d.1 34 r j 7 0) ∧ ∀ q, q < xN d.1 34 r j 7 0 → _ = nI (xN d.1 34 r j 29 q) ∧ _ = ccF (xN d.1 34 r j 31 q) ∧ _ = nI (xN d.1 34 r j 32 q) ∧ _ = nI (xN d.1 34 r j 33 q) ∧ _
    rw [xN_ne (by decide), xN_ne (a := 29) (by decide), xN_ne (a := 31) (by decide), xN_ne (a := 32) (by decide), xN_ne (a := 33) (by decide)]; exact hW
  · have hi3 : xN d.1 34 r j 41 i = 1 := hi2
    rw [xN_ne (by decide)] at hi3
    show (sA y 24 r (nI j)).2.2.1 24 (xN d.1 34 r j 42 i) = nI (xN d.1 34 r j 34 (xN d.1 34 r j 42 i))
    rw [xN_ne (a := 42) (by decide)]
    by_cases e : d.1 42 i = r
    · rw [e, sA_at, xN_at]
    · rw [sA_un e, xN_un e]
      refine ht i ?_ hi3
      by_cases e2 : i = l
      · rw [e2] at e; exact absurd hl e
      · omega
theorem ML_s {d : aN} {y : aX} {l : Nat} (h : ML d y l) (hl : ¬ d.1 41 l = 1) : ML d y (l + 1) := by
  obtain ⟨h1, h2, h3, h4, h5, h6, h7, h8⟩ := h
  refine ⟨h1, h2, h3, h4, h5, h6, h7, fun i hi hi2 => h8 i ?_ hi2⟩
  by_cases e : i = l
  · rw [e] at hi2; exact absurd hi2 hl
  · omega
theorem PP_sA {y : aX} {a i : Nat} {v : Int32} (h : 10 < a) : PP y (sA y a i v) := ⟨fun _ _ => rfl, fun b hb _ _ => sA_ne (by omega)⟩
theorem PP_wr (y : aX) (w p : Int32) : PP y (wrX y w p) := by
  unfold wrX
  split
  · exact ⟨fun k hk => by show upd (upd y.1 24 w) 25 p k = y.1 k; rw [pk_un (by omega), pk_un (by omega)], fun _ _ _ _ => rfl⟩
  · exact PP.rf
theorem wrX_0 {y : aX} (h : y.1 24 = 0) (w p : Int32) : (wrX y w p).1 24 = w ∧ (wrX y w p).1 25 = p := by
  unfold wrX
  rw [if_pos h]
  exact ⟨by show upd (upd y.1 24 w) 25 p 24 = w; rw [pk_un (by decide)]; simp [upd], by show upd (upd y.1 24 w) 25 p 25 = p; simp [upd]⟩
section Res
variable {G : aG} {σ0 : aS} {K : Option Value → aS → Prop} {m n : Nat} {c0 : aN}
set_option maxHeartbeats 1000000 in
/-- a fault ends the looks -/
theorem res_bad {d : aN} {y : aX} {l j e p : Nat} (he : ¬ e = 0) (he8 : e < 8) (h24 : y.1 24 = 0) (hK : ∀ z, PP y z → LPo (lnkF j (l + 1) (lfl d e p)) z → K none (mk σ0 m z)) : a_J G m_M_resolve 1 22 2 [(0, .ref m), (1, .int (nI (l + 1)))] [] (mk σ0 m (wrX y (nI e) (nI p))) K := by
  have hw := wrX_0 h24 (nI e) (nI p)
  have hf : (lfl d e p).1 2 0 = e := by show xN (xN d.1 2 0 e) 3 0 p 2 0 = e; rw [xN_ne (by decide), xN_at]
  have hg : (lfl d e p).1 3 0 = p := by show xN (xN d.1 2 0 e) 3 0 p 3 0 = p; rw [xN_at]
  refine r_M_2B (by rw [hw.1]; intro z; exact he ((nI_eq (by omega) (by decide)).mp z)) (hK _ (PP_wr _ _ _) ?_)
  rw [lnkF_bad (by rw [hf]; exact he)]
  exact Or.inr ⟨by rw [hf]; exact he, by rw [hf]; exact hw.1, by rw [hg]; exact hw.2⟩
set_option maxHeartbeats 2000000 in
theorem lp_M_res (hA : AI c0) (hJ : AJ n c0) (hE2 : E2 c0) (hE3 : E3c c0 0) (hU : AU c0) (hNL : c0.1 9 0 < 1250) : ∀ (j l : Nat) (d : aN) (y : aX), l + j = c0.1 9 0 → LK0 c0 d → d.1 2 0 = 0 → ML d y l → (∀ z, PP y z → LPo (lnkF j l d) z → K none (mk σ0 m z)) → a_J G m_M_resolve 1 22 2 [(0, .ref m), (1, .int (nI l))] [] (mk σ0 m y) K
  | 0, l, d, y, hj, hK0, h0, hM, hK => by
    have e9 : d.1 9 = c0.1 9 := hK0.1 9 (by decide) (by decide) (by decide) (by decide)
    refine r_M_2E (N := d.1 9 0) hM.2.2.1.2.1 (by rw [e9]; omega) (by omega) (hK y PP.rf (Or.inl ⟨h0, ?_⟩))
    show ML d y (d.1 9 0)
    rw [e9, show c0.1 9 0 = l by omega]; exact hM
  | j + 1, l, d, y, hj, hK0, h0, hM, hK => by
    have e9 : d.1 9 = c0.1 9 := hK0.1 9 (by decide) (by decide) (by decide) (by decide)
    have e8 : d.1 8 = c0.1 8 := hK0.1 8 (by decide) (by decide) (by decide) (by decide)
    have e4 : d.1 4 = c0.1 4 := hK0.1 4 (by decide) (by decide) (by decide) (by decide)
    have e6 : d.1 6 = c0.1 6 := hK0.1 6 (by decide) (by decide) (by decide) (by decide)
    have e7 : d.1 7 = c0.1 7 := hK0.1 7 (by decide) (by decide) (by decide) (by decide)
    have e36 : d.1 36 = c0.1 36 := hK0.1 36 (by decide) (by decide) (by decide) (by decide)
    have e41 : d.1 41 = c0.1 41 := hK0.1 41 (by decide) (by decide) (by decide) (by decide)
    have e42 : d.1 42 = c0.1 42 := hK0.1 42 (by decide) (by decide) (by decide) (by decide)
    have e43 : d.1 43 = c0.1 43 := hK0.1 43 (by decide) (by decide) (by decide) (by decide)
    have hNT := NT_lt hA
    have hL : l < d.1 9 0 := by rw [e9]; omega
    have hlk := hM.2.2.1.2.2.2 l hL
    obtain ⟨k1, k2, k3, k4⟩ := hlk
    rw [lnkF, if_pos h0] at hK
    refine r_M_2N (N := d.1 9 0) hM.2.2.1.2.1 hL (by rw [e9]; omega) hM.1 ?_
    rw [k1, k2, k3]
    rcases lk_cov hA hJ hE2 hE3 (l := l) (by omega) with ⟨g, call, ⟨t1, t2, t3, -⟩, tg, tc⟩ | ⟨t1, t2⟩
    · have hg900 : g < 900 := by omega
      have hgo := hM.2.2.1.2.2.1 g (by rw [e8]; exact tg)
      rw [e42, t2, e43, t3, e41, t1]
      by_cases z : c0.1 36 g = 1
      · rw [if_pos z]
        have hn1 : ¬ d.1 41 l = 1 := by rw [e41, t1, if_pos z]; decide
        have hln : lnk1 d l = (match afd (d.2.1 0) (d.2.1 2 g) 0 (d.1 4 0) with | none => lfl d 5 (d.1 44 l) | some x => (xN d.1 37 g x, d.2.1, d.2.2)) := by
          unfold lnk1
          rw [if_neg (by rw [e41, t1, if_pos z]; decide), if_pos (by rw [e41, t1, if_pos z]), e42, t2]; rfl
        have hJ3 : ∀ i k, nmG (d.2.1 i k) := by rw [hK0.2.1]; exact hJ.2.2
        have hls := lsF_afd (g := y.2.2.2 11) (K := d.1 4 0) (hJ3 2 g) (hJ3 0) (fun k hk => (hM.2.2.2.1.2 k hk).1) (by rw [hK0.2.1, e4]; exact hU.1)
        rw [← hgo.2.2.1 (by rw [e36]; exact z)] at hls
        refine r_M_49_0 (r_M_97_0 hM.2.2.2.1.1 (by rw [e4]; exact hA.1.1) hg900 (d.1 4 0) 0 (-1) (by omega) ?_)
        rw [hls]
        rw [hln] at hK
        match hm : afd (d.2.1 0) (d.2.1 2 g) 0 (d.1 4 0) with
        | none =>
          rw [hm] at hK
          refine r_M_168F0 (by omega) (by decide) ?_
          rw [k4]
          exact res_bad (e := 5) (by decide) (by decide) hM.1 hK
        | some x =>
          rw [hm] at hK
          have hb := afd_some _ _ _ hm
          have hx6 : x < 6 := by have := hA.1.1; rw [← e4] at this; omega
          refine r_M_168T0 hg900 (Int32.not_lt.mp (nI_pos (by omega))) ?_
          exact lp_M_res hA hJ hE2 hE3 hU hNL j (l + 1) (xN d.1 37 g x, d.2) _ (by omega) (LK0_tw hK0 hx6 (by rw [e36]; exact z)) (by show xN d.1 37 g x 2 0 = 0; rw [xN_ne (by decide)]; exact h0) (ML_tw hM hn1) (fun w hw => hK w ((PP_sA (by decide)).trans hw))
      · rw [if_neg z]
        have hn1 : ¬ d.1 41 l = 1 := by rw [e41, t1, if_neg z]; decide
        have hln : lnk1 d l = (if ¬ call = 16 ∧ call % 4 ≤ d.1 37 g then lfl d 6 (d.1 44 l) else d) := by
          unfold lnk1
          rw [if_pos (by rw [e41, t1, if_neg z]), e43, t3, e42, t2]
        rw [hln] at hK
        have htw := (hK0.2.2 g).2 (by rw [e36]; exact z)
        have go : (¬ (¬ call = 16 ∧ call % 4 ≤ d.1 37 g)) → a_J G m_M_resolve 1 22 2 [(0, .ref m), (1, .int (nI (l + 1)))] [] (mk σ0 m y) K := fun q => by
          rw [if_neg q] at hK
          exact lp_M_res hA hJ hE2 hE3 hU hNL j (l + 1) d y (by omega) hK0 h0 (ML_s hM hn1) hK
        show a_J G m_M_resolve 1 22 49 [(0, .ref m), (1, .int (nI l)), (2, .int 2), (3, .int (nI g)), (4, .int (ccF call))] [] (mk σ0 m y) K
        by_cases q : call = 16
        · refine r_M_49a (by omega) hg900 ?_ (go (fun w => w.1 q))
          unfold ccF; rw [if_pos q]; decide
        · have ec : ccF call = nI call := by unfold ccF; rw [if_neg q]
          have hr : ccF call - ccF call / 4 * 4 = nI (call % 4) := by
            rw [ec]; exact pk_rem (d := 4) (by omega) (by decide) (by decide)
          have hu : ¬ ccF call < 0 := by rw [ec]; exact nI_pos (by omega)
          by_cases w : call % 4 ≤ d.1 37 g
          · rw [if_pos ⟨q, w⟩] at hK
            refine r_M_49c (by omega) hg900 hu (by rw [hr, hgo.2.1, nI_ltI (by omega) (by omega)]; omega) ?_
            rw [k4]
            exact res_bad (e := 6) (by decide) (by decide) hM.1 hK
          · exact r_M_49b (by omega) hg900 hu (by rw [hr, hgo.2.1, nI_ltI (by omega) (by omega)]; omega) (go (fun v => w v.2))
    · have hW192 : c0.1 7 0 ≤ 192 := hNT.2.2
      rw [e41, t1]
      have hln : lnk1 d l = (match afd (d.2.1 1) (d.2.1 3 (d.1 42 l)) 0 (d.1 6 0) with | none => lfl d 5 (d.1 44 l) | some x => (xN d.1 34 (d.1 42 l) x, d.2.1, d.2.2)) := by
        unfold lnk1
        rw [if_neg (by rw [e41, t1]; decide), if_neg (by rw [e41, t1]; decide)]; rfl
      have hr192 : d.1 42 l < 192 := by rw [e42]; omega
      have hJ3 : ∀ i k, nmG (d.2.1 i k) := by rw [hK0.2.1]; exact hJ.2.2
      have hls := lsF_afd (g := y.2.2.2 18) (K := d.1 6 0) (hJ3 3 (d.1 42 l)) (hJ3 1) (fun k hk => (hM.2.2.2.2.1.2 k hk).1) (by rw [hK0.2.1, e6]; exact hU.2)
      rw [← (hM.2.2.2.2.2.2.1.2 (d.1 42 l) (by rw [e42, e7]; exact t2)).2.2.2.2] at hls
      refine r_M_49_1 (r_M_97_1 hM.2.2.2.2.1.1 (by rw [e6]; exact hA.1.2.1) hr192 (d.1 6 0) 0 (-1) (by omega) ?_)
      rw [hls]
      rw [hln] at hK
      match hm : afd (d.2.1 1) (d.2.1 3 (d.1 42 l)) 0 (d.1 6 0) with
      | none =>
        rw [hm] at hK
        refine r_M_168F1 (by omega) (by decide) ?_
        rw [k4]
        exact res_bad (e := 5) (by decide) (by decide) hM.1 hK
      | some x =>
        rw [hm] at hK
        have hb := afd_some _ _ _ hm
        have hx6 : x < 24 := by have := hA.1.2.1; rw [← e6] at this; omega
        refine r_M_168T1 hr192 (Int32.not_lt.mp (nI_pos (by omega))) ?_
        exact lp_M_res hA hJ hE2 hE3 hU hNL j (l + 1) (xN d.1 34 (d.1 42 l) x, d.2) _ (by omega) (LK0_wt hK0 _ _) (by show xN d.1 34 (d.1 42 l) x 2 0 = 0; rw [xN_ne (by decide)]; exact h0) (ML_wt hM rfl) (fun w hw => hK w ((PP_sA (by decide)).trans hw))
/-- resolve -/
theorem sp_M_resolve {y : aX} (hA : AI c0) (hJ : AJ n c0) (hE2 : E2 c0) (hE3 : E3c c0 0) (hU : AU c0) (hNL : c0.1 9 0 < 1250) (h0 : c0.1 2 0 = 0) (hM : ML c0 y 0) (hK : ∀ z, PP y z → LPo (lnkF (c0.1 9 0) 0 c0) z → K none (mk σ0 m z)) : a_C G m_M_resolve 1 22 [.ref m] (mk σ0 m y) K :=
  r_M_0 (lp_M_res hA hJ hE2 hE3 hU hNL _ 0 c0 y (by omega) (LK0_rf hJ) h0 hM hK)
theorem sp_M_resolveB {y : aX} (h0 : ¬ y.1 24 = 0) (hK : K none (mk σ0 m y)) : a_C G m_M_resolve 1 22 [.ref m] (mk σ0 m y) K := r_M_0 (r_M_2B h0 hK)
end Res
