/-! THE MODEL's questions, answered as the class's -/
section ModM25
variable {G : aG} {σ0 : aS} {K : Option Value → aS → Prop} {m : Nat} {x : aX} {c : aN} {q : aP}
theorem CQ.nR (h : CQ c q x) : x.1 34 = nI (c.1 5 0) ∧ c.1 5 0 ≤ 24 := ⟨h.2.1.2.2.2.2.2.1.1, h.2.2.1.2.2.2.2.2.1.2.1⟩
theorem CQ.nW (h : CQ c q x) : x.1 43 = nI (c.1 7 0) ∧ c.1 7 0 ≤ 192 := ⟨h.2.1.2.2.2.2.2.2.1.1, h.2.2.1.2.2.2.2.2.1.2.2⟩
theorem CQ.nC (h : CQ c q x) : x.1 28 = nI (c.1 4 0) ∧ c.1 4 0 ≤ 6 := ⟨h.2.1.2.2.2.1.1, h.2.2.1.1.1⟩
theorem CQ.nN (h : CQ c q x) : x.1 36 = nI (c.1 6 0) ∧ c.1 6 0 ≤ 24 := ⟨h.2.1.2.2.2.2.1.1, h.2.2.1.1.2.1⟩
/-- how many rules a counter has, ways a node -/
theorem CQ.hm0 (h : CQ c q x) {k : Nat} (hk : k < c.1 4 0) (hK : K (some (.int (nI (c.1 21 k)))) (mk σ0 m x)) : a_C G m_M_howMany 1 25 [.ref m, .int 0, .int (nI k)] (mk σ0 m x) K := by
  have h6 := h.nC.2
  have hn := h.nR.2
  have hg := h.2.2.1.1.2.2.1 k hk
  obtain ⟨ho, hX⟩ := h.oR
  obtain ⟨e1, e2, -, -⟩ := h.2.2.1.2.2.2.1
  have hs := tie_S hk e2
  refine sp_M_howMany0 rfl h.nR.1 h.nR.2 (fun j hj => ?_) ?_ hK
  · rw [tie_y ho e1 hX (by omega) e2 (by omega) hk hj]; exact nI_pos (by omega)
  · rw [tie_o ho e1 hX (by omega) hk (.inr (nI_le (Nat.le_refl _) (by omega))) (by omega)]; decide
theorem CQ.hm1 (h : CQ c q x) {w : Int32} (hw : ¬ w = 0) {k : Nat} (hk : k < c.1 6 0) (hK : K (some (.int (nI (c.1 22 k)))) (mk σ0 m x)) : a_C G m_M_howMany 1 25 [.ref m, .int w, .int (nI k)] (mk σ0 m x) K := by
  have h6 := h.nN.2
  have hn := h.nW.2
  have hg := h.2.2.1.1.2.2.2 k hk
  obtain ⟨ho, hX⟩ := h.oW
  obtain ⟨-, -, e1, e2⟩ := h.2.2.1.2.2.2.1
  have hs := tie_S hk e2
  refine sp_M_howMany1 hw h.nW.1 h.nW.2 (fun j hj => ?_) ?_ hK
  · rw [tie_y ho e1 hX (by omega) e2 (by omega) hk hj]; exact nI_pos (by omega)
  · rw [tie_o ho e1 hX (by omega) hk (.inr (nI_le (Nat.le_refl _) (by omega))) (by omega)]; decide
theorem sp_M_counter {a b : Int32} (h : CQ c q x) (hK : K (some (.int (cpart q a b))) (mk σ0 m (sI x 0 0))) : a_C G m_M_counter 2 48 [.ref m, .int a, .int b] (mk σ0 m x) K := by
  have h6 := h.nC.2
  rcases pk_ix a (n := c.1 4 0) (by omega) with ha | ha | ⟨k, hk, rfl⟩
  · rw [cpart, h.hro (.inl ha), if_pos rfl] at hK
    exact ct_L ha hK
  · rw [cpart, h.hro (.inr ha), if_pos rfl] at hK
    by_cases h0 : a < 0
    · exact ct_L h0 hK
    · exact ct_H h0 (by rw [h.nC.1]; exact ha) hK
  · have hc := h.1.2.2.1 k hk
    have hm := h.2.1.2.2.2.1.2 k hk
    rw [cpart, h.hr hk, if_neg (nI_m1 (by omega)), nI_clamp (by omega), hc.2.1, hc.2.2, hc.1, lf_e32 (h.2.2.1.2.2.2.2.2.2.2.1 0 k)] at hK
    refine ct_I (H := nI (c.1 21 k)) (nI_pos (by omega)) (by rw [h.nC.1]; exact nI_lt hk (by omega)) (by rw [h.nC.1]; exact nI_le (b := 6) h6 (by decide)) (fun K2 hK2 => (CQ_0 h 0).hm0 hk hK2) ?_
    rw [nI_clamp (by omega), hm.2.2, hm.2.1, (h.2.2.2 k hk).1]
    exact hK
theorem sp_M_node {a b : Int32} (h : CQ c q x) (hK : K (some (.int (npart q a b))) (mk σ0 m (sI x 0 0))) : a_C G m_M_node 2 48 [.ref m, .int a, .int b] (mk σ0 m x) K := by
  have h6 := h.nN.2
  rcases pk_ix a (n := c.1 6 0) (by omega) with ha | ha | ⟨k, hk, rfl⟩
  · rw [npart, h.hwo (by decide) (.inl ha), if_pos rfl] at hK
    exact nd_L ha hK
  · rw [npart, h.hwo (by decide) (.inr ha), if_pos rfl] at hK
    by_cases h0 : a < 0
    · exact nd_L h0 hK
    · exact nd_H h0 (by rw [h.nN.1]; exact ha) hK
  · have hc := h.1.2.2.2.1 k hk
    have hm := h.2.1.2.2.2.2.1.2 k hk
    rw [npart, h.hw (by decide) hk, if_neg (nI_m1 (by omega)), nI_clamp (by omega), hc.2, hc.1, lf_e32 (h.2.2.1.2.2.2.2.2.2.2.1 1 k)] at hK
    refine nd_I (H := nI (c.1 22 k)) (nI_pos (by omega)) (by rw [h.nN.1]; exact nI_lt hk (by omega)) (by rw [h.nN.1]; exact nI_le (b := 24) h6 (by decide)) (fun K2 hK2 => (CQ_0 h 0).hm1 (by decide) hk hK2) ?_
    rw [nI_clamp (by omega), hm.2]
    exact hK
theorem sp_M_clause {w a b e : Int32} (h : CQ c q x) (hK : K (some (.int (clpart q w a b e))) (mk σ0 m (sI x 0 0))) : a_C G m_M_clause 1 25 [.ref m, .int w, .int a, .int b, .int e] (mk σ0 m x) K := by
  have hb := h.2.2.1.2.2.2.2.2.2.1
  by_cases hw : w = 0
  · subst hw
    have hn := h.nR.2
    rcases tieR h a b with ⟨h1, h2⟩ | ⟨r, hr, -, -, h1, h2⟩
    · rw [clpart, if_pos h1] at hK
      exact cl_N0 rfl h.nR.1 h.nR.2 h2 hK
    · have hx := rwR_lt h.2.2.1 hr
      have hq := h.1.2.2.2.2.1 r hr
      have hm := (CQ_0 h 0).2.1.2.2.2.2.2.1.2 r hr
      rw [clpart, h1, if_neg (nI_m1 (by omega)), nI_clamp (by omega), hq.1.1, hq.1.2.1, hq.2] at hK
      refine cl_Y0 rfl h.nR.1 h.nR.2 h2 hr ?_
      rw [cl_val, hm.2.1, b1_val _ (hb r).2.2.2.1, hm.2.2.1, cc_val _ (hb r).2.1, hm.2.2.2.2]
      exact hK
  · have hn := h.nW.2
    rcases tieW h hw a b with ⟨h1, h2⟩ | ⟨r, hr, -, -, h1, h2⟩
    · rw [clpart, if_pos h1] at hK
      exact cl_N1 hw h.nW.1 h.nW.2 h2 hK
    · have hx := rwW_lt h.2.2.1 hr
      have hq := h.1.2.2.2.2.2 r hr
      have hm := (CQ_0 h 0).2.1.2.2.2.2.2.2.1.2 r hr
      rw [clpart, h1, if_neg (nI_m1 (by omega)), nI_clamp (by omega), hq.1.1, hq.1.2.1, hq.2] at hK
      refine cl_Y1 hw h.nW.1 h.nW.2 h2 hr ?_
      rw [cl_val, hm.2.1, cc_val _ (hb r).2.2.1, hm.2.2.2.1, wt_of h.2.2.1 (CQ_0 h 0).2.1 hr]
      exact hK
/-- a test: there in both, or in none -/
theorem tst {w a b e : Int32} (h : CQ c q x) : (trow q w a b e = -1 ∧ ∀ K2 : Option Value → aS → Prop, K2 (some (.int (-1))) (mk σ0 m x) → a_C G m_M_testAt 1 25 [.ref m, .int w, .int a, .int b, .int e] (mk σ0 m x) K2) ∨ ∃ t g, t < 864 ∧ g < c.1 8 0 ∧ trow q w a b e = nI t ∧ q.2.2 11 t = shF c g ∧ q.2.2 12 t = c.2.2 g ∧ ∀ K2 : Option Value → aS → Prop, K2 (some (.int (nI g))) (mk σ0 m x) → a_C G m_M_testAt 1 25 [.ref m, .int w, .int a, .int b, .int e] (mk σ0 m x) K2 := by
  have h8 := h.2.2.1.2.2.2.2.2.1.1
  by_cases hw : w = 0
  · subst hw
    have hn := h.nR.2
    rcases tieR h a b with ⟨h1, h2⟩ | ⟨r, hr, -, -, h1, h2⟩
    · exact Or.inl ⟨by rw [trow, if_pos h1], fun K2 hK2 => ta_N0 rfl h.nR.1 h.nR.2 h2 hK2⟩
    · have hx := rwR_lt h.2.2.1 hr
      have hq := h.1.2.2.2.2.1 r hr
      have hm := h.2.1.2.2.2.2.2.1.2 r hr
      have h4 := h.2.2.1.2.1 r hr
      have ht : trow q 0 a b e = if e < 0 then -1 else if e < nI (c.1 28 r) then nI (rwR c r) * 4 + e else -1 := by rw [trow, h1, if_neg (nI_m1 (by omega)), nI_clamp (by omega), hq.1.2.1]
      have hY : ∀ K2 : Option Value → aS → Prop, K2 (some (.int (if e < 0 then -1 else if e < nI (c.1 28 r) then nI (c.1 27 r) + e else -1))) (mk σ0 m x) → a_C G m_M_testAt 1 25 [.ref m, .int 0, .int a, .int b, .int e] (mk σ0 m x) K2 := fun K2 hK2 => ta_Y0 rfl h.nR.1 h.nR.2 h2 hr (by rw [hm.2.2.2.1, hm.2.2.2.2]; exact hK2)
      rcases pk_ix e (n := c.1 28 r) (by omega) with he | he | ⟨i, hi, rfl⟩
      · exact Or.inl ⟨by rw [ht, if_pos he], fun K2 hK2 => hY K2 (by rw [if_pos he]; exact hK2)⟩
      · have e0 : (∀ z : Int32, (if e < 0 then -1 else if e < nI (c.1 28 r) then z else -1) = -1) := fun z => by rw [if_neg (Int32.not_lt.mpr he)]; split <;> rfl
        exact Or.inl ⟨by rw [ht, e0], fun K2 hK2 => hY K2 (by rw [e0]; exact hK2)⟩
      · have e0 : (∀ z : Int32, (if nI i < 0 then -1 else if nI i < nI (c.1 28 r) then z else -1) = z) := fun z => by rw [if_neg (nI_pos (by omega)), if_pos (nI_lt hi (by omega))]
        have hqi := hq.1.2.2 i hi
        exact Or.inr ⟨rwR c r * 4 + i, c.1 27 r + i, by omega, by omega, by rw [ht, e0, show (4 : Int32) = nI 4 from rfl, pk_mul, nI_add], hqi.1, hqi.2, fun K2 hK2 => hY K2 (by rw [e0, nI_add]; exact hK2)⟩
  · have hn := h.nW.2
    rcases tieW h hw a b with ⟨h1, h2⟩ | ⟨r, hr, -, -, h1, h2⟩
    · exact Or.inl ⟨by rw [trow, if_pos h1], fun K2 hK2 => ta_N1 hw h.nW.1 h.nW.2 h2 hK2⟩
    · have hx := rwW_lt h.2.2.1 hr
      have hq := h.1.2.2.2.2.2 r hr
      have hm := h.2.1.2.2.2.2.2.2.1.2 r hr
      have h4 := h.2.2.1.2.2.1 r hr
      have ht : trow q w a b e = if e < 0 then -1 else if e < nI (c.1 33 r) then nI (rwW c r) * 4 + e else -1 := by rw [trow, h1, if_neg (nI_m1 (by omega)), nI_clamp (by omega), hq.1.2.1]
      have hY : ∀ K2 : Option Value → aS → Prop, K2 (some (.int (if e < 0 then -1 else if e < nI (c.1 33 r) then nI (c.1 32 r) + e else -1))) (mk σ0 m x) → a_C G m_M_testAt 1 25 [.ref m, .int w, .int a, .int b, .int e] (mk σ0 m x) K2 := fun K2 hK2 => ta_Y1 hw h.nW.1 h.nW.2 h2 hr (by rw [hm.2.2.1, hm.2.2.2.1]; exact hK2)
      rcases pk_ix e (n := c.1 33 r) (by omega) with he | he | ⟨i, hi, rfl⟩
      · exact Or.inl ⟨by rw [ht, if_pos he], fun K2 hK2 => hY K2 (by rw [if_pos he]; exact hK2)⟩
      · have e0 : (∀ z : Int32, (if e < 0 then -1 else if e < nI (c.1 33 r) then z else -1) = -1) := fun z => by rw [if_neg (Int32.not_lt.mpr he)]; split <;> rfl
        exact Or.inl ⟨by rw [ht, e0], fun K2 hK2 => hY K2 (by rw [e0]; exact hK2)⟩
      · have e0 : (∀ z : Int32, (if nI i < 0 then -1 else if nI i < nI (c.1 33 r) then z else -1) = z) := fun z => by rw [if_neg (nI_pos (by omega)), if_pos (nI_lt hi (by omega))]
        have hqi := hq.1.2.2 i hi
        exact Or.inr ⟨rwW c r * 4 + i, c.1 32 r + i, by omega, by omega, by rw [ht, e0, show (4 : Int32) = nI 4 from rfl, pk_mul, nI_add], hqi.1, hqi.2, fun K2 hK2 => hY K2 (by rw [e0, nI_add]; exact hK2)⟩
theorem sp_M_test {w a b e u : Int32} (h : CQ c q x) (hK : K (some (.int (tpart q (trow q w a b e) u))) (mk σ0 m (sI x 0 0))) : a_C G m_M_test 2 50 [.ref m, .int w, .int a, .int b, .int e, .int u] (mk σ0 m x) K := by
  have h8 := h.2.2.1.2.2.2.2.2.1.1
  have hb := h.2.2.1.2.2.2.2.2.2.1
  rcases tst (G := G) (σ0 := σ0) (m := m) (w := w) (a := a) (b := b) (e := e) (CQ_0 h 0) with ⟨h1, h2⟩ | ⟨t, g, ht, hg, h1, h2, h3, h4⟩
  · rw [tpart, h1, if_pos (by decide)] at hK
    exact te_N h2 hK
  · rw [tpart, h1, if_neg (nI_pos (by omega)), if_pos (show nI t < 864 from nI_lt (b := 864) (by omega) (by omega)), nI_clamp (by omega), h2, tp_val h.2.2.1 g hg] at hK
    refine te_Y (by omega) h4 ?_
    have hm := (CQ_0 h 0).2.1.2.2.1.2.2.1 g hg
    rw [hm.1, hm.2.1, hm.2.2.2.1, hm.2.2.2.2.2, b1_val _ (hb g).2.2.2.2.1, b1_val _ (hb g).2.2.2.2.2.2]
    exact hK
theorem sp_M_than {w a b e : Int32} (h : CQ c q x) (hK : K (some (.int (bnd q (trow q w a b e)))) (mk σ0 m (sI x 0 0))) : a_C G m_M_than 2 50 [.ref m, .int w, .int a, .int b, .int e] (mk σ0 m x) K := by
  have h8 := h.2.2.1.2.2.2.2.2.1.1
  rcases tst (G := G) (σ0 := σ0) (m := m) (w := w) (a := a) (b := b) (e := e) (CQ_0 h 0) with ⟨h1, h2⟩ | ⟨t, g, ht, hg, h1, h2, h3, h4⟩
  · rw [bnd, h1, if_pos (by decide)] at hK
    exact th_N h2 hK
  · rw [bnd, h1, if_neg (nI_pos (by omega)), if_pos (show nI t < 864 from nI_lt (b := 864) (by omega) (by omega)), nI_clamp (by omega), h3] at hK
    refine th_Y (by omega) h4 ?_
    rw [(h.2.1.2.2.1.2.2.1 g hg).2.2.2.2.1]
    exact hK
end ModM25
