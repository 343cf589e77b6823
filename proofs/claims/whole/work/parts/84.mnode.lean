/-! THE MODEL's ways: the loop; readNode -/
section ModM20
variable {G : aG} {σ0 : aS} {K : Option Value → aS → Prop} {m n : Nat} {f : Nat → Nat} {x : aX} {c : aN}
set_option maxHeartbeats 2000000 in
theorem n_M_134 {v : Int32} (hx : LKA n f (c.1 1 0) x) (h0 : (c.1 2 0) = 0) (hs : (c.1 0 0) = 8) (hwy : ¬ (c.1 10 0) = 0) (hA : AI c) (hJ : AJ n c) (hL : AL c) (hM : MGd c x) (hMC : MC c x (c.1 4 0)) (hMN : MNd c x) (hMR : MRl c x (c.1 5 0)) (hMW : MWy c x (c.1 7 0)) (hK : ∀ z v2, PP x z → (v2 = v + 1 ∧ WQ_ n f c z ∨ (BAD n f c z ∧ MX z n f)) → a_J G m_M_readNode 9 194 94 [(0, .ref m), (1, .int v2)] [] (mk σ0 m z) K) : a_J G m_M_readNode 9 194 134 [(0, .ref m), (1, .int v)] [] (mk σ0 m x) K := by
  have hle := lx_le n f hx.2.1
  have h8 := stT_8 (tok n f (c.1 1 0)) hs
  by_cases w1 : (tok n f (c.1 1 0)).1 = 3 ∧ (tok n f (c.1 1 0)).2.2.2.1 = jS 17
  · have hd : stT (tok n f (c.1 1 0)) c = gt (tok n f (c.1 1 0)) (adc c 16) 9 := by rw [h8]; unfold a8; rw [if_pos w1]
    have hFA : (gt (tok n f (c.1 1 0)) (adc c 16) 9).1 2 0 = 0 := by show (adc c 16).1 2 0 = 0; rw [adc_FA2]; exact h0
    refine n_M_134A hx.1 hx.2.2.2.2.1 hle.2.2.2 hx.2.2.1 (fun z => (W_iff hx (j := 45) (by decide) (by decide)).mp z w1) (fun y hy => ?_)
    obtain ⟨hr, hl⟩ := step_LKA hx h0 (by omega) hd hFA (by show 1 ≤ 9; decide) (by show 9 ≤ 17; decide) rfl hy
    rcases hl with hl | ⟨hl1, hl2⟩
    · exact n_M_138G (c := c) (k := 16) (t := (tok n f (c.1 1 0))) (w := -1) hwy hl hFA (AI_Rc hA hr) (AJ_Rc hx.hf.1 hx.hf.2 hJ hr) (AL_Rc hA hL hr) (MGd_PT hM hy.pt) (hMC.pg hy.pt.pg) (hMN.pg hy.pt.pg) (hMR.pg hy.pt.pg) (hMW.pg hy.pt.pg) (rfl) hr (fun z v2 hz hq => hK z v2 (hy.pt.pg.pp.trans hz) hq)
    · exact n_M_138B hl1.ne (hK y v hy.pt.pg.pp (Or.inr ⟨hl1, hl2⟩))
  · have n1 := (W_iff hx (j := 45) (by decide) (by decide)).mpr w1
    have hnum : (x.1 20 = 3 ∧ 0 ≤ x.2.1 23 ∧ x.2.1 23 < 16) ↔ ((tok n f (c.1 1 0)).1 = 4 ∧ 0 ≤ (tok n f (c.1 1 0)).2.2.2.2 ∧ (tok n f (c.1 1 0)).2.2.2.2 ≤ 15) := by
      rw [tk_3 hx]
      have e16 : (16 : Int32).toInt = 16 := by decide
      have e15 : (15 : Int32).toInt = 15 := by decide
      constructor
      · intro g
        have e := hx.2.2.2.2.2.2.2.2.1 g.1
        rw [e] at g
        have g2 : tkV n f (c.1 1 0) < 16 := (i64_lt _ 16).mp g.2.2
        refine ⟨g.1, (i64_le 0 _).mp g.2.1, ?_⟩
        show tkV n f (c.1 1 0) ≤ 15
        rw [Int32.lt_iff_toInt_lt] at g2
        rw [Int32.le_iff_toInt_le]
        omega
      · intro g
        have e := hx.2.2.2.2.2.2.2.2.1 g.1
        rw [e]
        have g2 : tkV n f (c.1 1 0) ≤ 15 := g.2.2
        refine ⟨g.1, (i64_le 0 _).mpr g.2.1, (i64_lt _ 16).mpr ?_⟩
        rw [Int32.le_iff_toInt_le] at g2
        rw [Int32.lt_iff_toInt_lt]
        omega
    by_cases w2 : (tok n f (c.1 1 0)).1 = 4 ∧ 0 ≤ (tok n f (c.1 1 0)).2.2.2.2 ∧ (tok n f (c.1 1 0)).2.2.2.2 ≤ 15
    · have hd : stT (tok n f (c.1 1 0)) c = gt (tok n f (c.1 1 0)) (adc c ((tok n f (c.1 1 0)).2.2.2.2.toNatClampNeg)) 9 := by rw [h8]; unfold a8; rw [if_neg w1, if_pos w2]
      have hFA : (gt (tok n f (c.1 1 0)) (adc c ((tok n f (c.1 1 0)).2.2.2.2.toNatClampNeg)) 9).1 2 0 = 0 := by show (adc c ((tok n f (c.1 1 0)).2.2.2.2.toNatClampNeg)).1 2 0 = 0; rw [adc_FA2]; exact h0
      obtain ⟨j, hj, ej⟩ := nI_of2 (x := (tok n f (c.1 1 0)).2.2.2.2) (M := 15) (n := 15) rfl (fun g => absurd (Int32.lt_of_le_of_lt w2.2.1 g) (by decide)) w2.2.2
      have ev : (x.2.1 23).toInt32 = nI j := by rw [hx.2.2.2.2.2.2.2.2.1 w2.1, i32_64]; exact ej
      have ec : (tok n f (c.1 1 0)).2.2.2.2.toNatClampNeg = j := by rw [ej, nI_clamp (by omega)]
      refine n_M_134N hx.1 hx.2.2.2.2.1 hle.2.2.2 hx.2.2.1 n1 (hnum.mpr w2) (fun y hy => ?_)
      rw [ev]
      obtain ⟨hr, hl⟩ := step_LKA hx h0 (by omega) hd hFA (by show 1 ≤ 9; decide) (by show 9 ≤ 17; decide) rfl hy
      rcases hl with hl | ⟨hl1, hl2⟩
      · exact n_M_138G (c := c) (k := ((tok n f (c.1 1 0)).2.2.2.2.toNatClampNeg)) (t := (tok n f (c.1 1 0))) (w := nI j) hwy hl hFA (AI_Rc hA hr) (AJ_Rc hx.hf.1 hx.hf.2 hJ hr) (AL_Rc hA hL hr) (MGd_PT hM hy.pt) (hMC.pg hy.pt.pg) (hMN.pg hy.pt.pg) (hMR.pg hy.pt.pg) (hMW.pg hy.pt.pg) (by rw [ec]; unfold ccF; rw [if_neg (by omega)]) hr (fun z v2 hz hq => hK z v2 (hy.pt.pg.pp.trans hz) hq)
      · exact n_M_138B hl1.ne (hK y v hy.pt.pg.pp (Or.inr ⟨hl1, hl2⟩))
    · have hd : stT (tok n f (c.1 1 0)) c = wr (tok n f (c.1 1 0)) c := by rw [h8]; unfold a8; rw [if_neg w1, if_neg w2]
      have hb := BAD_must hx h0 (by omega) hd
      exact n_M_134F n1 (fun z => w2 (hnum.mp z)) (n_M_138B hb.ne (hK _ v (PT.mu x).pg.pp (Or.inr ⟨hb, (PT.mu x).mx hx.1⟩)))
set_option maxHeartbeats 1000000 in
set_option maxRecDepth 100000 in
theorem n_M_128T {v : Int32} (hT : MX x n f) {a : Nat} (hA : x.1 19 = nI a) (ha : a ≤ n) (h0 : x.1 24 = 0) (ht : ¬ mW x 41 = 0) (hK : ∀ y, NX n f a x y → a_J G m_M_readNode 9 194 134 [(0, .ref m), (1, .int v)] [] (mk σ0 m y) K) : a_J G m_M_readNode 9 194 128 [(0, .ref m), (1, .int v)] [] (mk σ0 m x) K := by
  refine a_aload_n d_M_readNode_128 rfl rfl ?_
  refine a_ldcS 41 d_M_readNode_129 (by decide) rfl rfl ?_
  apply a_callV (ci := 7) 6 129 [_] _ d_M_readNode_131 l_M_282 ⟨im_M_expectWord, se_M_expectWord⟩ rfl rfl rfl rfl (Nat.le_of_ble_eq_true rfl) ⟨Nat.le_of_ble_eq_true rfl, Nat.le_of_ble_eq_true rfl⟩
  · (exact mk_O)
  refine sp_M_expectWordT (by decide) (jG _ (by decide) (by decide)) hT hA ha h0 ht (fun y hy => ?_)
  exact a_lvk (hK y hy) ⟨rfl, rfl, trivial⟩

set_option maxHeartbeats 1000000 in
set_option maxRecDepth 100000 in
theorem n_M_128F {v : Int32} (ht : mW x 41 = 0) (hK : a_J G m_M_readNode 9 194 134 [(0, .ref m), (1, .int v)] [] (mk σ0 m (muX x 0)) K) : a_J G m_M_readNode 9 194 128 [(0, .ref m), (1, .int v)] [] (mk σ0 m x) K := by
  refine a_aload_n d_M_readNode_128 rfl rfl ?_
  refine a_ldcS 41 d_M_readNode_129 (by decide) rfl rfl ?_
  apply a_callV (ci := 7) 6 129 [_] _ d_M_readNode_131 l_M_282 ⟨im_M_expectWord, se_M_expectWord⟩ rfl rfl rfl rfl (Nat.le_of_ble_eq_true rfl) ⟨Nat.le_of_ble_eq_true rfl, Nat.le_of_ble_eq_true rfl⟩
  · (exact mk_O)
  refine sp_M_expectWordF (by decide) (jG _ (by decide) (by decide)) ht ?_
  exact a_lvk (hK) ⟨rfl, rfl, trivial⟩

set_option maxHeartbeats 1000000 in
set_option maxRecDepth 100000 in
theorem n_M_128B {v : Int32} (h0 : ¬ x.1 24 = 0) (hK : a_J G m_M_readNode 9 194 134 [(0, .ref m), (1, .int v)] [] (mk σ0 m x) K) : a_J G m_M_readNode 9 194 128 [(0, .ref m), (1, .int v)] [] (mk σ0 m x) K := by
  refine a_aload_n d_M_readNode_128 rfl rfl ?_
  refine a_ldcS 41 d_M_readNode_129 (by decide) rfl rfl ?_
  apply a_callV (ci := 7) 6 129 [_] _ d_M_readNode_131 l_M_282 ⟨im_M_expectWord, se_M_expectWord⟩ rfl rfl rfl rfl (Nat.le_of_ble_eq_true rfl) ⟨Nat.le_of_ble_eq_true rfl, Nat.le_of_ble_eq_true rfl⟩
  · (exact mk_O)
  refine sp_M_expectWordB (by decide) (jG _ (by decide) (by decide)) h0 ?_
  exact a_lvk (hK) ⟨rfl, rfl, trivial⟩

set_option maxHeartbeats 1000000 in
set_option maxRecDepth 100000 in
theorem n_M_94XT {v : Int32} (hT : MX x n f) {a : Nat} (hA : x.1 19 = nI a) (ha : a ≤ n) (h0 : x.1 24 = 0) (ht : x.1 20 = 1) (hK : ∀ y, NX n f a x y → K none (mk σ0 m y)) : a_J G m_M_readNode 9 194 94 [(0, .ref m), (1, .int v)] [] (mk σ0 m x) K := by
  refine a_aload_n d_M_readNode_94 rfl rfl ?_
  refine m_get d_M_readNode_95 f_M_126 rfl ?_
  refine a_if_ne (tgt := 274) d_M_readNode_98 (by decide) (fun n9 => absurd (h0) n9) (fun c_1 => ?_)
  refine a_aload_n d_M_readNode_101 rfl rfl ?_
  refine m_get d_M_readNode_102 f_M_149 rfl ?_
  refine a_if_ne (tgt := 274) d_M_readNode_105 (by decide) (fun c_2 => ?_) (fun n9 => absurd n9 (fun z => absurd (z.symm.trans ht) (by decide)))
  refine a_aload_n d_M_readNode_274 rfl rfl ?_
  refine a_iconst (v := 1) d_M_readNode_275 (by decide) ?_
  apply a_callV (ci := 7) 3 70 [_] _ d_M_readNode_276 l_M_279 ⟨im_M_expect, se_M_expect⟩ rfl rfl rfl rfl (Nat.le_of_ble_eq_true rfl) ⟨Nat.le_of_ble_eq_true rfl, Nat.le_of_ble_eq_true rfl⟩
  · (exact mk_O)
  refine sp_M_expectT hT hA ha h0 ht (fun y hy => ?_)
  exact a_return d_M_readNode_279 rfl (hK y hy)

set_option maxHeartbeats 1000000 in
set_option maxRecDepth 100000 in
theorem n_M_94XF {v : Int32} (h0 : x.1 24 = 0) (ht0 : ¬ x.1 20 = 0) (ht : ¬ x.1 20 = 1) (hK : K none (mk σ0 m (muX x 0))) : a_J G m_M_readNode 9 194 94 [(0, .ref m), (1, .int v)] [] (mk σ0 m x) K := by
  refine a_aload_n d_M_readNode_94 rfl rfl ?_
  refine m_get d_M_readNode_95 f_M_126 rfl ?_
  refine a_if_ne (tgt := 274) d_M_readNode_98 (by decide) (fun n9 => absurd (h0) n9) (fun c_1 => ?_)
  refine a_aload_n d_M_readNode_101 rfl rfl ?_
  refine m_get d_M_readNode_102 f_M_149 rfl ?_
  refine a_if_ne (tgt := 274) d_M_readNode_105 (by decide) (fun c_2 => ?_) (fun n9 => absurd n9 (ht0))
  refine a_aload_n d_M_readNode_274 rfl rfl ?_
  refine a_iconst (v := 1) d_M_readNode_275 (by decide) ?_
  apply a_callV (ci := 7) 3 70 [_] _ d_M_readNode_276 l_M_279 ⟨im_M_expect, se_M_expect⟩ rfl rfl rfl rfl (Nat.le_of_ble_eq_true rfl) ⟨Nat.le_of_ble_eq_true rfl, Nat.le_of_ble_eq_true rfl⟩
  · (exact mk_O)
  refine sp_M_expectF ht ?_
  exact a_return d_M_readNode_279 rfl (hK)

set_option maxHeartbeats 1000000 in
set_option maxRecDepth 100000 in
theorem n_M_94W (h0 : x.1 24 = 0) (ht : x.1 20 = 0) (hK : K none (mk σ0 m (wrX x 2 (x.1 21)))) : a_J G m_M_readNode 9 194 94 [(0, .ref m), (1, .int 8)] [] (mk σ0 m x) K := by
  refine a_aload_n d_M_readNode_94 rfl rfl ?_
  refine m_get d_M_readNode_95 f_M_126 rfl ?_
  refine a_if_ne (tgt := 274) d_M_readNode_98 (by decide) (fun n9 => absurd (h0) n9) (fun c_1 => ?_)
  refine a_aload_n d_M_readNode_101 rfl rfl ?_
  refine m_get d_M_readNode_102 f_M_149 rfl ?_
  refine a_if_ne (tgt := 274) d_M_readNode_105 (by decide) (fun n9 => absurd (ht) n9) (fun c_2 => ?_)
  refine a_iload_n d_M_readNode_108 rfl rfl ?_
  refine a_bipush (v := 8) d_M_readNode_109 (by decide) ?_
  refine a_icmp_ne (tgt := 124) d_M_readNode_111 (by decide) (fun n9 => absurd (rfl) n9) (fun c_3 => ?_)
  refine a_aload_n d_M_readNode_114 rfl rfl ?_
  refine a_iconst (v := 2) d_M_readNode_115 (by decide) ?_
  refine a_aload_n d_M_readNode_116 rfl rfl ?_
  refine m_get d_M_readNode_117 f_M_146 rfl ?_
  apply a_callV (ci := 7) 0 0 [_, _] _ d_M_readNode_120 l_M_155 ⟨im_M_wrong, se_M_wrong⟩ rfl rfl rfl rfl (Nat.le_of_ble_eq_true rfl) ⟨Nat.le_of_ble_eq_true rfl, Nat.le_of_ble_eq_true rfl⟩
  · (exact mk_O)
  refine sp_M_wrong ?_
  exact a_return d_M_readNode_123 rfl hK

set_option maxHeartbeats 1000000 in
set_option maxRecDepth 100000 in
theorem n_M_94N {v : Int32} {a : Nat} (hT : MX x n f) (hA : x.1 19 = nI a) (ha : a ≤ n) (h0 : x.1 24 = 0) (ht : x.1 20 = 0) (hv : ¬ v = 8) (hK : ∀ y, NX n f a x y → a_J G m_M_readNode 9 194 128 [(0, .ref m), (1, .int v)] [] (mk σ0 m y) K) : a_J G m_M_readNode 9 194 94 [(0, .ref m), (1, .int v)] [] (mk σ0 m x) K := by
  refine a_aload_n d_M_readNode_94 rfl rfl ?_
  refine m_get d_M_readNode_95 f_M_126 rfl ?_
  refine a_if_ne (tgt := 274) d_M_readNode_98 (by decide) (fun n9 => absurd (h0) n9) (fun c_1 => ?_)
  refine a_aload_n d_M_readNode_101 rfl rfl ?_
  refine m_get d_M_readNode_102 f_M_149 rfl ?_
  refine a_if_ne (tgt := 274) d_M_readNode_105 (by decide) (fun n9 => absurd (ht) n9) (fun c_2 => ?_)
  refine a_iload_n d_M_readNode_108 rfl rfl ?_
  refine a_bipush (v := 8) d_M_readNode_109 (by decide) ?_
  refine a_icmp_ne (tgt := 124) d_M_readNode_111 (by decide) (fun c_3 => ?_) (fun n9 => absurd n9 (hv))
  refine a_aload_n d_M_readNode_124 rfl rfl ?_
  apply a_callV (ci := 7) 2 48 [] _ d_M_readNode_125 l_M_233 ⟨im_M_next, se_M_next⟩ rfl rfl rfl rfl (Nat.le_of_ble_eq_true rfl) ⟨Nat.le_of_ble_eq_true rfl, Nat.le_of_ble_eq_true rfl⟩
  · (exact mk_O)
  refine sp_M_next (a := a) hT hA ha (fun y hy => ?_)
  exact a_lvk (hK y hy) ⟨rfl, rfl, trivial⟩

set_option maxHeartbeats 4000000 in
theorem lp_M_ways : ∀ (k : Nat) (c : aN) {x : aX}, LKA n f (c.1 1 0) x → (c.1 2 0) = 0 → (c.1 0 0) = 6 → ¬ (c.1 10 0) = 0 → c.1 22 ((c.1 6 0) - 1) + k = 9 → AI c → AJ n c → AL c → MGd c x → MC c x (c.1 4 0) → MNd c x → MRl c x (c.1 5 0) → MWy c x (c.1 7 0) → (∀ z, PP x z → HP n f c z → K none (mk σ0 m z)) → a_J G m_M_readNode 9 194 94 [(0, .ref m), (1, .int (nI (c.1 22 ((c.1 6 0) - 1))))] [] (mk σ0 m x) K := by
  intro k
  induction k with
  | zero =>
    intro c x hx h0 hs hwy hk hA hJ hL hM hMC hMN hMR hMW hK
    have h5 : Q5c c 6 := by have := hA.2.2.2.2.1; unfold Q5 at this; rw [hs] at this; exact this
    unfold Q5c at h5
    exact absurd (hA.1.2.2.2 ((c.1 6 0) - 1) (by omega)) (by omega)
  | succ k ih =>
    intro c x hx h0 hs hwy hk hA hJ hL hM hMC hMN hMR hMW hK
    have h5 : Q5c c 6 := by have := hA.2.2.2.2.1; unfold Q5 at this; rw [hs] at this; exact this
    unfold Q5c at h5
    have hNN : 1 ≤ (c.1 6 0) := by omega
    have hb8 := hA.1.2.2.2 ((c.1 6 0) - 1) (by omega)
    have hle := lx_le n f hx.2.1
    have h6 := stT_6 (tok n f (c.1 1 0)) hs
    by_cases k2 : lxK n f (c.1 1 0) = 2
    · have hd : stT (tok n f (c.1 1 0)) c = gt (tok n f (c.1 1 0)) c 1 := by rw [h6]; unfold a6; rw [if_pos (show (tok n f (c.1 1 0)).1 = 2 from k2)]
      refine n_M_94XT hx.1 hx.2.2.2.2.1 hle.2.2.2 hx.2.2.1 ((tk_1 hx).mpr k2) (fun y hy => ?_)
      obtain ⟨hr, hl⟩ := step_LKA hx h0 (by omega) hd h0 (by show 1 ≤ 1; decide) (by show 1 ≤ 17; decide) rfl hy
      refine hK y hy.pt.pg.pp ?_
      rcases hl with hl | ⟨hl1, hl2⟩
      · have hSM : SM c (gt (tok n f (c.1 1 0)) c 1) := ⟨fun a h1 h2 _ _ _ _ => by show xN (xN c.1 0 0 1) 1 0 _ a = c.1 a; rw [xN_ne h2, xN_ne h1], rfl⟩
        exact Or.inl ⟨gt (tok n f (c.1 1 0)) c 1, hr, h0, rfl, hl, MGd_PT (MGd_SM hM hSM) hy.pt, (hMC.sm hSM).pg hy.pt.pg, (hMN.cg hSM.cg).pg hy.pt.pg, (hMR.sm hSM).pg hy.pt.pg, (hMW.sm hSM).pg hy.pt.pg⟩
      · exact Or.inr ⟨hl1, hl2⟩
    · by_cases k1 : lxK n f (c.1 1 0) = 1
      · by_cases r4 : c.1 22 ((c.1 6 0) - 1) < 8
        · have hd : stT (tok n f (c.1 1 0)) c = gt (tok n f (c.1 1 0)) c 7 := by
            rw [h6]; unfold a6
            rw [if_neg (show ¬ (tok n f (c.1 1 0)).1 = 2 from k2), if_pos]
            exact ⟨k1, by rw [if_neg hwy]; exact r4⟩
          refine n_M_94N hx.1 hx.2.2.2.2.1 hle.2.2.2 hx.2.2.1 ((tk_0 hx).mpr k1) (fun z => absurd ((nI_eq (b := 8) (by omega) (by decide)).mp z) (by omega)) (fun y hy => ?_)
          obtain ⟨hr, hl⟩ := step_LKA hx h0 (by omega) hd h0 (by show 1 ≤ 7; decide) (by show 7 ≤ 17; decide) rfl hy
          rcases hl with hl | ⟨hl1, hl2⟩
          · have hSM : SM c (gt (tok n f (c.1 1 0)) c 7) := ⟨fun a h1 h2 _ _ _ _ => by show xN (xN c.1 0 0 7) 1 0 _ a = c.1 a; rw [xN_ne h2, xN_ne h1], rfl⟩
            have hMd := MGd_PT (MGd_SM hM hSM) hy.pt
            have hMCd : MC (gt (tok n f (c.1 1 0)) c 7) y (c.1 4 0) := (hMC.sm hSM).pg hy.pt.pg
            have hMNd := (hMN.cg hSM.cg).pg hy.pt.pg
            have hMRd : MRl (gt (tok n f (c.1 1 0)) c 7) y (c.1 5 0) := (hMR.sm hSM).pg hy.pt.pg
            have hMWd : MWy (gt (tok n f (c.1 1 0)) c 7) y (c.1 7 0) := (hMW.sm hSM).pg hy.pt.pg
            obtain ⟨d, ed⟩ : ∃ d, d = gt (tok n f (c.1 1 0)) c 7 := ⟨_, rfl⟩
            have hd1 : d.1 0 0 = 7 ∧ d.1 2 0 = 0 ∧ d.1 10 0 = (c.1 10 0) ∧ d.1 4 0 = (c.1 4 0) ∧ d.1 22 = c.1 22 ∧ d.1 5 0 = (c.1 5 0) ∧ d.1 7 0 = (c.1 7 0) ∧ d.1 6 0 = (c.1 6 0) := by rw [ed]; exact ⟨rfl, h0, rfl, rfl, rfl, rfl, rfl, rfl⟩
            rw [← ed] at hl hr hMd hMCd hMNd hMRd hMWd
            rw [← hd1.2.2.2.1] at hMCd
            rw [← hd1.2.2.2.2.2.1] at hMRd
            rw [← hd1.2.2.2.2.2.2.1] at hMWd
            have hwd : ¬ d.1 10 0 = 0 := by rw [hd1.2.2.1]; exact hwy
            have hle2 := lx_le n f hl.2.1
            have h7 := stT_7 (tok n f (d.1 1 0)) hd1.1
            by_cases w1 : (tok n f (d.1 1 0)).1 = 3 ∧ (tok n f (d.1 1 0)).2.2.2.1 = jS 14
            · have hd2 : stT (tok n f (d.1 1 0)) d = gt (tok n f (d.1 1 0)) d 8 := by rw [h7]; unfold a7; rw [if_neg hwd, if_pos w1]
              refine n_M_128T hl.1 hl.2.2.2.2.1 hle2.2.2.2 hl.2.2.1 (fun z => (W_iff hl (j := 41) (by decide) (by decide)).mp z w1) (fun z hz => ?_)
              obtain ⟨hr2, hl2⟩ := step_LKA hl hd1.2.1 (by omega) hd2 hd1.2.1 (by show 1 ≤ 8; decide) (by show 8 ≤ 17; decide) rfl hz
              have hPPz : PP x z := hy.pt.pg.pp.trans hz.pt.pg.pp
              rcases hl2 with hl2 | ⟨hl3, hl4⟩
              · have hSM2 : SM d (gt (tok n f (d.1 1 0)) d 8) := ⟨fun a h1 h2 _ _ _ _ => by show xN (xN d.1 0 0 8) 1 0 _ a = d.1 a; rw [xN_ne h2, xN_ne h1], rfl⟩
                have hrr := hr.trans hr2
                refine n_M_134 (c := gt (tok n f (d.1 1 0)) d 8) hl2 hd1.2.1 rfl hwd (AI_Rc hA hrr) (AJ_Rc hx.hf.1 hx.hf.2 hJ hrr) (AL_Rc hA hL hrr) (MGd_PT (MGd_SM hMd hSM2) hz.pt) ((hMCd.sm hSM2).pg hz.pt.pg) ((hMNd.cg hSM2.cg).pg hz.pt.pg) ((hMRd.sm hSM2).pg hz.pt.pg) ((hMWd.sm hSM2).pg hz.pt.pg) (fun z2 v2 hz2 hq => ?_)
                rcases hq with ⟨p1, e, s1, s2, s3, s4, s5, s6, s7, s8, s9, s10, s11, s12⟩ | ⟨s1, s2⟩
                · have s10' : e.1 6 0 = (c.1 6 0) := s10.trans hd1.2.2.2.2.2.2.2
                  have s11' : e.1 22 (e.1 6 0 - 1) = c.1 22 ((c.1 6 0) - 1) + 1 := by
                    rw [s10']
                    have q : e.1 22 (d.1 6 0 - 1) = d.1 22 (d.1 6 0 - 1) + 1 := s11
                    rw [hd1.2.2.2.2.2.2.2, hd1.2.2.2.2.1] at q; exact q
                  have hre := hrr.trans s1
                  have := ih e s4 s2 s3 (by rw [s12]; exact hwd) (by rw [s11']; omega) (AI_Rc hA hre) (AJ_Rc hx.hf.1 hx.hf.2 hJ hre) (AL_Rc hA hL hre) s5 s6 s7 s8 s9 (fun z3 hz3 hq3 => hK z3 ((hPPz.trans hz2).trans hz3) (hq3.of hre))
                  rw [s11'] at this
                  rw [p1, nI_1]
                  exact this
                · exact n_M_94B s1.ne (hK z2 (hPPz.trans hz2) (Or.inr ⟨s1.of hrr, s2⟩))
              · exact n_M_134B hl3.ne (n_M_138B hl3.ne (n_M_94B hl3.ne (hK z hPPz (Or.inr ⟨hl3.of hr, hl4⟩))))
            · have hd2 : stT (tok n f (d.1 1 0)) d = wr (tok n f (d.1 1 0)) d := by rw [h7]; unfold a7; rw [if_neg hwd, if_neg w1]
              have hb := BAD_must hl hd1.2.1 (by omega) hd2
              exact n_M_128F ((W_iff hl (j := 41) (by decide) (by decide)).mpr w1) (n_M_134B hb.ne (n_M_138B hb.ne (n_M_94B hb.ne (hK _ (hy.pt.trans (PT.mu y)).pg.pp (Or.inr ⟨hb.of hr, (PT.mu y).mx hl.1⟩)))))
          · exact n_M_128B hl1.ne (n_M_134B hl1.ne (n_M_138B hl1.ne (n_M_94B hl1.ne (hK y hy.pt.pg.pp (Or.inr ⟨hl1, hl2⟩)))))
        · have hd : stT (tok n f (c.1 1 0)) c = wr (tok n f (c.1 1 0)) c := by
            rw [h6]; unfold a6
            rw [if_neg (show ¬ (tok n f (c.1 1 0)).1 = 2 from k2), if_neg]
            intro z
            have z2 := z.2
            rw [if_neg hwy] at z2
            exact r4 z2
          rw [show c.1 22 ((c.1 6 0) - 1) = 8 by omega]
          refine n_M_94W hx.2.2.1 ((tk_0 hx).mpr k1) ?_
          rw [← mu_2 hx (by rw [k1]; decide)]
          exact hK _ (PT.mu x).pg.pp (Or.inr ⟨BAD_must hx h0 (by omega) hd, (PT.mu x).mx hx.1⟩)
      · have hd : stT (tok n f (c.1 1 0)) c = wr (tok n f (c.1 1 0)) c := by
          rw [h6]; unfold a6
          rw [if_neg (show ¬ (tok n f (c.1 1 0)).1 = 2 from k2), if_neg (fun z => k1 z.1)]
        exact n_M_94XF hx.2.2.1 (fun z => k1 ((tk_0 hx).mp z)) (fun z => k2 ((tk_1 hx).mp z)) (hK _ (PT.mu x).pg.pp (Or.inr ⟨BAD_must hx h0 (by omega) hd, (PT.mu x).mx hx.1⟩))
set_option maxHeartbeats 1000000 in
set_option maxRecDepth 100000 in
theorem n_M_4B {k0 : Nat} (hk0 : x.1 36 = nI k0) (hk6 : k0 ≤ 24) (h0 : ¬ x.1 24 = 0) (hK : K none (mk σ0 m x)) : a_J G m_M_readNode 9 194 4 [(0, .ref m)] [] (mk σ0 m x) K := by
  refine a_aload_n d_M_readNode_4 rfl rfl ?_
  refine a_aload_n d_M_readNode_5 rfl rfl ?_
  refine m_get d_M_readNode_6 f_M_149 rfl ?_
  refine a_iconst (v := 2) d_M_readNode_9 (by decide) ?_
  refine a_icmp_ne (tgt := 39) d_M_readNode_10 (by decide) (fun c_1 => ?_) (fun c_1 => ?_)
  · refine a_iconst (v := 0) d_M_readNode_39 (by decide) ?_
    apply a_callV (ci := 7) 1 22 [_] _ d_M_readNode_40 l_M_229 ⟨im_M_must, se_M_must⟩ rfl rfl rfl rfl (Nat.le_of_ble_eq_true rfl) ⟨Nat.le_of_ble_eq_true rfl, Nat.le_of_ble_eq_true rfl⟩
    · (exact mk_O)
    refine sp_M_mustB h0 ?_
    refine a_if_ne (tgt := 47) d_M_readNode_43 (by decide) (fun n9 => absurd (rfl) n9) (fun c_2 => ?_)
    exact a_return d_M_readNode_46 rfl hK
  · refine a_aload_n d_M_readNode_13 rfl rfl ?_
    apply a_callV (ci := 7) 6 129 [] _ d_M_readNode_14 l_M_263 ⟨im_M_isReserved, se_M_isReserved⟩ rfl rfl rfl rfl (Nat.le_of_ble_eq_true rfl) ⟨Nat.le_of_ble_eq_true rfl, Nat.le_of_ble_eq_true rfl⟩
    · (exact mk_O)
    refine sp_M_isReserved ?_
    refine a_if_ne (tgt := 39) d_M_readNode_17 (by decide) (fun c_3 => ?_) (fun c_3 => ?_)
    · refine a_iconst (v := 0) d_M_readNode_39 (by decide) ?_
      apply a_callV (ci := 7) 1 22 [_] _ d_M_readNode_40 l_M_229 ⟨im_M_must, se_M_must⟩ rfl rfl rfl rfl (Nat.le_of_ble_eq_true rfl) ⟨Nat.le_of_ble_eq_true rfl, Nat.le_of_ble_eq_true rfl⟩
      · (exact mk_O)
      refine sp_M_mustB h0 ?_
      refine a_if_ne (tgt := 47) d_M_readNode_43 (by decide) (fun n9 => absurd (rfl) n9) (fun c_4 => ?_)
      exact a_return d_M_readNode_46 rfl hK
    · refine a_aload_n d_M_readNode_20 rfl rfl ?_
      refine a_aload_n d_M_readNode_21 rfl rfl ?_
      refine m_get d_M_readNode_22 f_M_67 rfl ?_
      refine a_aload_n d_M_readNode_25 rfl rfl ?_
      refine m_get (v := .int (nI k0)) d_M_readNode_26 f_M_242 (congrArg (fun z => some (Value.int z)) hk0) ?_
      apply a_callV (ci := 7) 0 0 [_, _] _ d_M_readNode_29 l_M_267 ⟨im_M_isOld, se_M_isOld⟩ rfl rfl rfl rfl (Nat.le_of_ble_eq_true rfl) ⟨Nat.le_of_ble_eq_true rfl, Nat.le_of_ble_eq_true rfl⟩
      · (exact mk_O)
      refine sp_M_isOld (A := 18) (cnt := k0) (by decide) rfl (show k0 ≤ 24 by omega) (by decide) ?_
      refine a_if_ne (tgt := 39) d_M_readNode_32 (by decide) (fun c_5 => ?_) (fun c_5 => ?_)
      · refine a_iconst (v := 0) d_M_readNode_39 (by decide) ?_
        apply a_callV (ci := 7) 1 22 [_] _ d_M_readNode_40 l_M_229 ⟨im_M_must, se_M_must⟩ rfl rfl rfl rfl (Nat.le_of_ble_eq_true rfl) ⟨Nat.le_of_ble_eq_true rfl, Nat.le_of_ble_eq_true rfl⟩
        · (exact mk_O)
        refine sp_M_mustB h0 ?_
        refine a_if_ne (tgt := 47) d_M_readNode_43 (by decide) (fun n9 => absurd (rfl) n9) (fun c_6 => ?_)
        exact a_return d_M_readNode_46 rfl hK
      · refine a_iconst (v := 1) d_M_readNode_35 (by decide) ?_
        refine a_goto (tgt := 40) d_M_readNode_36 (by decide) ?_
        apply a_callV (ci := 7) 1 22 [_] _ d_M_readNode_40 l_M_229 ⟨im_M_must, se_M_must⟩ rfl rfl rfl rfl (Nat.le_of_ble_eq_true rfl) ⟨Nat.le_of_ble_eq_true rfl, Nat.le_of_ble_eq_true rfl⟩
        · (exact mk_O)
        refine sp_M_mustB h0 ?_
        refine a_if_ne (tgt := 47) d_M_readNode_43 (by decide) (fun n9 => absurd (rfl) n9) (fun c_7 => ?_)
        exact a_return d_M_readNode_46 rfl hK

set_option maxHeartbeats 1000000 in
set_option maxRecDepth 100000 in
theorem n_M_4F {k0 : Nat} (hk0 : x.1 36 = nI k0) (hk6 : k0 ≤ 24) (ht : ¬ (x.1 20 = 2 ∧ mR x = 0 ∧ olF (x.2.2.2 18) (x.2.1 22) k0 0 0 = 0)) (hK : K none (mk σ0 m (muX x 0))) : a_J G m_M_readNode 9 194 4 [(0, .ref m)] [] (mk σ0 m x) K := by
  refine a_aload_n d_M_readNode_4 rfl rfl ?_
  refine a_aload_n d_M_readNode_5 rfl rfl ?_
  refine m_get d_M_readNode_6 f_M_149 rfl ?_
  refine a_iconst (v := 2) d_M_readNode_9 (by decide) ?_
  refine a_icmp_ne (tgt := 39) d_M_readNode_10 (by decide) (fun c_1 => ?_) (fun c_1 => ?_)
  · refine a_iconst (v := 0) d_M_readNode_39 (by decide) ?_
    apply a_callV (ci := 7) 1 22 [_] _ d_M_readNode_40 l_M_229 ⟨im_M_must, se_M_must⟩ rfl rfl rfl rfl (Nat.le_of_ble_eq_true rfl) ⟨Nat.le_of_ble_eq_true rfl, Nat.le_of_ble_eq_true rfl⟩
    · (exact mk_O)
    refine sp_M_mustF rfl ?_
    refine a_if_ne (tgt := 47) d_M_readNode_43 (by decide) (fun n9 => absurd (rfl) n9) (fun c_2 => ?_)
    exact a_return d_M_readNode_46 rfl hK
  · refine a_aload_n d_M_readNode_13 rfl rfl ?_
    apply a_callV (ci := 7) 6 129 [] _ d_M_readNode_14 l_M_263 ⟨im_M_isReserved, se_M_isReserved⟩ rfl rfl rfl rfl (Nat.le_of_ble_eq_true rfl) ⟨Nat.le_of_ble_eq_true rfl, Nat.le_of_ble_eq_true rfl⟩
    · (exact mk_O)
    refine sp_M_isReserved ?_
    refine a_if_ne (tgt := 39) d_M_readNode_17 (by decide) (fun c_3 => ?_) (fun c_3 => ?_)
    · refine a_iconst (v := 0) d_M_readNode_39 (by decide) ?_
      apply a_callV (ci := 7) 1 22 [_] _ d_M_readNode_40 l_M_229 ⟨im_M_must, se_M_must⟩ rfl rfl rfl rfl (Nat.le_of_ble_eq_true rfl) ⟨Nat.le_of_ble_eq_true rfl, Nat.le_of_ble_eq_true rfl⟩
      · (exact mk_O)
      refine sp_M_mustF rfl ?_
      refine a_if_ne (tgt := 47) d_M_readNode_43 (by decide) (fun n9 => absurd (rfl) n9) (fun c_4 => ?_)
      exact a_return d_M_readNode_46 rfl hK
    · refine a_aload_n d_M_readNode_20 rfl rfl ?_
      refine a_aload_n d_M_readNode_21 rfl rfl ?_
      refine m_get d_M_readNode_22 f_M_67 rfl ?_
      refine a_aload_n d_M_readNode_25 rfl rfl ?_
      refine m_get (v := .int (nI k0)) d_M_readNode_26 f_M_242 (congrArg (fun z => some (Value.int z)) hk0) ?_
      apply a_callV (ci := 7) 0 0 [_, _] _ d_M_readNode_29 l_M_267 ⟨im_M_isOld, se_M_isOld⟩ rfl rfl rfl rfl (Nat.le_of_ble_eq_true rfl) ⟨Nat.le_of_ble_eq_true rfl, Nat.le_of_ble_eq_true rfl⟩
      · (exact mk_O)
      refine sp_M_isOld (A := 18) (cnt := k0) (by decide) rfl (show k0 ≤ 24 by omega) (by decide) ?_
      refine a_if_ne (tgt := 39) d_M_readNode_32 (by decide) (fun c_5 => ?_) (fun c_5 => ?_)
      · refine a_iconst (v := 0) d_M_readNode_39 (by decide) ?_
        apply a_callV (ci := 7) 1 22 [_] _ d_M_readNode_40 l_M_229 ⟨im_M_must, se_M_must⟩ rfl rfl rfl rfl (Nat.le_of_ble_eq_true rfl) ⟨Nat.le_of_ble_eq_true rfl, Nat.le_of_ble_eq_true rfl⟩
        · (exact mk_O)
        refine sp_M_mustF rfl ?_
        refine a_if_ne (tgt := 47) d_M_readNode_43 (by decide) (fun n9 => absurd (rfl) n9) (fun c_6 => ?_)
        exact a_return d_M_readNode_46 rfl hK
      · exact absurd ⟨by first | assumption | exact Decidable.not_not.mp (by assumption), by first | assumption | exact Decidable.not_not.mp (by assumption), by first | assumption | exact Decidable.not_not.mp (by assumption)⟩ ht

set_option maxHeartbeats 1000000 in
set_option maxRecDepth 100000 in
theorem n_M_4T {k0 a : Nat} (hT : MX x n f) (hA : x.1 19 = nI a) (ha : a ≤ n) (h0 : x.1 24 = 0) (hk0 : x.1 36 = nI k0) (hk6 : k0 < 24) (ht : (x.1 20 = 2 ∧ mR x = 0 ∧ olF (x.2.2.2 18) (x.2.1 22) k0 0 0 = 0)) (hK : ∀ y, NX n f a (sI (sA (sB x 18 k0 (x.2.1 22)) 6 k0 (x.1 19 - x.1 21)) 36 (nI (k0 + 1))) y → a_J G m_M_readNode 9 194 94 [(0, .ref m), (1, .int (nI 0))] [] (mk σ0 m y) K) : a_J G m_M_readNode 9 194 4 [(0, .ref m)] [] (mk σ0 m x) K := by
  refine a_aload_n d_M_readNode_4 rfl rfl ?_
  refine a_aload_n d_M_readNode_5 rfl rfl ?_
  refine m_get d_M_readNode_6 f_M_149 rfl ?_
  refine a_iconst (v := 2) d_M_readNode_9 (by decide) ?_
  refine a_icmp_ne (tgt := 39) d_M_readNode_10 (by decide) (fun n9 => absurd (ht.1) n9) (fun c_1 => ?_)
  refine a_aload_n d_M_readNode_13 rfl rfl ?_
  apply a_callV (ci := 7) 6 129 [] _ d_M_readNode_14 l_M_263 ⟨im_M_isReserved, se_M_isReserved⟩ rfl rfl rfl rfl (Nat.le_of_ble_eq_true rfl) ⟨Nat.le_of_ble_eq_true rfl, Nat.le_of_ble_eq_true rfl⟩
  · (exact mk_O)
  refine sp_M_isReserved ?_
  refine a_if_ne (tgt := 39) d_M_readNode_17 (by decide) (fun n9 => absurd (ht.2.1) n9) (fun c_2 => ?_)
  refine a_aload_n d_M_readNode_20 rfl rfl ?_
  refine a_aload_n d_M_readNode_21 rfl rfl ?_
  refine m_get d_M_readNode_22 f_M_67 rfl ?_
  refine a_aload_n d_M_readNode_25 rfl rfl ?_
  refine m_get (v := .int (nI k0)) d_M_readNode_26 f_M_242 (congrArg (fun z => some (Value.int z)) hk0) ?_
  apply a_callV (ci := 7) 0 0 [_, _] _ d_M_readNode_29 l_M_267 ⟨im_M_isOld, se_M_isOld⟩ rfl rfl rfl rfl (Nat.le_of_ble_eq_true rfl) ⟨Nat.le_of_ble_eq_true rfl, Nat.le_of_ble_eq_true rfl⟩
  · (exact mk_O)
  refine sp_M_isOld (A := 18) (cnt := k0) (by decide) rfl (show k0 ≤ 24 by omega) (by decide) ?_
  refine a_if_ne (tgt := 39) d_M_readNode_32 (by decide) (fun n9 => absurd (ht.2.2) n9) (fun c_3 => ?_)
  refine a_iconst (v := 1) d_M_readNode_35 (by decide) ?_
  refine a_goto (tgt := 40) d_M_readNode_36 (by decide) ?_
  apply a_callV (ci := 7) 1 22 [_] _ d_M_readNode_40 l_M_229 ⟨im_M_must, se_M_must⟩ rfl rfl rfl rfl (Nat.le_of_ble_eq_true rfl) ⟨Nat.le_of_ble_eq_true rfl, Nat.le_of_ble_eq_true rfl⟩
  · (exact mk_O)
  refine sp_M_mustT (by decide) h0 ?_
  refine a_if_ne (tgt := 47) d_M_readNode_43 (by decide) (fun c_4 => ?_) (fun n9 => absurd n9 (by decide))
  refine a_aload_n d_M_readNode_47 rfl rfl ?_
  refine m_get d_M_readNode_48 f_M_67 rfl ?_
  refine a_aload_n d_M_readNode_51 rfl rfl ?_
  refine m_get (v := .int (nI k0)) d_M_readNode_52 f_M_242 (congrArg (fun z => some (Value.int z)) hk0) ?_
  refine a_aload_n d_M_readNode_55 rfl rfl ?_
  refine m_get d_M_readNode_56 f_M_166 rfl ?_
  refine m_last d_M_readNode_59 (by decide) rfl (vp_in_nI (show k0 < 24 by omega) (by decide)) ?_
  rw [nI_clamp (show k0 < 2 ^ 31 by omega)]
  refine a_aload_n d_M_readNode_60 rfl rfl ?_
  refine m_get d_M_readNode_61 f_M_29 rfl ?_
  refine a_aload_n d_M_readNode_64 rfl rfl ?_
  refine m_get (v := .int (nI k0)) d_M_readNode_65 f_M_242 (congrArg (fun z => some (Value.int z)) hk0) ?_
  refine a_aload_n d_M_readNode_68 rfl rfl ?_
  refine m_get d_M_readNode_69 f_M_139 rfl ?_
  refine a_aload_n d_M_readNode_72 rfl rfl ?_
  refine m_get d_M_readNode_73 f_M_146 rfl ?_
  refine a_isub d_M_readNode_76 ?_
  refine m_iast d_M_readNode_77 (by decide) rfl (vp_in_nI (show k0 < 24 by omega) (by decide)) ?_
  rw [nI_clamp (show k0 < 2 ^ 31 by omega)]
  refine a_aload_n d_M_readNode_78 rfl rfl ?_
  refine a_dup d_M_readNode_79 rfl ?_
  refine m_get (v := .int (nI k0)) d_M_readNode_80 f_M_242 (congrArg (fun z => some (Value.int z)) hk0) ?_
  refine a_iconst (v := 1) d_M_readNode_83 (by decide) ?_
  refine a_iadd d_M_readNode_84 ?_
  rw [nI_1]
  refine m_putI d_M_readNode_85 p_M_242 rfl rfl (by decide) ?_
  refine a_aload_n d_M_readNode_88 rfl rfl ?_
  apply a_callV (ci := 7) 2 48 [] _ d_M_readNode_89 l_M_233 ⟨im_M_next, se_M_next⟩ rfl rfl rfl rfl (Nat.le_of_ble_eq_true rfl) ⟨Nat.le_of_ble_eq_true rfl, Nat.le_of_ble_eq_true rfl⟩
  · (exact mk_O)
  refine sp_M_next (a := a) hT hA ha (fun y hy => ?_)
  refine a_iconst (v := 0) d_M_readNode_92 (by decide) ?_
  refine a_istore_n d_M_readNode_93 rfl (by decide) ?_
  exact a_lvk (hK y hy) ⟨rfl, rfl, trivial⟩

set_option maxHeartbeats 2000000 in
theorem n_M_4 (hx : LKA n f (c.1 1 0) x) (h0 : (c.1 2 0) = 0) (hs : (c.1 0 0) = 5) (hA : AI c) (hJ : AJ n c) (hL : AL c) (hM : MGd c x) (hMC : MC c x (c.1 4 0)) (hMN : MNd c x) (hMR : MRl c x (c.1 5 0)) (hMW : MWy c x (c.1 7 0)) (hK : ∀ z, PP x z → HP n f c z → K none (mk σ0 m z)) : a_J G m_M_readNode 9 194 4 [(0, .ref m)] [] (mk σ0 m x) K := by
  have hle := lx_le n f hx.2.1
  have hn4 := hx.1.2.1
  have h5 : Q5c c 5 := by have := hA.2.2.2.2.1; unfold Q5 at this; rw [hs] at this; exact this
  unfold Q5c at h5
  have h6 : (c.1 6 0) < 24 := h5.2.1 (by omega)
  have h3 := stT_5 (tok n f (c.1 1 0)) hs
  have hgl : nmG (tok n f (c.1 1 0)).2.2.2.1 := (TF_tok hx.hf.1 hx.hf.2 hJ).2.2.2.2
  have hcond : (x.1 20 = 2 ∧ mR x = 0 ∧ olF (x.2.2.2 18) (x.2.1 22) (c.1 6 0) 0 0 = 0) ↔ (fre (tok n f (c.1 1 0)) ∧ afd (c.2.1 1) (tok n f (c.1 1 0)).2.2.2.1 0 (c.1 6 0) = none) := by
    rw [← and_assoc, F_iff hx]
    refine and_congr_right fun hf => ?_
    rw [hx.2.2.2.2.2.2.2.1 hf.1]
    exact olF_afd hgl (hJ.2.2 1) (fun k hk => (hMN.2 k hk).1) (c.1 6 0) 0 (by omega)
  by_cases w1 : fre (tok n f (c.1 1 0)) ∧ afd (c.2.1 1) (tok n f (c.1 1 0)).2.2.2.1 0 (c.1 6 0) = none
  · have hd : stT (tok n f (c.1 1 0)) c = (gt (tok n f (c.1 1 0)) (ahn c (tok n f (c.1 1 0)).2.2.2.1) 6) := by rw [h3]; unfold a5; rw [if_pos w1]
    refine n_M_4T hx.1 hx.2.2.2.2.1 hle.2.2.2 hx.2.2.1 hMN.1 h6 (hcond.mpr w1) (fun y hy => ?_)
    have hx3 : LKA n f (c.1 1 0) (sI (sA (sB x 18 (c.1 6 0) (x.2.1 22)) 6 (c.1 6 0) (x.1 19 - x.1 21)) 36 (nI ((c.1 6 0) + 1))) := hx.keep (fun k h1 h2 => by show upd x.1 36 _ k = x.1 k; rw [pk_un (by omega)]) rfl rfl
    obtain ⟨hr, hl⟩ := step_LKA hx3 h0 (by omega) hd h0 (by show 1 ≤ 6; decide) (by show 6 ≤ 17; decide) rfl hy
    have hPP3 : PP x (sI (sA (sB x 18 (c.1 6 0) (x.2.1 22)) 6 (c.1 6 0) (x.1 19 - x.1 21)) 36 (nI ((c.1 6 0) + 1))) := ⟨fun k hk => by show upd x.1 36 _ k = x.1 k; rw [pk_un (by omega)], fun a ha g1 g2 => by show updA x.2.2.1 6 _ _ a = _; rw [updA_ne (by omega)]⟩
    have hPPy := hPP3.trans hy.pt.pg.pp
    rcases hl with hl | ⟨hl1, hl2⟩
    · have hlen : x.1 19 - x.1 21 = nI (tok n f (c.1 1 0)).2.2.2.1.length := by
        rw [hx.2.2.2.2.1, hx.2.2.2.2.2.1, nI_sub hle.2.2.1]
        have := lx_3 hx.hf.1 hx.2.1 w1.1.1
        rw [show (tok n f (c.1 1 0)).2.2.2.1 = nl n f (lxP n f (c.1 1 0)) from rfl, this.2.2, seg_len]
      have hMG : MGd (gt (tok n f (c.1 1 0)) (ahn c (tok n f (c.1 1 0)).2.2.2.1) 6) y := MGd_PT (x := (sI (sA (sB x 18 (c.1 6 0) (x.2.1 22)) 6 (c.1 6 0) (x.1 19 - x.1 21)) 36 (nI ((c.1 6 0) + 1)))) (show MGd (gt (tok n f (c.1 1 0)) (ahn c (tok n f (c.1 1 0)).2.2.2.1) 6) (sI (sA (sB x 18 (c.1 6 0) (x.2.1 22)) 6 (c.1 6 0) (x.1 19 - x.1 21)) 36 (nI ((c.1 6 0) + 1))) from hM) hy.pt
      have hN' : MNd (gt (tok n f (c.1 1 0)) (ahn c (tok n f (c.1 1 0)).2.2.2.1) 6) y := by
        refine MNd.pg (x := (sI (sA (sB x 18 (c.1 6 0) (x.2.1 22)) 6 (c.1 6 0) (x.1 19 - x.1 21)) 36 (nI ((c.1 6 0) + 1)))) ⟨rfl, fun k hk => ?_⟩ hy.pt.pg
        have hk : k < (c.1 6 0) + 1 := hk
        show vp_updL (x.2.2.2 18) (c.1 6 0) (x.2.1 22) k = e27 (if k = (c.1 6 0) then (tok n f (c.1 1 0)).2.2.2.1 else c.2.1 1 (k)) ∧ upd (x.2.2.1 6) (c.1 6 0) (x.1 19 - x.1 21) k = nI (if k = (c.1 6 0) then (tok n f (c.1 1 0)).2.2.2.1 else c.2.1 1 (k)).length
        by_cases e : k = (c.1 6 0)
        · rw [if_pos e, e, pk_uLs, pk_us]; exact ⟨hx.2.2.2.2.2.2.2.1 w1.1.1, hlen⟩
        · rw [if_neg e, pk_uLn e, pk_un e]; exact hMN.2 k (by omega)
      have ewc : ((gt (tok n f (c.1 1 0)) (ahn c (tok n f (c.1 1 0)).2.2.2.1) 6)).1 22 (((gt (tok n f (c.1 1 0)) (ahn c (tok n f (c.1 1 0)).2.2.2.1) 6)).1 6 0 - 1) = 0 := by
        show (if (c.1 6 0) + 1 - 1 = (c.1 6 0) then 0 else c.1 22 ((c.1 6 0) + 1 - 1)) = 0
        rw [if_pos (by omega)]
      have := lp_M_ways (G := G) (σ0 := σ0) (m := m) (K := K) 9 (gt (tok n f (c.1 1 0)) (ahn c (tok n f (c.1 1 0)).2.2.2.1) 6) hl h0 rfl (by show ¬ 1 = 0; decide) (by rw [ewc]) (AI_Rc hA hr) (AJ_Rc hx.hf.1 hx.hf.2 hJ hr) (AL_Rc hA hL hr) hMG (MC.pg (x := (sI (sA (sB x 18 (c.1 6 0) (x.2.1 22)) 6 (c.1 6 0) (x.1 19 - x.1 21)) 36 (nI ((c.1 6 0) + 1)))) (show MC (gt (tok n f (c.1 1 0)) (ahn c (tok n f (c.1 1 0)).2.2.2.1) 6) (sI (sA (sB x 18 (c.1 6 0) (x.2.1 22)) 6 (c.1 6 0) (x.1 19 - x.1 21)) 36 (nI ((c.1 6 0) + 1))) (c.1 4 0) from hMC) hy.pt.pg) hN' (MRl.pg (x := (sI (sA (sB x 18 (c.1 6 0) (x.2.1 22)) 6 (c.1 6 0) (x.1 19 - x.1 21)) 36 (nI ((c.1 6 0) + 1)))) (show MRl (gt (tok n f (c.1 1 0)) (ahn c (tok n f (c.1 1 0)).2.2.2.1) 6) (sI (sA (sB x 18 (c.1 6 0) (x.2.1 22)) 6 (c.1 6 0) (x.1 19 - x.1 21)) 36 (nI ((c.1 6 0) + 1))) (c.1 5 0) from hMR) hy.pt.pg) (MWy.pg (x := (sI (sA (sB x 18 (c.1 6 0) (x.2.1 22)) 6 (c.1 6 0) (x.1 19 - x.1 21)) 36 (nI ((c.1 6 0) + 1)))) (show MWy (gt (tok n f (c.1 1 0)) (ahn c (tok n f (c.1 1 0)).2.2.2.1) 6) (sI (sA (sB x 18 (c.1 6 0) (x.2.1 22)) 6 (c.1 6 0) (x.1 19 - x.1 21)) 36 (nI ((c.1 6 0) + 1))) (c.1 7 0) from hMW) hy.pt.pg) (fun z hz hq => hK z (hPPy.trans hz) (hq.of hr))
      rw [ewc] at this
      exact this
    · exact n_M_94B hl1.ne (hK y hPPy (Or.inr ⟨hl1, hl2⟩))
  · have hd : stT (tok n f (c.1 1 0)) c = wr (tok n f (c.1 1 0)) c := by rw [h3]; unfold a5; rw [if_neg w1]
    exact n_M_4F hMN.1 (by omega) (fun z => w1 (hcond.mp z)) (hK _ (PT.mu x).pg.pp (Or.inr ⟨BAD_must hx h0 (by omega) hd, (PT.mu x).mx hx.1⟩))
set_option maxHeartbeats 1000000 in
set_option maxRecDepth 100000 in
theorem n_M_0 {a : Nat} (hT : MX x n f) (hA : x.1 19 = nI a) (ha : a ≤ n) (hK : ∀ y, NX n f a x y → a_J G m_M_readNode 9 194 4 [(0, .ref m)] [] (mk σ0 m y) K) : a_C G m_M_readNode 9 194 [.ref m] (mk σ0 m x) K := by
  refine a_enter rfl (Nat.le_of_ble_eq_true rfl) ?_
  refine a_aload_n d_M_readNode_0 rfl rfl ?_
  apply a_callV (ci := 7) 2 48 [] _ d_M_readNode_1 l_M_233 ⟨im_M_next, se_M_next⟩ rfl rfl rfl rfl (Nat.le_of_ble_eq_true rfl) ⟨Nat.le_of_ble_eq_true rfl, Nat.le_of_ble_eq_true rfl⟩
  · (exact mk_O)
  refine sp_M_next (a := a) hT hA ha (fun y hy => ?_)
  exact a_lvk (hK y hy) ⟨rfl, trivial⟩

/-- readNode, from its word on -/
theorem sp_M_readNode (hx : LKA n f (c.1 1 0) x) (h0 : (c.1 2 0) = 0) (hs : (c.1 0 0) = 2) (hd : stT (tok n f (c.1 1 0)) c = (gt (tok n f (c.1 1 0)) c 5)) (hA : AI c) (hJ : AJ n c) (hL : AL c) (hM : MGd c x) (hMC : MC c x (c.1 4 0)) (hMN : MNd c x) (hMR : MRl c x (c.1 5 0)) (hMW : MWy c x (c.1 7 0)) (hK : ∀ z, PP x z → HP n f c z → K none (mk σ0 m z)) : a_C G m_M_readNode 9 194 [.ref m] (mk σ0 m x) K := by
  have hle := lx_le n f hx.2.1
  have hNN := hA.1.2.1
  refine n_M_0 hx.1 hx.2.2.2.2.1 hle.2.2.2 (fun y hy => ?_)
  obtain ⟨hr, hl⟩ := step_LKA hx h0 (by omega) hd h0 (by show 1 ≤ 5; decide) (by show 5 ≤ 17; decide) rfl hy
  have hPPy := hy.pt.pg.pp
  rcases hl with hl | ⟨hl1, hl2⟩
  · have hSM : SM c (gt (tok n f (c.1 1 0)) c 5) := ⟨fun a h1 h2 _ _ _ _ => by show xN (xN c.1 0 0 5) 1 0 _ a = c.1 a; rw [xN_ne h2, xN_ne h1], rfl⟩
    exact n_M_4 (c := (gt (tok n f (c.1 1 0)) c 5)) hl h0 rfl (AI_Rc hA hr) (AJ_Rc hx.hf.1 hx.hf.2 hJ hr) (AL_Rc hA hL hr) (MGd_PT (MGd_SM hM hSM) hy.pt) ((hMC.sm hSM).pg hy.pt.pg) ((hMN.cg hSM.cg).pg hy.pt.pg) ((hMR.sm hSM).pg hy.pt.pg) ((hMW.sm hSM).pg hy.pt.pg) (fun z hz hq => hK z (hPPy.trans hz) (hq.of hr))
  · exact n_M_4B ((hy.pt.2 36 (by decide) (by decide) (by decide) (by decide) (by decide)).trans hMN.1) (by omega) hl1.ne (hK y hPPy (Or.inr ⟨hl1, hl2⟩))
end ModM20
