/-! THE MODEL's readGuards -/
section ModM13
variable {G : aG} {σ0 : aS} {K : Option Value → aS → Prop} {m n : Nat} {f : Nat → Nat} {x : aX} {c : aN}
theorem AL_Rc {d : aN} (hA : AI c) (h : AL c) (g : aRc n f c d) : AL d := by
  obtain ⟨m, rfl⟩ := g
  exact AL_ait m hA h
theorem NL_lt (hA : AI c) (hL : AL c) (h0 : (c.1 2 0) = 0) : (c.1 9 0) < 1250 := by
  have h1 := NT_lt hA
  have h2 := (hL.2.2 h0).1
  have hf : fin c (c.1 0 0) ≤ (c.1 7 0) := by unfold fin; split <;> omega
  have : (if (c.1 0 0) = 15 ∨ (c.1 0 0) = 16 then 1 else 0) ≤ 1 := by split <;> omega
  omega
theorem mu_2 (hx : LKA n f (c.1 1 0) x) (h : ¬ lxK n f (c.1 1 0) = 0) : muX x 0 = wrX x 2 (x.1 21) := by
  have h4 : ¬ x.1 20 = 4 := fun z => h ((tk_4 hx).mp z)
  unfold muX wrX
  rw [if_pos rfl, if_pos hx.2.2.1, if_neg h4, if_neg h4, if_pos hx.2.2.1]
/-- in a clause, the count of its tests follows from all tests -/
theorem acm_NT (hA : AI c) (hs : (c.1 0 0) = 9) : ((c.1 10 0) = 0 → acm c = (c.1 8 0) - c.1 27 ((c.1 5 0) - 1) ∧ c.1 27 ((c.1 5 0) - 1) ≤ (c.1 8 0)) ∧ (¬ (c.1 10 0) = 0 → acm c = (c.1 8 0) - c.1 32 ((c.1 7 0) - 1) ∧ c.1 32 ((c.1 7 0) - 1) ≤ (c.1 8 0)) := by
  have h5 : Q5c c 9 := by have := hA.2.2.2.2.1; unfold Q5 at this; rw [hs] at this; exact this
  unfold Q5c at h5
  have h := h5.2.2.2.2.2.2.1 (by omega)
  unfold acm
  refine ⟨fun hw => ?_, fun hw => ?_⟩
  · have := h.1 hw; rw [if_pos hw]; omega
  · have := h.2 hw; rw [if_neg hw]; omega
theorem acm_s {d : aN} (hA : AI c) (hA2 : AI d) (hs : (c.1 0 0) = 9) (hs2 : d.1 0 0 = 9) (hC : CG c d) (e : d.1 8 0 = (c.1 8 0) + 1) : acm d = acm c + 1 ∧ acl d = acl c := by
  have e5 : d.1 5 = c.1 5 := hC.1 5 (by omega)
  have e7 : d.1 7 = c.1 7 := hC.1 7 (by omega)
  have e10 : d.1 10 = c.1 10 := hC.1 10 (by omega)
  have e27 : d.1 27 = c.1 27 := hC.1 27 (by omega)
  have e32 : d.1 32 = c.1 32 := hC.1 32 (by omega)
  have e25 : d.1 25 = c.1 25 := hC.1 25 (by omega)
  have e31 : d.1 31 = c.1 31 := hC.1 31 (by omega)
  have h1 := acm_NT hA hs
  have h2 := acm_NT hA2 hs2
  rw [e5, e7, e10, e27, e32, e] at h2
  refine ⟨?_, by unfold acl; rw [e5, e7, e10, e25, e31]⟩
  by_cases hw : (c.1 10 0) = 0
  · have := h1.1 hw; have := h2.1 hw; omega
  · have := h1.2 hw; have := h2.2 hw; omega
/-- what readGuards leaves -/
def GQ (n : Nat) (f : Nat → Nat) (c : aN) (y : aX) : Prop := (∃ d, aRc n f c d ∧ d.1 2 0 = 0 ∧ d.1 0 0 = 9 ∧ LKA n f (d.1 1 0) y ∧ ¬ lxK n f (d.1 1 0) = 1 ∧ MGd d y ∧ CG c d) ∨ (BAD n f c y ∧ MX y n f)
set_option maxHeartbeats 1000000 in
set_option maxRecDepth 100000 in
theorem g_M_gsB {w v : Int32} (h0 : ¬ x.1 24 = 0) (hK : K none (mk σ0 m x)) : a_J G m_M_readGuards 8 172 2 [(0, .ref m), (1, .int w), (2, .int v)] [] (mk σ0 m x) K := by
  refine a_aload_n d_M_readGuards_2 rfl rfl ?_
  refine m_get d_M_readGuards_3 f_M_126 rfl ?_
  refine a_if_ne (tgt := 42) d_M_readGuards_6 (by decide) (fun c_1 => ?_) (fun n9 => absurd n9 (h0))
  exact a_return d_M_readGuards_42 rfl hK

set_option maxHeartbeats 1000000 in
set_option maxRecDepth 100000 in
theorem g_M_gsE {w v : Int32} (h0 : x.1 24 = 0) (ht : ¬ x.1 20 = 0) (hK : K none (mk σ0 m x)) : a_J G m_M_readGuards 8 172 2 [(0, .ref m), (1, .int w), (2, .int v)] [] (mk σ0 m x) K := by
  refine a_aload_n d_M_readGuards_2 rfl rfl ?_
  refine m_get d_M_readGuards_3 f_M_126 rfl ?_
  refine a_if_ne (tgt := 42) d_M_readGuards_6 (by decide) (fun n9 => absurd (h0) n9) (fun c_1 => ?_)
  refine a_aload_n d_M_readGuards_9 rfl rfl ?_
  refine m_get d_M_readGuards_10 f_M_149 rfl ?_
  refine a_if_ne (tgt := 42) d_M_readGuards_13 (by decide) (fun c_2 => ?_) (fun n9 => absurd n9 (ht))
  exact a_return d_M_readGuards_42 rfl hK

set_option maxHeartbeats 1000000 in
set_option maxRecDepth 100000 in
theorem g_M_gsF {w : Int32} (h0 : x.1 24 = 0) (ht : x.1 20 = 0) (hK : K none (mk σ0 m (wrX x 2 (x.1 21)))) : a_J G m_M_readGuards 8 172 2 [(0, .ref m), (1, .int w), (2, .int 4)] [] (mk σ0 m x) K := by
  refine a_aload_n d_M_readGuards_2 rfl rfl ?_
  refine m_get d_M_readGuards_3 f_M_126 rfl ?_
  refine a_if_ne (tgt := 42) d_M_readGuards_6 (by decide) (fun n9 => absurd (h0) n9) (fun c_1 => ?_)
  refine a_aload_n d_M_readGuards_9 rfl rfl ?_
  refine m_get d_M_readGuards_10 f_M_149 rfl ?_
  refine a_if_ne (tgt := 42) d_M_readGuards_13 (by decide) (fun n9 => absurd (ht) n9) (fun c_2 => ?_)
  refine a_iload_n d_M_readGuards_16 rfl rfl ?_
  refine a_iconst (v := 4) d_M_readGuards_17 (by decide) ?_
  refine a_icmp_ne (tgt := 31) d_M_readGuards_18 (by decide) (fun n9 => absurd (rfl) n9) (fun c_3 => ?_)
  refine a_aload_n d_M_readGuards_21 rfl rfl ?_
  refine a_iconst (v := 2) d_M_readGuards_22 (by decide) ?_
  refine a_aload_n d_M_readGuards_23 rfl rfl ?_
  refine m_get d_M_readGuards_24 f_M_146 rfl ?_
  apply a_callV (ci := 7) 0 0 [_, _] _ d_M_readGuards_27 l_M_155 ⟨im_M_wrong, se_M_wrong⟩ rfl rfl rfl rfl (Nat.le_of_ble_eq_true rfl) ⟨Nat.le_of_ble_eq_true rfl, Nat.le_of_ble_eq_true rfl⟩
  · (exact mk_O)
  refine sp_M_wrong ?_
  exact a_return d_M_readGuards_30 rfl hK

set_option maxHeartbeats 1000000 in
set_option maxRecDepth 100000 in
theorem g_M_gsT {w v : Int32} (h0 : x.1 24 = 0) (ht : x.1 20 = 0) (hv : ¬ v = 4) (hx : LKA n f (c.1 1 0) x) (hf0 : (c.1 2 0) = 0) (hs : (c.1 0 0) = 9) (ho : lxK n f (c.1 1 0) = 1) (h4 : acm c < 4) (hA : AI c) (hJ : AJ n c) (hNL : (c.1 9 0) < 1250) (hM : MGd c x) (hw : w = ccF (acl c)) (hK : ∀ y, PG x y → GP n f c y → a_J G m_M_readGuards 8 172 2 [(0, .ref m), (1, .int w), (2, .int (v + 1))] [] (mk σ0 m y) K) : a_J G m_M_readGuards 8 172 2 [(0, .ref m), (1, .int w), (2, .int v)] [] (mk σ0 m x) K := by
  refine a_aload_n d_M_readGuards_2 rfl rfl ?_
  refine m_get d_M_readGuards_3 f_M_126 rfl ?_
  refine a_if_ne (tgt := 42) d_M_readGuards_6 (by decide) (fun n9 => absurd (h0) n9) (fun c_1 => ?_)
  refine a_aload_n d_M_readGuards_9 rfl rfl ?_
  refine m_get d_M_readGuards_10 f_M_149 rfl ?_
  refine a_if_ne (tgt := 42) d_M_readGuards_13 (by decide) (fun n9 => absurd (ht) n9) (fun c_2 => ?_)
  refine a_iload_n d_M_readGuards_16 rfl rfl ?_
  refine a_iconst (v := 4) d_M_readGuards_17 (by decide) ?_
  refine a_icmp_ne (tgt := 31) d_M_readGuards_18 (by decide) (fun c_3 => ?_) (fun n9 => absurd n9 (hv))
  refine a_aload_n d_M_readGuards_31 rfl rfl ?_
  refine a_iload_n d_M_readGuards_32 rfl rfl ?_
  apply a_callV (ci := 7) 7 149 [_] _ d_M_readGuards_33 l_M_290 ⟨im_M_readGuard, se_M_readGuard⟩ rfl rfl rfl rfl (Nat.le_of_ble_eq_true rfl) ⟨Nat.le_of_ble_eq_true rfl, Nat.le_of_ble_eq_true rfl⟩
  · (exact mk_O)
  refine sp_M_readGuard hx hf0 hs ho h4 hA hJ hNL hM hw (fun y hy hq => ?_)
  refine a_iinc (c0 := 1) d_M_readGuards_36 rfl (by decide) (by decide) ?_
  refine a_goto (tgt := 2) d_M_readGuards_39 (by decide) ?_
  exact a_lvk (hK y hy hq) ⟨rfl, rfl, rfl, trivial⟩

theorem lp_M_guards {w : Int32} : ∀ (k : Nat) (c : aN) {x : aX}, LKA n f (c.1 1 0) x → (c.1 2 0) = 0 → (c.1 0 0) = 9 → acm c + k = 5 → AI c → AJ n c → AL c → MGd c x → w = ccF (acl c) → (∀ y, PG x y → GQ n f c y → K none (mk σ0 m y)) → a_J G m_M_readGuards 8 172 2 [(0, .ref m), (1, .int w), (2, .int (nI (acm c)))] [] (mk σ0 m x) K
  | 0, c, x, hx, h0, hs, hk, hA, hJ, hL, hM, hw, hK => by
    have h5 : Q5c c 9 := by have := hA.2.2.2.2.1; unfold Q5 at this; rw [hs] at this; exact this
    unfold Q5c at h5
    exact absurd (acm_le hA (by omega)) (by omega)
  | k + 1, c, x, hx, h0, hs, hk, hA, hJ, hL, hM, hw, hK => by
    by_cases ho : lxK n f (c.1 1 0) = 1
    · by_cases h4 : acm c < 4
      · refine g_M_gsT (c := c) hx.2.2.1 ((tk_0 hx).mpr ho) (fun z => absurd ((nI_eq (b := 4) (by omega) (by decide)).mp z) (by omega)) hx h0 hs ho h4 hA hJ (NL_lt hA hL h0) hM hw (fun y hy hq => ?_)
        rw [nI_1]
        rcases hq with ⟨d, q1, q2, q3, q4, q5, q6, q7⟩ | ⟨q1, q2⟩
        · have hA2 := AI_Rc hA q1
          have ha := acm_s hA hA2 hs q3 q6 q7
          rw [← ha.1]
          refine lp_M_guards k d q4 q2 q3 (by omega) hA2 (AJ_Rc hx.hf.1 hx.hf.2 hJ q1) (AL_Rc hA hL q1) q5 (by rw [ha.2]; exact hw) (fun z hz hq => hK z (hy.trans hz) ?_)
          rcases hq with ⟨e, r1, r2, r3, r4, r5, r6, r7⟩ | ⟨r1, r2⟩
          · exact Or.inl ⟨e, q1.trans r1, r2, r3, r4, r5, r6, q6.trans r7⟩
          · exact Or.inr ⟨r1.of q1, r2⟩
        · exact g_M_gsB q1.ne (hK y hy (Or.inr ⟨q1, q2⟩))
      · have h5 : Q5c c 9 := by have := hA.2.2.2.2.1; unfold Q5 at this; rw [hs] at this; exact this
        unfold Q5c at h5
        have hle := acm_le hA (by omega)
        have e4 : acm c = 4 := by omega
        have hd : stT (tok n f (c.1 1 0)) c = wr (tok n f (c.1 1 0)) c := by
          rw [stT_9 (tok n f (c.1 1 0)) hs]; unfold a9
          rw [if_neg (fun z => h4 z.2)]
          by_cases hwy : (c.1 10 0) = 0
          · rw [if_pos hwy, if_neg (show ¬ (tok n f (c.1 1 0)).1 = 2 from fun z => absurd (ho.symm.trans z) (by decide))]
          · rw [if_neg hwy, if_neg (show ¬ fre (tok n f (c.1 1 0)) from fun z => absurd (ho.symm.trans z.1) (by decide))]
        rw [e4]
        refine g_M_gsF hx.2.2.1 ((tk_0 hx).mpr ho) ?_
        rw [← mu_2 hx (by rw [ho]; decide)]
        exact hK _ (PT.mu x).pg (Or.inr ⟨BAD_must hx h0 (by omega) hd, (PT.mu x).mx hx.1⟩)
    · exact g_M_gsE hx.2.2.1 (fun z => ho ((tk_0 hx).mp z)) (hK x PG.rf (Or.inl ⟨c, aRc.rf, h0, hs, hx, ho, hM, CG.rf⟩))
set_option maxHeartbeats 1000000 in
set_option maxRecDepth 100000 in
theorem sp_M_readGuards {w : Int32} (hx : LKA n f (c.1 1 0) x) (h0 : (c.1 2 0) = 0) (hs : (c.1 0 0) = 9) (hc : acm c = 0) (hA : AI c) (hJ : AJ n c) (hL : AL c) (hM : MGd c x) (hw : w = ccF (acl c)) (hK : ∀ y, PG x y → GQ n f c y → K none (mk σ0 m y)) : a_C G m_M_readGuards 8 172 [.ref m, .int w] (mk σ0 m x) K := by
  refine a_enter rfl (Nat.le_of_ble_eq_true rfl) ?_
  refine a_iconst (v := 0) d_M_readGuards_0 (by decide) ?_
  refine a_istore_n d_M_readGuards_1 rfl (by decide) ?_
  have := lp_M_guards (G := G) (σ0 := σ0) (m := m) (w := w) 5 c hx h0 hs (by omega) hA hJ hL hM hw hK
  rw [hc] at this
  exact a_lvk this ⟨rfl, rfl, rfl, trivial⟩

set_option maxHeartbeats 1000000 in
set_option maxRecDepth 100000 in
theorem sp_M_readGuardsB {w : Int32} (h0 : ¬ x.1 24 = 0) (hK : K none (mk σ0 m x)) : a_C G m_M_readGuards 8 172 [.ref m, .int w] (mk σ0 m x) K := by
  refine a_enter rfl (Nat.le_of_ble_eq_true rfl) ?_
  refine a_iconst (v := 0) d_M_readGuards_0 (by decide) ?_
  refine a_istore_n d_M_readGuards_1 rfl (by decide) ?_
  exact a_lvk (g_M_gsB (v := 0) h0 hK) ⟨rfl, rfl, rfl, trivial⟩

end ModM13
