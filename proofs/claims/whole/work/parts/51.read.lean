/-! READER: the reading loop against the machine -/
def FI (c : aN) : Prop := (c.1 0 0) ≤ 17 ∨ ¬ (c.1 2 0) = 0
theorem FI_gt {c : aN} (t : aK) {s : Nat} (h : s ≤ 17) : FI (gt t c s) := Or.inl h
theorem FI_wr {c : aN} (t : aK) : FI (wr t c) := Or.inr (by
  show ¬ (if t.1 = 5 then 1 else if t.1 = 0 then 3 else 2) = 0
  split
  · decide
  · split <;> decide)
theorem adc_FA2 (c : aN) (m : Nat) : (adc c m).1 2 0 = c.1 2 0 := by unfold adc; split <;> rfl
theorem adt_FA2 (c : aN) (v : Int32) : (adt c v).1 2 0 = c.1 2 0 := by unfold adt; split <;> rfl
/-- what a step does: on, wrong, or the end -/
def SR (t : aK) (c c' : aN) : Prop := (∃ (X : aN) (s : Nat), c' = gt t X s ∧ X.1 2 0 = c.1 2 0 ∧ 1 ≤ s ∧ s ≤ 17 ∧ ¬ t.1 = 0) ∨ c' = wr t c ∨ (c'.1 0 0 = 0 ∧ (c'.1 2 0 = 4 ∨ c'.1 2 0 = c.1 2 0))
theorem SR_a1 (t : aK) (c : aN) : SR t c (a1 t c) := by
  unfold a1
  split
  · split
    · exact Or.inr (Or.inr ⟨rfl, Or.inl rfl⟩)
    · exact Or.inr (Or.inr ⟨rfl, Or.inr rfl⟩)
  · split
    · rename_i hx
      exact Or.inl ⟨_, _, rfl, by first | rfl | exact adc_FA2 _ _ | exact adt_FA2 _ _, by omega, by omega, fun z => absurd ((hx.1).symm.trans z) (by decide)⟩
    · exact Or.inr (Or.inl rfl)
theorem SR_a2 (t : aK) (c : aN) : SR t c (a2 t c) := by
  unfold a2
  split
  · rename_i hx
    exact Or.inl ⟨_, _, rfl, by first | rfl | exact adc_FA2 _ _ | exact adt_FA2 _ _, by omega, by omega, fun z => absurd ((hx.1).symm.trans z) (by decide)⟩
  · skip
    split
    · rename_i hx
      exact Or.inl ⟨_, _, rfl, by first | rfl | exact adc_FA2 _ _ | exact adt_FA2 _ _, by omega, by omega, fun z => absurd ((hx.1.1).symm.trans z) (by decide)⟩
    · skip
      exact Or.inr (Or.inl rfl)
theorem SR_a3 (t : aK) (c : aN) : SR t c (a3 t c) := by
  unfold a3
  split
  · rename_i hx
    exact Or.inl ⟨_, _, rfl, by first | rfl | exact adc_FA2 _ _ | exact adt_FA2 _ _, by omega, by omega, fun z => absurd ((hx.1.1).symm.trans z) (by decide)⟩
  · skip
    exact Or.inr (Or.inl rfl)
theorem SR_a4 (t : aK) (c : aN) : SR t c (a4 t c) := by
  unfold a4
  split
  · rename_i hx
    exact Or.inl ⟨_, _, rfl, by first | rfl | exact adc_FA2 _ _ | exact adt_FA2 _ _, by omega, by omega, fun z => absurd ((hx.1).symm.trans z) (by decide)⟩
  · skip
    exact Or.inr (Or.inl rfl)
theorem SR_a5 (t : aK) (c : aN) : SR t c (a5 t c) := by
  unfold a5
  split
  · rename_i hx
    exact Or.inl ⟨_, _, rfl, by first | rfl | exact adc_FA2 _ _ | exact adt_FA2 _ _, by omega, by omega, fun z => absurd ((hx.1.1).symm.trans z) (by decide)⟩
  · skip
    exact Or.inr (Or.inl rfl)
theorem SR_a6 (t : aK) (c : aN) : SR t c (a6 t c) := by
  unfold a6
  by_cases hx : t.1 = 2
  · rw [if_pos hx]
    exact Or.inl ⟨_, _, rfl, rfl, by omega, by omega, fun z => absurd (hx.symm.trans z) (by decide)⟩
  · rw [if_neg hx]
    by_cases z2 : t.1 = 1 ∧ (if (c.1 10 0) = 0 then c.1 21 ((c.1 4 0) - 1) < 4 else c.1 22 ((c.1 6 0) - 1) < 8)
    · rw [if_pos z2]
      exact Or.inl ⟨_, _, rfl, rfl, by omega, by omega, fun z => absurd (z2.1.symm.trans z) (by decide)⟩
    · rw [if_neg z2]; exact Or.inr (Or.inl rfl)
theorem SR_a7 (t : aK) (c : aN) : SR t c (a7 t c) := by
  unfold a7
  split
  · split
    · rename_i hx
      exact Or.inl ⟨_, _, rfl, by first | rfl | exact adc_FA2 _ _ | exact adt_FA2 _ _, by omega, by omega, fun z => absurd ((hx.1).symm.trans z) (by decide)⟩
    · split
      · rename_i hx
        exact Or.inl ⟨_, _, rfl, by first | rfl | exact adc_FA2 _ _ | exact adt_FA2 _ _, by omega, by omega, fun z => absurd ((hx.1).symm.trans z) (by decide)⟩
      · exact Or.inr (Or.inl rfl)
  · split
    · rename_i hx
      exact Or.inl ⟨_, _, rfl, by first | rfl | exact adc_FA2 _ _ | exact adt_FA2 _ _, by omega, by omega, fun z => absurd ((hx.1).symm.trans z) (by decide)⟩
    · exact Or.inr (Or.inl rfl)
theorem SR_a8 (t : aK) (c : aN) : SR t c (a8 t c) := by
  unfold a8
  split
  · rename_i hx
    exact Or.inl ⟨_, _, rfl, by first | rfl | exact adc_FA2 _ _ | exact adt_FA2 _ _, by omega, by omega, fun z => absurd ((hx.1).symm.trans z) (by decide)⟩
  · skip
    split
    · rename_i hx
      exact Or.inl ⟨_, _, rfl, by first | rfl | exact adc_FA2 _ _ | exact adt_FA2 _ _, by omega, by omega, fun z => absurd ((hx.1).symm.trans z) (by decide)⟩
    · skip
      exact Or.inr (Or.inl rfl)
theorem SR_a9 (t : aK) (c : aN) : SR t c (a9 t c) := by
  unfold a9
  split
  · rename_i hx
    exact Or.inl ⟨_, _, rfl, by first | rfl | exact adc_FA2 _ _ | exact adt_FA2 _ _, by omega, by omega, fun z => absurd ((hx.1).symm.trans z) (by decide)⟩
  · split
    · split
      · rename_i hx
        exact Or.inl ⟨_, _, rfl, by first | rfl | exact adc_FA2 _ _ | exact adt_FA2 _ _, by omega, by omega, fun z => absurd ((hx).symm.trans z) (by decide)⟩
      · exact Or.inr (Or.inl rfl)
    · split
      · rename_i hx
        exact Or.inl ⟨_, _, rfl, by first | rfl | exact adc_FA2 _ _ | exact adt_FA2 _ _, by omega, by omega, fun z => absurd ((hx.1).symm.trans z) (by decide)⟩
      · exact Or.inr (Or.inl rfl)
theorem SR_a10 (t : aK) (c : aN) : SR t c (a10 t c) := by
  unfold a10
  split
  · rename_i hx
    exact Or.inl ⟨_, _, rfl, by first | rfl | exact adc_FA2 _ _ | exact adt_FA2 _ _, by omega, by omega, fun z => absurd ((hx).symm.trans z) (by decide)⟩
  · skip
    exact Or.inr (Or.inl rfl)
theorem SR_a11 (t : aK) (c : aN) : SR t c (a11 t c) := by
  unfold a11
  split
  · rename_i hx
    exact Or.inl ⟨_, _, rfl, by first | rfl | exact adc_FA2 _ _ | exact adt_FA2 _ _, by omega, by omega, fun z => absurd ((hx.1).symm.trans z) (by decide)⟩
  · skip
    split
    · rename_i hx
      exact Or.inl ⟨_, _, rfl, by first | rfl | exact adc_FA2 _ _ | exact adt_FA2 _ _, by omega, by omega, fun z => absurd ((hx.1).symm.trans z) (by decide)⟩
    · skip
      split
      · rename_i hx
        exact Or.inl ⟨_, _, rfl, by first | rfl | exact adc_FA2 _ _ | exact adt_FA2 _ _, by omega, by omega, fun z => absurd ((hx.1).symm.trans z) (by decide)⟩
      · skip
        exact Or.inr (Or.inl rfl)
theorem SR_a12 (t : aK) (c : aN) : SR t c (a12 t c) := by
  unfold a12
  split
  · rename_i hx
    exact Or.inl ⟨_, _, rfl, by first | rfl | exact adc_FA2 _ _ | exact adt_FA2 _ _, by omega, by omega, fun z => absurd ((hx).symm.trans z) (by decide)⟩
  · skip
    exact Or.inr (Or.inl rfl)
theorem SR_a13 (t : aK) (c : aN) : SR t c (a13 t c) := by
  unfold a13
  split
  · rename_i hx
    exact Or.inl ⟨_, _, rfl, by first | rfl | exact adc_FA2 _ _ | exact adt_FA2 _ _, by omega, by omega, fun z => absurd ((hx.1).symm.trans z) (by decide)⟩
  · skip
    exact Or.inr (Or.inl rfl)
theorem SR_a14 (t : aK) (c : aN) : SR t c (a14 t c) := by
  unfold a14
  split
  · rename_i hx
    exact Or.inl ⟨_, _, rfl, by first | rfl | exact adc_FA2 _ _ | exact adt_FA2 _ _, by omega, by omega, fun z => absurd ((hx.1).symm.trans z) (by decide)⟩
  · skip
    exact Or.inr (Or.inl rfl)
theorem SR_a15 (t : aK) (c : aN) : SR t c (a15 t c) := by
  unfold a15
  split
  · rename_i hx
    exact Or.inl ⟨_, _, rfl, by first | rfl | exact adc_FA2 _ _ | exact adt_FA2 _ _, by omega, by omega, fun z => absurd ((hx.1).symm.trans z) (by decide)⟩
  · skip
    split
    · rename_i hx
      exact Or.inl ⟨_, _, rfl, by first | rfl | exact adc_FA2 _ _ | exact adt_FA2 _ _, by omega, by omega, fun z => absurd ((hx.1).symm.trans z) (by decide)⟩
    · skip
      split
      · rename_i hx
        exact Or.inl ⟨_, _, rfl, by first | rfl | exact adc_FA2 _ _ | exact adt_FA2 _ _, by omega, by omega, fun z => absurd ((hx.1).symm.trans z) (by decide)⟩
      · skip
        exact Or.inr (Or.inl rfl)
theorem SR_a16 (t : aK) (c : aN) : SR t c (a16 t c) := by
  unfold a16
  split
  · rename_i hx
    exact Or.inl ⟨_, _, rfl, by first | rfl | exact adc_FA2 _ _ | exact adt_FA2 _ _, by omega, by omega, fun z => absurd ((hx).symm.trans z) (by decide)⟩
  · skip
    exact Or.inr (Or.inl rfl)
theorem SR_a17 (t : aK) (c : aN) : SR t c (a17 t c) := by
  unfold a17
  split
  · rename_i hx
    exact Or.inl ⟨_, _, rfl, rfl, by split <;> omega, by split <;> omega, fun z => absurd (hx.symm.trans z) (by decide)⟩
  · exact Or.inr (Or.inl rfl)
theorem SR_stT {c : aN} (t : aK) (h : (c.1 0 0) ≤ 17) (h0 : ¬ (c.1 0 0) = 0) : SR t c (stT t c) := by
  by_cases e1 : (c.1 0 0) = 1
  · rw [stT_1 t e1]; exact SR_a1 t c
  by_cases e2 : (c.1 0 0) = 2
  · rw [stT_2 t e2]; exact SR_a2 t c
  by_cases e3 : (c.1 0 0) = 3
  · rw [stT_3 t e3]; exact SR_a3 t c
  by_cases e4 : (c.1 0 0) = 4
  · rw [stT_4 t e4]; exact SR_a4 t c
  by_cases e5 : (c.1 0 0) = 5
  · rw [stT_5 t e5]; exact SR_a5 t c
  by_cases e6 : (c.1 0 0) = 6
  · rw [stT_6 t e6]; exact SR_a6 t c
  by_cases e7 : (c.1 0 0) = 7
  · rw [stT_7 t e7]; exact SR_a7 t c
  by_cases e8 : (c.1 0 0) = 8
  · rw [stT_8 t e8]; exact SR_a8 t c
  by_cases e9 : (c.1 0 0) = 9
  · rw [stT_9 t e9]; exact SR_a9 t c
  by_cases e10 : (c.1 0 0) = 10
  · rw [stT_10 t e10]; exact SR_a10 t c
  by_cases e11 : (c.1 0 0) = 11
  · rw [stT_11 t e11]; exact SR_a11 t c
  by_cases e12 : (c.1 0 0) = 12
  · rw [stT_12 t e12]; exact SR_a12 t c
  by_cases e13 : (c.1 0 0) = 13
  · rw [stT_13 t e13]; exact SR_a13 t c
  by_cases e14 : (c.1 0 0) = 14
  · rw [stT_14 t e14]; exact SR_a14 t c
  by_cases e15 : (c.1 0 0) = 15
  · rw [stT_15 t e15]; exact SR_a15 t c
  by_cases e16 : (c.1 0 0) = 16
  · rw [stT_16 t e16]; exact SR_a16 t c
  by_cases e17 : (c.1 0 0) = 17
  · rw [stT_17 t e17]; exact SR_a17 t c
  omega
section ModR6
variable {G : aG} {σ0 τ : aS} {K : Option Value → aS → Prop} {r b p cap n : Nat} {f : Nat → Nat} {k k' : aT} {q q' : aP} {rf rf' tp tp' gp gp' : Nat → Int32} {c : aN}
set_option maxHeartbeats 1000000 in
theorem sp_R_takeA (hd : b + 2 ≤ p ∧ p + 11 ≤ r) (hB : BY σ0 b cap n f) (hn : n < 65536) (hf : ∀ k, k < n → f k < 256) (hA : AI c) (hJ : AJ n c) (hR : RCl c q rf tp gp) (h0 : (c.1 2 0) = 0) (hs0 : ¬ (c.1 0 0) = 0) (hFI : FI c) (hk : TKR n f (c.1 1 0) k) (hK : ∀ y : Int32 × aP × (Nat → Int32) × (Nat → Int32) × (Nat → Int32), RY (tok n f (c.1 1 0)) c (stT (tok n f (c.1 1 0)) c) y → K (some (.int y.1)) (rs σ0 r b p k y.2.1 y.2.2.1 y.2.2.2.1 y.2.2.2.2)) : a_C G m_R_take 7 151 [.ref r, .int (nI (c.1 0 0))] (rs σ0 r b p k q rf tp gp) K := by
  have hq : PI q := hR.1.1
  have hST : (c.1 0 0) ≤ 17 := hFI.resolve_right (fun e => e h0)
  have hQ : Q5c c (c.1 0 0) := hA.2.2.2.2.1
  have hRA := hR.1
  have hRR := hR.2.2.2
  have g6 := hA.1.1
  have g24 := hA.1.2.1
  have eNC : q.1.1 = (c.1 4 0) := by rw [hRA.2.1]
  have eNN : q.1.2.1 = (c.1 6 0) := by rw [hRA.2.1]
  by_cases e1 : (c.1 0 0) = 1
  · rw [e1] at hQ hRR; unfold Q5c at hQ; rw [e1]
    exact sp_R_take_1 hd hB hq (hK _ (sim_1 hn hf hA hJ hR h0 e1 hk))
  by_cases e2 : (c.1 0 0) = 2
  · rw [e2] at hQ hRR; unfold Q5c at hQ; rw [e2]
    exact sp_R_take_2 hd hB hq (hK _ (sim_2 hn hf hA hJ hR h0 e2 hk))
  by_cases e3 : (c.1 0 0) = 3
  · rw [e3] at hQ hRR; unfold Q5c at hQ; rw [e3]
    exact sp_R_take_3 (cah_0 hRA (by omega)) hd hB hq (hK _ (sim_3 hn hf hA hJ hR h0 e3 hk))
  by_cases e4 : (c.1 0 0) = 4
  · rw [e4] at hQ hRR; unfold Q5c at hQ; rw [e4]
    have hr : ¬ hrow q 0 (nI q.1.1 - 1) = -1 := by
      rw [show q.1.1 = ((c.1 4 0) - 1) + 1 by omega, nI_pred, hrow_c hq (by omega)]; exact nI_m1 (by omega)
    exact sp_R_take_4 hr hd hB hq (hK _ (sim_4 hn hf hA hJ hR h0 e4 hk))
  by_cases e5 : (c.1 0 0) = 5
  · rw [e5] at hQ hRR; unfold Q5c at hQ; rw [e5]
    exact sp_R_take_5 (cah_1 hRA (by omega)) hd hB hq (hK _ (sim_5 hn hf hA hJ hR h0 e5 hk))
  by_cases e6 : (c.1 0 0) = 6
  · rw [e6] at hQ hRR; unfold Q5c at hQ; rw [e6]
    exact sp_R_take_6 hd hB hq (hK _ (sim_6 hn hf hA hJ hR h0 e6 hk))
  by_cases e7 : (c.1 0 0) = 7
  · rw [e7] at hQ hRR; unfold Q5c at hQ; rw [e7]
    exact sp_R_take_7 hd hB hq (hK _ (sim_7 hn hf hA hJ hR h0 e7 hk))
  by_cases e8 : (c.1 0 0) = 8
  · rw [e8] at hQ hRR; unfold Q5c at hQ; rw [e8]
    have h6 : rf 6 = nI (c.1 10 0) := hRR.2.2.2.1 (by omega)
    by_cases hw : (c.1 10 0) = 0
    · have hc := hRA.2.2.1 ((c.1 4 0) - 1) (by omega)
      exact sp_R_take_80 (kk := (c.1 4 0) - 1) (c := c.1 21 ((c.1 4 0) - 1)) (by rw [h6, hw]; rfl) (by omega) hc.2.2.2 (by omega) hd hB hq (hK _ (sim_80 hn hf hA hJ hR h0 e8 hk hw (by omega) rfl))
    · have hc := hRA.2.2.2.1 ((c.1 6 0) - 1) (by omega)
      exact sp_R_take_81 (kk := (c.1 6 0) - 1) (c := c.1 22 ((c.1 6 0) - 1)) (by rw [h6]; exact nI_ne0 (by omega) (by omega)) (by omega) hc.2 (by omega) hd hB hq (hK _ (sim_81 hn hf hA hJ hR h0 e8 hk hw (by omega) rfl))
  by_cases e9 : (c.1 0 0) = 9
  · rw [e9] at hQ hRR; unfold Q5c at hQ; rw [e9]
    have hi : ((c.1 10 0) = 0 → 1 ≤ (c.1 5 0)) ∧ (¬ (c.1 10 0) = 0 → 1 ≤ (c.1 7 0)) := by omega
    have h7 : rf 7 = nI (crw c) := hRR.2.2.2.2.1 (by omega)
    exact sp_R_take_9 h7 (crw_lt hA hi) hd hB hq (hK _ (sim_9 hn hf hA hJ hR h0 e9 hk))
  by_cases e10 : (c.1 0 0) = 10
  · rw [e10] at hQ hRR; unfold Q5c at hQ; rw [e10]
    exact sp_R_take_10 hd hB hq (hK _ (sim_10 hn hf hA hJ hR h0 e10 hk))
  by_cases e11 : (c.1 0 0) = 11
  · rw [e11] at hQ hRR; unfold Q5c at hQ; rw [e11]
    exact sp_R_take_11 hd hB hq (hK _ (sim_11 hn hf hA hJ hR h0 e11 hk))
  by_cases e12 : (c.1 0 0) = 12
  · rw [e12] at hQ hRR; unfold Q5c at hQ; rw [e12]
    exact sp_R_take_12 hd hB hq (hK _ (sim_12 hn hf hA hJ hR h0 e12 hk))
  by_cases e13 : (c.1 0 0) = 13
  · rw [e13] at hQ hRR; unfold Q5c at hQ; rw [e13]
    exact sp_R_take_13 hd hB hq (hK _ (sim_13 hn hf hA hJ hR h0 e13 hk))
  by_cases e14 : (c.1 0 0) = 14
  · rw [e14] at hQ hRR; unfold Q5c at hQ; rw [e14]
    exact sp_R_take_14 hd hB hq (hK _ (sim_14 hn hf hA hJ hR h0 e14 hk))
  by_cases e15 : (c.1 0 0) = 15
  · rw [e15] at hQ hRR; unfold Q5c at hQ; rw [e15]
    exact sp_R_take_15 hd hB hq (hK _ (sim_15 hn hf hA hJ hR h0 e15 hk))
  by_cases e16 : (c.1 0 0) = 16
  · rw [e16] at hQ hRR; unfold Q5c at hQ; rw [e16]
    have hi : ((c.1 10 0) = 0 → 1 ≤ (c.1 5 0)) ∧ (¬ (c.1 10 0) = 0 → 1 ≤ (c.1 7 0)) := by omega
    have h7 : rf 7 = nI (crw c) := hRR.2.2.2.2.1 (by omega)
    exact sp_R_take_16 h7 (crw_lt hA hi) (cm_e hRA hi) (by omega) hd hB hq (hK _ (sim_16 hn hf hA hJ hR h0 e16 hk))
  by_cases e17 : (c.1 0 0) = 17
  · rw [e17] at hQ hRR; unfold Q5c at hQ; rw [e17]
    exact sp_R_take_17 hd hB hq (hK _ (sim_17 hn hf hA hJ hR h0 e17 hk))
  exact absurd hST (by omega)
/-- at the loop's end -/
def RX (c : aN) (q : aP) (rf tp gp : Nat → Int32) : Prop := (¬ (c.1 2 0) = 0 ∧ PI q ∧ RV tp gp ∧ rf 4 = nI (c.1 2 0) ∧ rf 5 = nI (c.1 3 0)) ∨ ((c.1 2 0) = 0 ∧ (c.1 0 0) = 0 ∧ RCl c q rf tp gp)
set_option maxHeartbeats 400000 in
set_option maxRecDepth 100000 in
theorem lp_R_stop {sv iv : Int32} (h : sv = 0 ∨ ¬ rf 4 = 0) (hJ : a_J G m_R_readInto 8 172 66 [(0, .ref r)] [] (rs σ0 r b p k q rf tp gp) K) : a_J G m_R_readInto 8 172 9 [(0, .ref r), (2, .int sv), (3, .int iv)] [] (rs σ0 r b p k q rf tp gp) K := by
  refine a_iload_n d_R_readInto_9 rfl rfl ?_
  refine a_sipush (v := 4096) d_R_readInto_10 (by decide) ?_
  refine a_icmp_gt (tgt := 66) d_R_readInto_13 (by decide) (fun c_1 => ?_) (fun c_1 => ?_)
  · exact a_lvk hJ ⟨rfl, trivial⟩
  · refine a_iload_n d_R_readInto_16 rfl rfl ?_
    refine a_if_eq (tgt := 66) d_R_readInto_17 (by decide) (fun c_2 => ?_) (fun c_2 => ?_)
    · exact a_lvk hJ ⟨rfl, trivial⟩
    · refine a_aload_n d_R_readInto_20 rfl rfl ?_
      apply a_getfield d_R_readInto_21 f_R_33
      · first | exact rsR | exact rsT | exact rsTp | exact rsGp | exact rsP0 hd.2
      · rfl
      refine a_if_ne (tgt := 66) d_R_readInto_24 (by decide) (fun c_3 => ?_) (fun c_3 => ?_)
      · exact a_lvk hJ ⟨rfl, trivial⟩
      · exact absurd h (fun z => z.elim (by assumption) (fun g => g (by assumption)))

set_option maxHeartbeats 400000 in
set_option maxRecDepth 100000 in
theorem lp_R_read (hd : b + 2 ≤ p ∧ p + 11 ≤ r) (hB : BY σ0 b cap n f) (hcap : n ≤ 4096) (hJ : (∀ (c : aN) (k : aT) (q : aP) (rf tp gp : Nat → Int32), AI c → AJ n c → aRc n f aC0 c → aStop c → RX c q rf tp gp → a_J G m_R_readInto 8 172 66 [(0, .ref r)] [] (rs σ0 r b p k q rf tp gp) K)) : ∀ (m i : Nat) (c : aN) (k : aT) (q : aP) (rf tp gp : Nat → Int32), i + m = 4097 → AI c → AJ n c → FI c → aRc n f aC0 c → k.1 = (c.1 1 0) → RCl c q rf tp gp → (c.1 2 0) = 0 → ¬ (c.1 0 0) = 0 → i ≤ (c.1 1 0) → a_J G m_R_readInto 8 172 9 [(0, .ref r), (2, .int (nI (c.1 0 0))), (3, .int (nI i))] [] (rs σ0 r b p k q rf tp gp) K := by
  intro m
  induction m with
  | zero =>
    intro i c k q rf tp gp him hA hAJ hFI hRc hka hR h0 hs0 hi
    have := hAJ.1.1
    omega
  | succ m ih =>
    intro i c k q rf tp gp him hA hAJ hFI hRc hka hR h0 hs0 hi
    have hn : n < 65536 := by omega
    have hf : ∀ k, k < n → f k < 256 := fun k hk => hB.lt hk
    have ha : (c.1 1 0) ≤ n := hAJ.1.1
    have hle := lx_le n f ha
    have hkn : k.1 ≤ n := by omega
    have hST : (c.1 0 0) ≤ 17 := hFI.resolve_right (fun e => e h0)
    have e4 : rf 4 = 0 := by rw [hR.2.2.2.1, h0]; rfl
    refine a_iload_n d_R_readInto_9 rfl rfl ?_
    refine a_sipush (v := 4096) d_R_readInto_10 (by decide) ?_
    refine a_icmp_gt (tgt := 66) d_R_readInto_13 (by decide) (fun n9 => absurd n9 (nI_nlt (a := 4096) (by omega) (by decide))) (fun c_1 => ?_)
    refine a_iload_n d_R_readInto_16 rfl rfl ?_
    refine a_if_eq (tgt := 66) d_R_readInto_17 (by decide) (fun n9 => absurd n9 (nI_ne0 (by omega) (by omega))) (fun c_2 => ?_)
    refine a_aload_n d_R_readInto_20 rfl rfl ?_
    apply a_getfield d_R_readInto_21 f_R_33
    · first | exact rsR | exact rsT | exact rsTp | exact rsGp | exact rsP0 hd.2
    · rfl
    refine a_if_ne (tgt := 66) d_R_readInto_24 (by decide) (fun n9 => absurd (e4) n9) (fun c_3 => ?_)
    refine a_aload_n d_R_readInto_27 rfl rfl ?_
    apply a_getfield d_R_readInto_28 f_R_14
    · first | exact rsR | exact rsT | exact rsTp | exact rsGp | exact rsP0 hd.2
    · rfl
    apply a_callV (ci := 5) 4 86 [] _ d_R_readInto_31 l_R_47 ⟨im_T_advance, se_T_advance⟩ rfl rfl rfl rfl (Nat.le_of_ble_eq_true rfl) ⟨Nat.le_of_ble_eq_true rfl, Nat.le_of_ble_eq_true rfl⟩
    · (first | exact rsR | exact rsT | exact rsTp | exact rsGp | exact rsP0 hd.2)
    refine sp_T_advance (rsB hd.2 hd.1 hB) rsT (by omega) hkn (fun τ nm nu hf2 hT2 hnm hnu => ?_)
    obtain rfl := rs_T hf2 hT2
    rw [hka]
    have hTK : TKR n f (c.1 1 0) (lxE n f (c.1 1 0), lxK n f (c.1 1 0), lxP n f (c.1 1 0), nm, nu) := ⟨nm, nu, rfl, fun e => by have := hnm (by rw [hka]; exact e); rw [hka] at this; rw [this]; exact nm32_e hn hf (by omega), fun e => by obtain ⟨x, hx⟩ := lx_4 e; have := hnu x (by rw [hka]; exact e) (by rw [hka]; exact hx); rw [hka] at this; rw [this]; unfold tkV; rw [hx]⟩
    refine a_aload_n d_R_readInto_34 rfl rfl ?_
    refine a_iload_n d_R_readInto_35 rfl rfl ?_
    apply a_callV (ci := 4) 7 151 [_] _ d_R_readInto_36 l_R_50 ⟨im_R_take, se_R_take⟩ rfl rfl rfl rfl (Nat.le_of_ble_eq_true rfl) ⟨Nat.le_of_ble_eq_true rfl, Nat.le_of_ble_eq_true rfl⟩
    · (first | exact rsR | exact rsT | exact rsTp | exact rsGp | exact rsP0 hd.2)
    refine sp_R_takeA hd hB hn hf hA hAJ hR h0 hs0 hFI hTK (fun y hY => ?_)
    refine a_istore_n d_R_readInto_39 rfl (by decide) ?_
    have estp : stp n f c = stT (tok n f (c.1 1 0)) c := by unfold stp; rw [if_pos ⟨h0, hs0⟩]
    have hRc' : aRc n f aC0 (stT (tok n f (c.1 1 0)) c) := estp ▸ hRc.step
    have hA' : AI (stT (tok n f (c.1 1 0)) c) := AI_stT _ hA
    have hAJ' : AJ n (stT (tok n f (c.1 1 0)) c) := AJ_stT _ hAJ (TF_tok hn hf hAJ)
    have hSR := SR_stT (c := c) (tok n f (c.1 1 0)) hST hs0
    rcases id hY with ⟨hy1, hyc, hyP, hyV⟩ | ⟨hy1, hyR⟩
    · have eft : ftF (lxE n f (c.1 1 0), lxK n f (c.1 1 0), lxP n f (c.1 1 0), nm, nu) = nI ((wr (tok n f (c.1 1 0)) c).1 2 0) := by
        show ftF (lxE n f (c.1 1 0), lxK n f (c.1 1 0), lxP n f (c.1 1 0), nm, nu) = nI (if lxK n f (c.1 1 0) = 5 then 1 else if lxK n f (c.1 1 0) = 0 then 3 else 2)
        unfold ftF
        by_cases z5 : lxK n f (c.1 1 0) = 5
        · rw [if_neg (ik1 z5), if_pos z5]; rfl
        · rw [if_pos (ik0 z5), if_neg z5]
          by_cases z0 : lxK n f (c.1 1 0) = 0
          · rw [if_neg (ik1 z0), if_pos z0]; rfl
          · rw [if_pos (ik0 z0), if_neg z0]; rfl
      have hnz : ¬ (wr (tok n f (c.1 1 0)) c).1 2 0 = 0 := (FI_wr (c := c) (tok n f (c.1 1 0))).resolve_left (by show ¬ 99 ≤ 17; decide)
      have hsm : (wr (tok n f (c.1 1 0)) c).1 2 0 < 4 := by
        show (if lxK n f (c.1 1 0) = 5 then 1 else if lxK n f (c.1 1 0) = 0 then 3 else 2) < 4
        split
        · decide
        · split <;> decide
      refine a_iload_n d_R_readInto_40 rfl rfl ?_
      refine a_iconst (v := (-1)) d_R_readInto_41 (by decide) ?_
      refine a_icmp_ne (tgt := 60) d_R_readInto_42 (by decide) (fun n9 => absurd (hy1) n9) (fun c_1 => ?_)
      refine a_aload_n d_R_readInto_45 rfl rfl ?_
      refine a_aload_n d_R_readInto_46 rfl rfl ?_
      apply a_callV (ci := 4) 1 21 [] _ d_R_readInto_47 l_R_54 ⟨im_R_faultOfToken, se_R_faultOfToken⟩ rfl rfl rfl rfl (Nat.le_of_ble_eq_true rfl) ⟨Nat.le_of_ble_eq_true rfl, Nat.le_of_ble_eq_true rfl⟩
      · (first | exact rsR | exact rsT | exact rsTp | exact rsGp | exact rsP0 hd.2)
      refine sp_R_faultOfToken (rsO hd.2) rsT ?_
      refine a_aload_n d_R_readInto_50 rfl rfl ?_
      apply a_getfield d_R_readInto_51 f_R_14
      · first | exact rsR | exact rsT | exact rsTp | exact rsGp | exact rsP0 hd.2
      · rfl
      apply a_callV (ci := 5) 0 0 [] _ d_R_readInto_54 l_R_58 ⟨im_T_place, se_T_place⟩ rfl rfl rfl rfl (Nat.le_of_ble_eq_true rfl) ⟨Nat.le_of_ble_eq_true rfl, Nat.le_of_ble_eq_true rfl⟩
      · (first | exact rsR | exact rsT | exact rsTp | exact rsGp | exact rsP0 hd.2)
      refine sp_T_place rsT ?_
      apply a_callV (ci := 4) 0 0 [_, _] _ d_R_readInto_57 l_R_60 ⟨im_R_fail, se_R_fail⟩ rfl rfl rfl rfl (Nat.le_of_ble_eq_true rfl) ⟨Nat.le_of_ble_eq_true rfl, Nat.le_of_ble_eq_true rfl⟩
      · (first | exact rsR | exact rsT | exact rsTp | exact rsGp | exact rsP0 hd.2)
      refine sp_R_failS ?_
      refine a_iinc (c0 := 1) d_R_readInto_60 rfl (by decide) (by decide) ?_
      refine a_goto (tgt := 9) d_R_readInto_63 (by decide) ?_
      refine a_lvk (l := [(0, .ref r), (2, .int y.1), (3, .int (nI i + 1))]) (lp_R_stop (Or.inr ?_) ?_) ⟨rfl, rfl, rfl, trivial⟩
      · show ¬ ftF _ = 0
        rw [eft]; exact nI_ne0 (by omega) (by omega)
      · refine hJ _ _ _ _ _ _ hA' hAJ' hRc' (Or.inl ?_) (Or.inl ⟨?_, hyP, hyV, ?_, ?_⟩)
        · rw [hyc]; exact hnz
        · rw [hyc]; exact hnz
        · rw [hyc]; exact eft
        · rw [hyc]; rfl
    · have hbad : (stT (tok n f (c.1 1 0)) c).1 2 0 ≤ 4 ∧ (stT (tok n f (c.1 1 0)) c).1 0 0 < 100 := by
        rcases hSR with ⟨X, s, e1, e2, e3, e4, e5⟩ | e | ⟨e1, e2⟩
        · rw [e1]; exact ⟨by show X.1 2 0 ≤ 4; omega, by show s < 100; omega⟩
        · rw [e]; exact ⟨by show (if lxK n f (c.1 1 0) = 5 then 1 else if lxK n f (c.1 1 0) = 0 then 3 else 2) ≤ 4; split; decide; split <;> decide, by show 99 < 100; decide⟩
        · omega
      have hyn : ¬ y.1 = -1 := by rw [hy1]; exact nI_m1 (by omega)
      have hat : (stT (tok n f (c.1 1 0)) c).1 2 0 = 0 → ¬ (stT (tok n f (c.1 1 0)) c).1 0 0 = 0 → lxE n f (c.1 1 0) = (stT (tok n f (c.1 1 0)) c).1 1 0 := by
        intro z1 z2
        rcases hSR with ⟨X, s, e1, e2, e3, e4, e5⟩ | e | ⟨e1, e2⟩
        · rw [e1]; rfl
        · rw [e] at z1; exact absurd z1 ((FI_wr (c := c) (tok n f (c.1 1 0))).resolve_left (by show ¬ 99 ≤ 17; decide))
        · exact absurd e1 z2
      have hadv : (stT (tok n f (c.1 1 0)) c).1 2 0 = 0 → ¬ (stT (tok n f (c.1 1 0)) c).1 0 0 = 0 → (c.1 1 0) < lxE n f (c.1 1 0) := by
        intro z1 z2
        rcases hSR with ⟨X, s, e1, e2, e3, e4, e5⟩ | e | ⟨e1, e2⟩
        · exact lx_0 ha e5
        · rw [e] at z1; exact absurd z1 ((FI_wr (c := c) (tok n f (c.1 1 0))).resolve_left (by show ¬ 99 ≤ 17; decide))
        · exact absurd e1 z2
      have hFI' : FI (stT (tok n f (c.1 1 0)) c) := by
        rcases hSR with ⟨X, s, e1, e2, e3, e4, e5⟩ | e | ⟨e1, e2⟩
        · rw [e1]; exact FI_gt _ e4
        · rw [e]; exact FI_wr _
        · exact Or.inl (by omega)
      refine a_iload_n d_R_readInto_40 rfl rfl ?_
      refine a_iconst (v := (-1)) d_R_readInto_41 (by decide) ?_
      refine a_icmp_ne (tgt := 60) d_R_readInto_42 (by decide) (fun c_1 => ?_) (fun n9 => absurd n9 (hyn))
      refine a_iinc (c0 := 1) d_R_readInto_60 rfl (by decide) (by decide) ?_
      refine a_goto (tgt := 9) d_R_readInto_63 (by decide) ?_
      rw [hy1, nI_1]
      by_cases hstop : aStop (stT (tok n f (c.1 1 0)) c)
      · refine a_lvk (l := [(0, .ref r), (2, .int (nI ((stT (tok n f (c.1 1 0)) c).1 0 0))), (3, .int (nI (i + 1)))]) (lp_R_stop ?_ ?_) ⟨rfl, rfl, rfl, trivial⟩
        · rcases hstop with z | z
          · right
            rw [hyR.2.2.2.1]
            exact nI_ne0 (by omega) (by omega)
          · left; rw [z]; rfl
        · refine hJ _ _ _ _ _ _ hA' hAJ' hRc' hstop ?_
          by_cases z : (stT (tok n f (c.1 1 0)) c).1 2 0 = 0
          · exact Or.inr ⟨z, hstop.resolve_left (fun e => e z), hyR⟩
          · exact Or.inl ⟨z, hyR.1.1, hyR.2.2.1, hyR.2.2.2.1, hyR.2.2.2.2.2.1 z⟩
      · have z1 : (stT (tok n f (c.1 1 0)) c).1 2 0 = 0 := Decidable.byContradiction fun e => hstop (Or.inl e)
        have z2 : ¬ (stT (tok n f (c.1 1 0)) c).1 0 0 = 0 := fun e => hstop (Or.inr e)
        refine a_lvk (l := [(0, .ref r), (2, .int (nI ((stT (tok n f (c.1 1 0)) c).1 0 0))), (3, .int (nI (i + 1)))]) ?_ ⟨rfl, rfl, rfl, trivial⟩
        exact ih (i + 1) _ _ _ _ _ _ (by omega) hA' hAJ' hFI' hRc' (hat z1 z2) hyR z1 z2 (by have := hat z1 z2; have h3 := hadv z1 z2; omega)

end ModR6
