/-! Where they stand, behind the steps that build -/
theorem AL_a3 {c : aN} (t : aK) (h : AI c) (hL : AL c) (h0 : (c.1 2 0) = 0) (hs : (c.1 0 0) = 3) : AL (a3 t c) := by
  obtain ⟨l1, l2, l3⟩ := id hL
  have l3 : E3c c 3 := by have := l3 h0; unfold E3 at this; rw [hs] at this; exact this
  have h5 : Q5c c 3 := by have := h.2.2.2.2.1; unfold Q5 at this; rw [hs] at this; exact this
  unfold Q5c at h5
  unfold a3
  split
  · skip
    have es : ∀ k, k ≤ (c.1 4 0) → aSum ((ahc c t.2.2.2.1).1 21) k = aSum (c.1 21) k := fun k hk => aSum_c k fun j hj => by
      show (if j = (c.1 4 0) then 0 else c.1 21 j) = c.1 21 j
      rw [if_neg (by omega)]
    have ef : fin (ahc c t.2.2.2.1) 4 = fin c 3 := by
      unfold fin
      rw [show (ahc c t.2.2.2.1).1 10 0 = 0 from rfl, show (ahc c t.2.2.2.1).1 7 0 = (c.1 7 0) from rfl]
      simp
    refine AL_gt t 4 ⟨fun r hr => by
        have g1 := l1.1 r hr
        have g2 := (h.2.1 r hr).1
        show r = aSum ((ahc c t.2.2.2.1).1 21) (c.1 23 (r)) + c.1 24 (r)
        rw [es _ (by omega)]; exact g1, by
        show aSum ((ahc c t.2.2.2.1).1 21) ((c.1 4 0) + 1) = (c.1 5 0)
        rw [aSum, es _ (Nat.le_refl _)]
        show aSum (c.1 21) (c.1 4 0) + (if (c.1 4 0) = (c.1 4 0) then 0 else c.1 21 (c.1 4 0)) = (c.1 5 0)
        rw [if_pos rfl]; exact l1.2.1, l1.2.2.1, l1.2.2.2⟩ l2 ⟨?_, l3.2.1, l3.2.2.1, ?_, fun e => absurd e (by omega)⟩
    · rw [ef]; have := l3.1; simp at this; show (c.1 9 0) = (c.1 8 0) + fin c 3 + (if 4 = 15 ∨ 4 = 16 then 1 else 0); simp; omega
    · rw [ef]; exact l3.2.2.2.1
  · exact AL_wr t hL
theorem AL_a5 {c : aN} (t : aK) (h : AI c) (hL : AL c) (h0 : (c.1 2 0) = 0) (hs : (c.1 0 0) = 5) : AL (a5 t c) := by
  obtain ⟨l1, l2, l3⟩ := id hL
  have l3 : E3c c 5 := by have := l3 h0; unfold E3 at this; rw [hs] at this; exact this
  have h5 : Q5c c 5 := by have := h.2.2.2.2.1; unfold Q5 at this; rw [hs] at this; exact this
  unfold Q5c at h5
  unfold a5
  split
  · skip
    have es : ∀ k, k ≤ (c.1 6 0) → aSum ((ahn c t.2.2.2.1).1 22) k = aSum (c.1 22) k := fun k hk => aSum_c k fun j hj => by
      show (if j = (c.1 6 0) then 0 else c.1 22 j) = c.1 22 j
      rw [if_neg (by omega)]
    have ef : fin (ahn c t.2.2.2.1) 6 = fin c 5 := by
      unfold fin
      rw [show (ahn c t.2.2.2.1).1 10 0 = 1 from rfl, show (ahn c t.2.2.2.1).1 7 0 = (c.1 7 0) from rfl]
      simp
    refine AL_gt t 6 ⟨l1.1, l1.2.1, fun r hr => by
        have g1 := l1.2.2.1 r hr
        have g2 := (h.2.2.1 r hr).1
        show r = aSum ((ahn c t.2.2.2.1).1 22) (c.1 29 (r)) + c.1 30 (r)
        rw [es _ (by omega)]; exact g1, by
        show aSum ((ahn c t.2.2.2.1).1 22) ((c.1 6 0) + 1) = (c.1 7 0)
        rw [aSum, es _ (Nat.le_refl _)]
        show aSum (c.1 22) (c.1 6 0) + (if (c.1 6 0) = (c.1 6 0) then 0 else c.1 22 (c.1 6 0)) = (c.1 7 0)
        rw [if_pos rfl]; exact l1.2.2.2⟩ l2 ⟨?_, l3.2.1, l3.2.2.1, ?_, fun e => absurd e (by omega)⟩
    · rw [ef]; have := l3.1; simp at this; show (c.1 9 0) = (c.1 8 0) + fin c 5 + (if 6 = 15 ∨ 6 = 16 then 1 else 0); simp; omega
    · rw [ef]; exact l3.2.2.2.1
  · exact AL_wr t hL
set_option maxHeartbeats 1000000 in
theorem AL_adc0 {c : aN} (t : aK) (m : Nat) (h : AI c) (hL : AL c) (h0 : (c.1 2 0) = 0) (hs : (c.1 0 0) = 8) (hw : (c.1 10 0) = 0) : AL (gt t (adc c m) 9) := by
  obtain ⟨l1, l2, l3⟩ := id hL
  have l3 : E3c c 8 := by have := l3 h0; unfold E3 at this; rw [hs] at this; exact this
  have h5 : Q5c c 8 := by have := h.2.2.2.2.1; unfold Q5 at this; rw [hs] at this; exact this
  unfold Q5c at h5
  have es : ∀ k, k ≤ (c.1 4 0) - 1 → aSum ((adc c m).1 21) k = aSum (c.1 21) k := fun k hk => aSum_c k fun j hj => by
    rw [adc0_RC hw, if_neg (by omega)]
  have et : aSum (c.1 21) (c.1 4 0) = aSum (c.1 21) ((c.1 4 0) - 1) + c.1 21 ((c.1 4 0) - 1) := by
    have e : (c.1 4 0) = ((c.1 4 0) - 1) + 1 := by omega
    rw [show aSum (c.1 21) (c.1 4 0) = aSum (c.1 21) (((c.1 4 0) - 1) + 1) from by rw [← e]]; rfl
  have k1 : E1 (adc c m) := ⟨fun r hr => by
      rw [adc0_NR hw] at hr
      rw [adc0_RO hw, adc0_RX hw]
      by_cases e : r = (c.1 5 0)
      · rw [if_pos e, if_pos e, es _ (Nat.le_refl _), e, ← et]; exact l1.2.1.symm
      · rw [if_neg e, if_neg e]
        have g1 := l1.1 r (by omega)
        have g2 := (h.2.1 r (by omega)).1
        rw [es _ (by omega)]; exact g1, by
      rw [adc0_NC hw, adc0_NR hw]
      have e : (c.1 4 0) = ((c.1 4 0) - 1) + 1 := by omega
      rw [show aSum ((adc c m).1 21) (c.1 4 0) = aSum ((adc c m).1 21) (((c.1 4 0) - 1) + 1) from by rw [← e], aSum, es _ (Nat.le_refl _), adc0_RC hw, if_pos rfl]
      have := l1.2.1
      omega, by rw [adc0_NW hw, adc0_WO hw, adc0_WX hw, adc0_WC hw]; exact l1.2.2.1, by rw [adc0_NN hw, adc0_NW hw, adc0_WC hw]; exact l1.2.2.2⟩
  have hnw : (c.1 7 0) = 0 := by
    by_cases zz : (c.1 7 0) = 0
    · exact zz
    · have := (h.2.2.1 0 (by omega)).1; omega
  have eRT : eR c = (c.1 8 0) := by have := l2.2.2.2.2; unfold eW at this; rw [if_pos hnw] at this; exact this
  have eR' : eR (adc c m) = (c.1 8 0) := by
    unfold eR
    rw [adc0_NR hw, if_neg (by omega), Nat.add_sub_cancel, adc0_RF hw, adc0_RM hw, if_pos rfl, if_pos rfl]
    omega
  have k2 : E2 (adc c m) := by
    unfold E2
    rw [adc0_NR hw, adc0_NW hw, adc0_NT hw]
    refine ⟨fun r hr => ?_, fun _ => ?_, fun r hr => absurd hr (by omega), fun hr => absurd hr (by omega), ?_⟩
    · rw [adc0_RF hw, adc0_RF hw, adc0_RM hw, if_neg (show ¬ r = (c.1 5 0) by omega), if_neg (show ¬ r = (c.1 5 0) by omega)]
      by_cases e : r + 1 = (c.1 5 0)
      · rw [if_pos e]
        unfold eR at eRT
        rw [if_neg (by omega), show (c.1 5 0) - 1 = r by omega] at eRT
        omega
      · rw [if_neg e]; exact l2.1 r (by omega)
    · rw [adc0_RF hw]
      by_cases e : 0 = (c.1 5 0)
      · rw [if_pos e]
        unfold eR at eRT
        rw [if_pos e.symm] at eRT
        omega
      · rw [if_neg e]; exact l2.2.1 (by omega)
    · unfold eW
      rw [adc0_NW hw, if_pos hnw]; exact eR'
  have ef : fin (adc c m) 9 = fin c 8 := by
    unfold fin
    rw [adc0_WY hw, adc0_NW hw]
    simp [hw]
  have htl : ∀ l g n, tLk (adc c m) l g n ↔ tLk c l g n := fun l g n => by
    unfold tLk
    rw [adc0_LW hw, adc0_LO hw, adc0_LC hw, adc0_LP hw, adc0_TC hw, adc0_TQ hw]
  have k3 : E3c (adc c m) 9 := by
    unfold E3c
    rw [ef, adc0_NL hw, adc0_NT hw, adc0_NR hw, adc0_NW hw]
    refine ⟨?_, fun r hr i hi => ?_, fun r hr i hi => ?_, fun r hr => ?_, fun e => absurd e (by omega)⟩
    · have := l3.1; simp at this ⊢; omega
    · rw [htl]
      rw [adc0_RM hw] at hi
      rw [adc0_RF hw, adc0_RK hw]
      by_cases e : r = (c.1 5 0)
      · rw [if_pos e] at hi; omega
      · rw [if_neg e] at hi; rw [if_neg e, if_neg e]; exact l3.2.1 r (by omega) i hi
    · rw [htl]
      rw [adc0_WM hw] at hi
      rw [adc0_WF hw, adc0_WK hw]; exact l3.2.2.1 r hr i hi
    · rw [adc0_LW hw, adc0_LO hw, adc0_LP hw, adc0_WQ hw, adc0_WF hw, adc0_WM hw]
      exact l3.2.2.2.1 r hr
  exact AL_gt t 9 k1 k2 k3
set_option maxHeartbeats 1000000 in
theorem AL_adc1 {c : aN} (t : aK) (m : Nat) (h : AI c) (hL : AL c) (h0 : (c.1 2 0) = 0) (hs : (c.1 0 0) = 8) (hw : ¬ (c.1 10 0) = 0) : AL (gt t (adc c m) 9) := by
  obtain ⟨l1, l2, l3⟩ := id hL
  have l3 : E3c c 8 := by have := l3 h0; unfold E3 at this; rw [hs] at this; exact this
  have h5 : Q5c c 8 := by have := h.2.2.2.2.1; unfold Q5 at this; rw [hs] at this; exact this
  unfold Q5c at h5
  have es : ∀ k, k ≤ (c.1 6 0) - 1 → aSum ((adc c m).1 22) k = aSum (c.1 22) k := fun k hk => aSum_c k fun j hj => by
    rw [adc1_WC hw, if_neg (by omega)]
  have et : aSum (c.1 22) (c.1 6 0) = aSum (c.1 22) ((c.1 6 0) - 1) + c.1 22 ((c.1 6 0) - 1) := by
    have e : (c.1 6 0) = ((c.1 6 0) - 1) + 1 := by omega
    rw [show aSum (c.1 22) (c.1 6 0) = aSum (c.1 22) (((c.1 6 0) - 1) + 1) from by rw [← e]]; rfl
  have k1 : E1 (adc c m) := ⟨by rw [adc1_NR hw, adc1_RO hw, adc1_RX hw, adc1_RC hw]; exact l1.1, by rw [adc1_NC hw, adc1_NR hw, adc1_RC hw]; exact l1.2.1, fun r hr => by
      rw [adc1_NW hw] at hr
      rw [adc1_WO hw, adc1_WX hw]
      by_cases e : r = (c.1 7 0)
      · rw [if_pos e, if_pos e, es _ (Nat.le_refl _), e, ← et]; exact l1.2.2.2.symm
      · rw [if_neg e, if_neg e]
        have g1 := l1.2.2.1 r (by omega)
        have g2 := (h.2.2.1 r (by omega)).1
        rw [es _ (by omega)]; exact g1, by
      rw [adc1_NN hw, adc1_NW hw]
      have e : (c.1 6 0) = ((c.1 6 0) - 1) + 1 := by omega
      rw [show aSum ((adc c m).1 22) (c.1 6 0) = aSum ((adc c m).1 22) (((c.1 6 0) - 1) + 1) from by rw [← e], aSum, es _ (Nat.le_refl _), adc1_WC hw, if_pos rfl]
      have := l1.2.2.2
      omega⟩
  have eR' : eR (adc c m) = eR c := by
    unfold eR
    rw [adc1_NR hw, adc1_RF hw, adc1_RM hw]
  have k2 : E2 (adc c m) := by
    unfold E2
    rw [adc1_NR hw, adc1_NW hw, adc1_NT hw, adc1_RF hw, adc1_RM hw, eR']
    refine ⟨l2.1, l2.2.1, fun r hr => ?_, fun _ => ?_, ?_⟩
    · rw [adc1_WF hw, adc1_WF hw, adc1_WM hw, if_neg (show ¬ r = (c.1 7 0) by omega), if_neg (show ¬ r = (c.1 7 0) by omega)]
      by_cases e : r + 1 = (c.1 7 0)
      · rw [if_pos e]
        have := l2.2.2.2.2
        unfold eW at this
        rw [if_neg (by omega), show (c.1 7 0) - 1 = r by omega] at this
        omega
      · rw [if_neg e]; exact l2.2.2.1 r (by omega)
    · rw [adc1_WF hw]
      by_cases e : 0 = (c.1 7 0)
      · rw [if_pos e]
        have := l2.2.2.2.2
        unfold eW at this
        rw [if_pos e.symm] at this
        exact this.symm
      · rw [if_neg e]; exact l2.2.2.2.1 (by omega)
    · unfold eW
      rw [adc1_NW hw, if_neg (by omega), Nat.add_sub_cancel, adc1_WF hw, adc1_WM hw, if_pos rfl, if_pos rfl]
      omega
  have ef : fin (adc c m) 9 = fin c 8 := by
    unfold fin
    rw [adc1_WY hw, adc1_NW hw]
    simp [hw]
  have htl : ∀ l g n, tLk (adc c m) l g n ↔ tLk c l g n := fun l g n => by
    unfold tLk
    rw [adc1_LW hw, adc1_LO hw, adc1_LC hw, adc1_LP hw, adc1_TC hw, adc1_TQ hw]
  have k3 : E3c (adc c m) 9 := by
    unfold E3c
    rw [ef, adc1_NL hw, adc1_NT hw, adc1_NR hw, adc1_NW hw]
    refine ⟨?_, fun r hr i hi => ?_, fun r hr i hi => ?_, fun r hr => ?_, fun e => absurd e (by omega)⟩
    · have := l3.1; simp at this ⊢; omega
    · rw [htl]
      rw [adc1_RM hw] at hi
      rw [adc1_RF hw, adc1_RK hw]; exact l3.2.1 r hr i hi
    · rw [htl]
      rw [adc1_WM hw] at hi
      rw [adc1_WF hw, adc1_WK hw]
      by_cases e : r = (c.1 7 0)
      · rw [if_pos e] at hi; omega
      · rw [if_neg e] at hi; rw [if_neg e, if_neg e]; exact l3.2.2.1 r (by omega) i hi
    · rw [adc1_LW hw, adc1_LO hw, adc1_LP hw, adc1_WQ hw, adc1_WF hw, adc1_WM hw]
      have hfin : fin c 8 ≤ (c.1 7 0) := by unfold fin; split <;> omega
      have e : ¬ r = (c.1 7 0) := by omega
      rw [if_neg e, if_neg e]
      exact l3.2.2.2.1 r hr
  exact AL_gt t 9 k1 k2 k3
theorem AL_a8 {c : aN} (t : aK) (h : AI c) (hL : AL c) (h0 : (c.1 2 0) = 0) (hs : (c.1 0 0) = 8) : AL (a8 t c) := by
  have hh : ∀ n, AL (gt t (adc c n) 9) := fun n => by
    by_cases hw : (c.1 10 0) = 0
    · exact AL_adc0 t n h hL h0 hs hw
    · exact AL_adc1 t n h hL h0 hs hw
  unfold a8
  split
  · exact hh _
  · split
    · exact hh _
    · exact AL_wr t hL
set_option maxHeartbeats 1000000 in
theorem AL_a13 {c : aN} (t : aK) (h : AI c) (hL : AL c) (h0 : (c.1 2 0) = 0) (hs : (c.1 0 0) = 13) : AL (a13 t c) := by
  obtain ⟨l1, l2, l3⟩ := id hL
  have l3 : E3c c 13 := by have := l3 h0; unfold E3 at this; rw [hs] at this; exact this
  have h5 : Q5c c 13 := by have := h.2.2.2.2.1; unfold Q5 at this; rw [hs] at this; exact this
  unfold Q5c at h5
  have hf : fin c 13 ≤ (c.1 7 0) ∧ (c.1 7 0) ≤ fin c 13 + 1 := by unfold fin; split <;> omega
  have hnl : (c.1 9 0) = (c.1 8 0) + fin c 13 := by have := l3.1; simp at this; omega
  have hlow : ∀ l, l < (c.1 9 0) → ∀ g n, tLk c l g n → tLk (alk ((xN (xN (xN c.1 14 (0) (0)) 15 (0) (t.2.2.2.2.toNatClampNeg)) 16 (0) (t.2.1)), c.2.1, c.2.2) 2 (c.1 8 0) (acl c) t.2.1) l g n := fun l hl g n q => by
    have e : ¬ l = (c.1 9 0) := by omega
    show (if l = (c.1 9 0) then 2 else c.1 41 (l)) = (if c.1 36 (g) = 1 then 0 else 2) ∧ (if l = (c.1 9 0) then (c.1 8 0) else c.1 42 (l)) = g ∧ (if l = (c.1 9 0) then acl c else c.1 43 (l)) = n ∧ (if l = (c.1 9 0) then t.2.1 else c.1 44 (l)) = c.1 40 (g)
    rw [if_neg e, if_neg e, if_neg e, if_neg e]; exact q
  unfold a13
  split
  · skip
    have ef : fin (alk ((xN (xN (xN c.1 14 (0) (0)) 15 (0) (t.2.2.2.2.toNatClampNeg)) 16 (0) (t.2.1)), c.2.1, c.2.2) 2 (c.1 8 0) (acl c) t.2.1) 15 = fin c 13 := by
      show (if ¬ (c.1 10 0) = 0 ∧ (15 = 9 ∨ 11 ≤ 15 ∧ 15 ≤ 17) then (c.1 7 0) - 1 else (c.1 7 0)) = fin c 13
      unfold fin; by_cases z : (c.1 10 0) = 0 <;> simp [z]
    refine AL_gt t 15 l1 l2 ⟨?_, fun r hr k hk => ?_, fun r hr k hk => ?_, fun r hr => ?_, fun _ => ?_⟩
    · rw [ef]; have := l3.1; show (c.1 9 0) + 1 = (c.1 8 0) + fin c 13 + (if 15 = 15 ∨ 15 = 16 then 1 else 0); simp at this ⊢; omega
    · have hr : r < (c.1 5 0) := hr
      have hk : k < c.1 28 (r) := hk
      have g := h.2.1 r hr
      exact hlow (c.1 27 (r) + k) (by omega) _ _ (l3.2.1 r hr k hk)
    · have hr : r < (c.1 7 0) := hr
      have hk : k < c.1 33 (r) := hk
      have g := h.2.2.1 r hr
      exact hlow (c.1 32 (r) + k + r) (by omega) _ _ (l3.2.2.1 r hr k hk)
    · rw [ef] at hr
      have g := h.2.2.1 r (by omega)
      have e : ¬ c.1 32 (r) + c.1 33 (r) + r = (c.1 9 0) := by omega
      show (if c.1 32 (r) + c.1 33 (r) + r = (c.1 9 0) then 2 else c.1 41 (c.1 32 (r) + c.1 33 (r) + r)) = 1 ∧ (if c.1 32 (r) + c.1 33 (r) + r = (c.1 9 0) then (c.1 8 0) else c.1 42 (c.1 32 (r) + c.1 33 (r) + r)) = r ∧ (if c.1 32 (r) + c.1 33 (r) + r = (c.1 9 0) then t.2.1 else c.1 44 (c.1 32 (r) + c.1 33 (r) + r)) = c.1 35 (r)
      rw [if_neg e, if_neg e, if_neg e]; exact l3.2.2.2.1 r hr
    · show (if (c.1 9 0) + 1 - 1 = (c.1 9 0) then 2 else c.1 41 ((c.1 9 0) + 1 - 1)) = (if 0 = 1 then 0 else 2) ∧ (if (c.1 9 0) + 1 - 1 = (c.1 9 0) then (c.1 8 0) else c.1 42 ((c.1 9 0) + 1 - 1)) = (c.1 8 0) ∧ (if (c.1 9 0) + 1 - 1 = (c.1 9 0) then acl c else c.1 43 ((c.1 9 0) + 1 - 1)) = acl c ∧ (if (c.1 9 0) + 1 - 1 = (c.1 9 0) then t.2.1 else c.1 44 ((c.1 9 0) + 1 - 1)) = t.2.1
      simp
  · exact AL_wr t hL
set_option maxHeartbeats 1000000 in
theorem AL_a14 {c : aN} (t : aK) (h : AI c) (hL : AL c) (h0 : (c.1 2 0) = 0) (hs : (c.1 0 0) = 14) : AL (a14 t c) := by
  obtain ⟨l1, l2, l3⟩ := id hL
  have l3 : E3c c 14 := by have := l3 h0; unfold E3 at this; rw [hs] at this; exact this
  have h5 : Q5c c 14 := by have := h.2.2.2.2.1; unfold Q5 at this; rw [hs] at this; exact this
  unfold Q5c at h5
  have hf : fin c 14 ≤ (c.1 7 0) ∧ (c.1 7 0) ≤ fin c 14 + 1 := by unfold fin; split <;> omega
  have hnl : (c.1 9 0) = (c.1 8 0) + fin c 14 := by have := l3.1; simp at this; omega
  have hlow : ∀ l, l < (c.1 9 0) → ∀ g n, tLk c l g n → tLk (alk ((xN (xN (xN c.1 14 (0) (1)) 15 (0) (0)) 16 (0) (t.2.1)), (xL c.2.1 4 (0) (t.2.2.2.1)), c.2.2) 0 (c.1 8 0) (acl c) t.2.1) l g n := fun l hl g n q => by
    have e : ¬ l = (c.1 9 0) := by omega
    show (if l = (c.1 9 0) then 0 else c.1 41 (l)) = (if c.1 36 (g) = 1 then 0 else 2) ∧ (if l = (c.1 9 0) then (c.1 8 0) else c.1 42 (l)) = g ∧ (if l = (c.1 9 0) then acl c else c.1 43 (l)) = n ∧ (if l = (c.1 9 0) then t.2.1 else c.1 44 (l)) = c.1 40 (g)
    rw [if_neg e, if_neg e, if_neg e, if_neg e]; exact q
  unfold a14
  split
  · skip
    have ef : fin (alk ((xN (xN (xN c.1 14 (0) (1)) 15 (0) (0)) 16 (0) (t.2.1)), (xL c.2.1 4 (0) (t.2.2.2.1)), c.2.2) 0 (c.1 8 0) (acl c) t.2.1) 15 = fin c 14 := by
      show (if ¬ (c.1 10 0) = 0 ∧ (15 = 9 ∨ 11 ≤ 15 ∧ 15 ≤ 17) then (c.1 7 0) - 1 else (c.1 7 0)) = fin c 14
      unfold fin; by_cases z : (c.1 10 0) = 0 <;> simp [z]
    refine AL_gt t 15 l1 l2 ⟨?_, fun r hr k hk => ?_, fun r hr k hk => ?_, fun r hr => ?_, fun _ => ?_⟩
    · rw [ef]; have := l3.1; show (c.1 9 0) + 1 = (c.1 8 0) + fin c 14 + (if 15 = 15 ∨ 15 = 16 then 1 else 0); simp at this ⊢; omega
    · have hr : r < (c.1 5 0) := hr
      have hk : k < c.1 28 (r) := hk
      have g := h.2.1 r hr
      exact hlow (c.1 27 (r) + k) (by omega) _ _ (l3.2.1 r hr k hk)
    · have hr : r < (c.1 7 0) := hr
      have hk : k < c.1 33 (r) := hk
      have g := h.2.2.1 r hr
      exact hlow (c.1 32 (r) + k + r) (by omega) _ _ (l3.2.2.1 r hr k hk)
    · rw [ef] at hr
      have g := h.2.2.1 r (by omega)
      have e : ¬ c.1 32 (r) + c.1 33 (r) + r = (c.1 9 0) := by omega
      show (if c.1 32 (r) + c.1 33 (r) + r = (c.1 9 0) then 0 else c.1 41 (c.1 32 (r) + c.1 33 (r) + r)) = 1 ∧ (if c.1 32 (r) + c.1 33 (r) + r = (c.1 9 0) then (c.1 8 0) else c.1 42 (c.1 32 (r) + c.1 33 (r) + r)) = r ∧ (if c.1 32 (r) + c.1 33 (r) + r = (c.1 9 0) then t.2.1 else c.1 44 (c.1 32 (r) + c.1 33 (r) + r)) = c.1 35 (r)
      rw [if_neg e, if_neg e, if_neg e]; exact l3.2.2.2.1 r hr
    · show (if (c.1 9 0) + 1 - 1 = (c.1 9 0) then 0 else c.1 41 ((c.1 9 0) + 1 - 1)) = (if 1 = 1 then 0 else 2) ∧ (if (c.1 9 0) + 1 - 1 = (c.1 9 0) then (c.1 8 0) else c.1 42 ((c.1 9 0) + 1 - 1)) = (c.1 8 0) ∧ (if (c.1 9 0) + 1 - 1 = (c.1 9 0) then acl c else c.1 43 ((c.1 9 0) + 1 - 1)) = acl c ∧ (if (c.1 9 0) + 1 - 1 = (c.1 9 0) then t.2.1 else c.1 44 ((c.1 9 0) + 1 - 1)) = t.2.1
      simp
  · exact AL_wr t hL
set_option maxHeartbeats 1000000 in
theorem AL_a9 {c : aN} (t : aK) (h : AI c) (hL : AL c) (h0 : (c.1 2 0) = 0) (hs : (c.1 0 0) = 9) : AL (a9 t c) := by
  obtain ⟨l1, l2, l3⟩ := id hL
  have l3 : E3c c 9 := by have := l3 h0; unfold E3 at this; rw [hs] at this; exact this
  have h5 : Q5c c 9 := by have := h.2.2.2.2.1; unfold Q5 at this; rw [hs] at this; exact this
  unfold Q5c at h5
  have hf : fin c 9 ≤ (c.1 7 0) ∧ (c.1 7 0) ≤ fin c 9 + 1 := by unfold fin; split <;> omega
  have hnl : (c.1 9 0) = (c.1 8 0) + fin c 9 := by have := l3.1; simp at this; omega
  unfold a9
  split
  · skip
    have ef : fin c 11 = fin c 9 := by unfold fin; by_cases z : c.1 10 0 = 0 <;> simp [z]
    exact AL_gt t 11 l1 l2 (show E3c c 11 from ⟨by rw [ef]; have := l3.1; simp at this ⊢; omega, l3.2.1, l3.2.2.1, by rw [ef]; exact l3.2.2.2.1, fun e => absurd e (by omega)⟩)
  · split
    · rename_i hw
      split
      · have ef : fin c 6 = fin c 9 := by unfold fin; simp [hw]
        exact AL_gt t 6 l1 l2 (show E3c c 6 from ⟨by rw [ef]; have := l3.1; simp at this ⊢; omega, l3.2.1, l3.2.2.1, by rw [ef]; exact l3.2.2.2.1, fun e => absurd e (by omega)⟩)
      · exact AL_wr t hL
    · rename_i hw
      split
      · have hcur := (h5.2.2.2.2.2.2.1 (by omega)).2 hw
        have ef9 : fin c 9 = (c.1 7 0) - 1 := by unfold fin; rw [if_pos ⟨hw, Or.inl rfl⟩]
        have ef : fin (alk ((xN c.1 35 ((c.1 7 0) - 1) (t.2.1)), (xL c.2.1 3 ((c.1 7 0) - 1) (t.2.2.2.1)), c.2.2) 1 ((c.1 7 0) - 1) 0 t.2.1) 10 = (c.1 7 0) := by
          show (if ¬ (c.1 10 0) = 0 ∧ (10 = 9 ∨ 11 ≤ 10 ∧ 10 ≤ 17) then (c.1 7 0) - 1 else (c.1 7 0)) = (c.1 7 0)
          simp
        have hlow : ∀ l, l < (c.1 9 0) → ∀ g n, tLk c l g n → tLk (alk ((xN c.1 35 ((c.1 7 0) - 1) (t.2.1)), (xL c.2.1 3 ((c.1 7 0) - 1) (t.2.2.2.1)), c.2.2) 1 ((c.1 7 0) - 1) 0 t.2.1) l g n := fun l hl g n q => by
          have e : ¬ l = (c.1 9 0) := by omega
          show (if l = (c.1 9 0) then 1 else c.1 41 (l)) = (if c.1 36 (g) = 1 then 0 else 2) ∧ (if l = (c.1 9 0) then (c.1 7 0) - 1 else c.1 42 (l)) = g ∧ (if l = (c.1 9 0) then 0 else c.1 43 (l)) = n ∧ (if l = (c.1 9 0) then t.2.1 else c.1 44 (l)) = c.1 40 (g)
          rw [if_neg e, if_neg e, if_neg e, if_neg e]; exact q
        refine AL_gt t 10 l1 l2 ⟨?_, fun r hr k hk => ?_, fun r hr k hk => ?_, fun r hr => ?_, fun e => absurd e (by omega)⟩
        · rw [ef]; show (c.1 9 0) + 1 = (c.1 8 0) + (c.1 7 0) + (if 10 = 15 ∨ 10 = 16 then 1 else 0); simp; omega
        · have hr : r < (c.1 5 0) := hr
          have hk : k < c.1 28 (r) := hk
          have g := h.2.1 r hr
          exact hlow (c.1 27 (r) + k) (by omega) _ _ (l3.2.1 r hr k hk)
        · have hr : r < (c.1 7 0) := hr
          have hk : k < c.1 33 (r) := hk
          have g := h.2.2.1 r hr
          exact hlow (c.1 32 (r) + k + r) (by omega) _ _ (l3.2.2.1 r hr k hk)
        · rw [ef] at hr
          have g := h.2.2.1 r hr
          show (if c.1 32 (r) + c.1 33 (r) + r = (c.1 9 0) then 1 else c.1 41 (c.1 32 (r) + c.1 33 (r) + r)) = 1 ∧ (if c.1 32 (r) + c.1 33 (r) + r = (c.1 9 0) then (c.1 7 0) - 1 else c.1 42 (c.1 32 (r) + c.1 33 (r) + r)) = r ∧ (if c.1 32 (r) + c.1 33 (r) + r = (c.1 9 0) then t.2.1 else c.1 44 (c.1 32 (r) + c.1 33 (r) + r)) = (if r = (c.1 7 0) - 1 then t.2.1 else c.1 35 (r))
          by_cases er : r = (c.1 7 0) - 1
          · have e : c.1 32 (r) + c.1 33 (r) + r = (c.1 9 0) := by rw [er]; omega
            rw [if_pos e, if_pos e, if_pos e, if_pos er]; exact ⟨rfl, er.symm, rfl⟩
          · have e : ¬ c.1 32 (r) + c.1 33 (r) + r = (c.1 9 0) := by omega
            rw [if_neg e, if_neg e, if_neg e, if_neg er]; exact l3.2.2.2.1 r (by omega)
      · exact AL_wr t hL
set_option maxHeartbeats 1000000 in
theorem AL_adt0 {c : aN} (t : aK) (v : Int32) (h : AI c) (hL : AL c) (h0 : (c.1 2 0) = 0) (hs : (c.1 0 0) = 16) (hw : (c.1 10 0) = 0) : AL (gt t (adt c v) 17) := by
  obtain ⟨l1, l2, l3⟩ := id hL
  have l3 : E3c c 16 := by have := l3 h0; unfold E3 at this; rw [hs] at this; exact this
  have h5 : Q5c c 16 := by have := h.2.2.2.2.1; unfold Q5 at this; rw [hs] at this; exact this
  unfold Q5c at h5
  have hcur := (h5.2.2.2.2.2.2.1 (by omega)).1 hw
  have k1 : E1 (adt c v) := by
    unfold E1
    rw [adt0_NR hw, adt0_RC hw, adt0_RO hw, adt0_RX hw, adt0_NC hw, adt0_NW hw, adt0_WC hw, adt0_WO hw, adt0_WX hw, adt0_NN hw]
    exact l1
  have hnw : (c.1 7 0) = 0 := by
    by_cases zz : (c.1 7 0) = 0
    · exact zz
    · have := (h.2.2.1 0 (by omega)).1; omega
  have eR' : eR (adt c v) = (c.1 8 0) + 1 := by
    unfold eR
    rw [adt0_NR hw, if_neg (by omega), adt0_RF hw, adt0_RM hw, if_pos rfl]
    omega
  have k2 : E2 (adt c v) := by
    unfold E2
    rw [adt0_NR hw, adt0_NW hw, adt0_NT hw, adt0_RF hw]
    refine ⟨fun r hr => ?_, l2.2.1, fun r hr => absurd hr (by omega), fun hr => absurd hr (by omega), ?_⟩
    · rw [adt0_RM hw, if_neg (by omega)]; exact l2.1 r hr
    · unfold eW
      rw [adt0_NW hw, if_pos hnw]; exact eR'
  have ef : fin (adt c v) 17 = fin c 16 := by
    unfold fin
    rw [adt0_WY hw, adt0_NW hw]
    simp [hw]
  have hfin : fin c 16 = (c.1 7 0) := by unfold fin; simp [hw]
  have hnl : (c.1 9 0) = (c.1 8 0) + fin c 16 + 1 := by have := l3.1; simp at this; omega
  have hlow : ∀ l g n, g < (c.1 8 0) → tLk c l g n → tLk (adt c v) l g n := fun l g n hg q => by
    unfold tLk
    have en : ¬ g = (c.1 8 0) := by omega
    rw [adt0_LW hw, adt0_LO hw, adt0_LC hw, adt0_LP hw, adt0_TC hw, adt0_TQ hw, if_neg en, if_neg en]; exact q
  have k3 : E3c (adt c v) 17 := by
    unfold E3c
    rw [ef, adt0_NL hw, adt0_NT hw, adt0_NR hw, adt0_NW hw]
    refine ⟨?_, fun r hr i hi => ?_, fun r hr i hi => ?_, fun r hr => ?_, fun e => absurd e (by omega)⟩
    · simp; omega
    · rw [adt0_RM hw] at hi
      rw [adt0_RF hw, adt0_RK hw]
      by_cases e : r = (c.1 5 0) - 1
      · by_cases ei : i = c.1 28 (r)
        · have eg : c.1 27 (r) + i = (c.1 8 0) := by rw [ei, e]; omega
          have p := l3.2.2.2.2 (by omega)
          rw [eg, show (c.1 8 0) = (c.1 9 0) - 1 by omega]; have eN : (c.1 9 0) - 1 = (c.1 8 0) := by omega
          unfold tLk
          rw [adt0_LW hw, adt0_LO hw, adt0_LC hw, adt0_LP hw, adt0_TC hw, adt0_TQ hw, if_pos eN, if_pos eN]
          refine ⟨p.1, p.2.1.trans eN.symm, ?_, p.2.2.2⟩
          rw [p.2.2.1, e]; unfold acl; rw [if_pos hw]
        · rw [if_pos e] at hi
          have g := h.2.1 r hr
          have em : c.1 28 (r) = c.1 28 ((c.1 5 0) - 1) := by rw [e]
          exact hlow _ _ _ (by omega) (l3.2.1 r hr i (by omega))
      · rw [if_neg e] at hi
        have g := h.2.1 r hr
        exact hlow _ _ _ (by omega) (l3.2.1 r hr i hi)
    · rw [adt0_WM hw] at hi
      rw [adt0_WF hw, adt0_WK hw]
      have g := h.2.2.1 r hr
      exact hlow _ _ _ (by omega) (l3.2.2.1 r hr i hi)
    · rw [adt0_LW hw, adt0_LO hw, adt0_LP hw, adt0_WQ hw, adt0_WF hw, adt0_WM hw]
      exact l3.2.2.2.1 r hr
  exact AL_gt t 17 k1 k2 k3
set_option maxHeartbeats 1000000 in
theorem AL_adt1 {c : aN} (t : aK) (v : Int32) (h : AI c) (hL : AL c) (h0 : (c.1 2 0) = 0) (hs : (c.1 0 0) = 16) (hw : ¬ (c.1 10 0) = 0) : AL (gt t (adt c v) 17) := by
  obtain ⟨l1, l2, l3⟩ := id hL
  have l3 : E3c c 16 := by have := l3 h0; unfold E3 at this; rw [hs] at this; exact this
  have h5 : Q5c c 16 := by have := h.2.2.2.2.1; unfold Q5 at this; rw [hs] at this; exact this
  unfold Q5c at h5
  have hcur := (h5.2.2.2.2.2.2.1 (by omega)).2 hw
  have k1 : E1 (adt c v) := by
    unfold E1
    rw [adt1_NR hw, adt1_RC hw, adt1_RO hw, adt1_RX hw, adt1_NC hw, adt1_NW hw, adt1_WC hw, adt1_WO hw, adt1_WX hw, adt1_NN hw]
    exact l1
  have eR' : eR (adt c v) = eR c := by
    unfold eR
    rw [adt1_NR hw, adt1_RF hw, adt1_RM hw]
  have k2 : E2 (adt c v) := by
    unfold E2
    rw [adt1_NR hw, adt1_NW hw, adt1_NT hw, adt1_RF hw, adt1_RM hw, adt1_WF hw, eR']
    refine ⟨l2.1, l2.2.1, fun r hr => ?_, l2.2.2.2.1, ?_⟩
    · rw [adt1_WM hw, if_neg (by omega)]; exact l2.2.2.1 r hr
    · unfold eW
      rw [adt1_NW hw, if_neg (by omega), adt1_WF hw, adt1_WM hw, if_pos rfl]
      omega
  have ef : fin (adt c v) 17 = fin c 16 := by
    unfold fin
    rw [adt1_WY hw, adt1_NW hw]
    simp [hw]
  have hfin : fin c 16 = (c.1 7 0) - 1 := by unfold fin; simp [hw]
  have hnl : (c.1 9 0) = (c.1 8 0) + fin c 16 + 1 := by have := l3.1; simp at this; omega
  have hlow : ∀ l g n, g < (c.1 8 0) → tLk c l g n → tLk (adt c v) l g n := fun l g n hg q => by
    unfold tLk
    have en : ¬ g = (c.1 8 0) := by omega
    rw [adt1_LW hw, adt1_LO hw, adt1_LC hw, adt1_LP hw, adt1_TC hw, adt1_TQ hw, if_neg en, if_neg en]; exact q
  have k3 : E3c (adt c v) 17 := by
    unfold E3c
    rw [ef, adt1_NL hw, adt1_NT hw, adt1_NR hw, adt1_NW hw]
    refine ⟨?_, fun r hr i hi => ?_, fun r hr i hi => ?_, fun r hr => ?_, fun e => absurd e (by omega)⟩
    · simp; omega
    · rw [adt1_RM hw] at hi
      rw [adt1_RF hw, adt1_RK hw]
      have g := h.2.1 r hr
      exact hlow _ _ _ (by omega) (l3.2.1 r hr i hi)
    · rw [adt1_WM hw] at hi
      rw [adt1_WF hw, adt1_WK hw]
      by_cases e : r = (c.1 7 0) - 1
      · by_cases ei : i = c.1 33 (r)
        · have eg : c.1 32 (r) + i = (c.1 8 0) := by rw [ei, e]; omega
          have p := l3.2.2.2.2 (by omega)
          rw [show c.1 32 (r) + i + r = (c.1 9 0) - 1 by omega, eg]
          unfold tLk
          rw [adt1_LW hw, adt1_LO hw, adt1_LC hw, adt1_LP hw, adt1_TC hw, adt1_TQ hw, if_pos rfl, if_pos rfl]
          refine ⟨p.1, p.2.1, ?_, p.2.2.2⟩
          rw [p.2.2.1, e]; unfold acl; rw [if_neg hw]
        · rw [if_pos e] at hi
          have g := h.2.2.1 r hr
          have em : c.1 33 (r) = c.1 33 ((c.1 7 0) - 1) := by rw [e]
          exact hlow _ _ _ (by omega) (l3.2.2.1 r hr i (by omega))
      · rw [if_neg e] at hi
        have g := h.2.2.1 r hr
        exact hlow _ _ _ (by omega) (l3.2.2.1 r hr i hi)
    · rw [adt1_LW hw, adt1_LO hw, adt1_LP hw, adt1_WQ hw, adt1_WF hw, adt1_WM hw]
      rw [if_neg (by omega)]
      exact l3.2.2.2.1 r hr
  exact AL_gt t 17 k1 k2 k3
theorem AL_a16 {c : aN} (t : aK) (h : AI c) (hL : AL c) (h0 : (c.1 2 0) = 0) (hs : (c.1 0 0) = 16) : AL (a16 t c) := by
  unfold a16
  split
  · by_cases hw : (c.1 10 0) = 0
    · exact AL_adt0 t _ h hL h0 hs hw
    · exact AL_adt1 t _ h hL h0 hs hw
  · exact AL_wr t hL
theorem AL_stT {c : aN} (t : aK) (h : AI c) (hL : AL c) (h0 : (c.1 2 0) = 0) : AL (stT t c) := by
  by_cases e1 : (c.1 0 0) = 1
  · rw [stT_1 t e1]; exact AL_a1 t h hL h0 e1
  by_cases e2 : (c.1 0 0) = 2
  · rw [stT_2 t e2]; exact AL_a2 t h hL h0 e2
  by_cases e3 : (c.1 0 0) = 3
  · rw [stT_3 t e3]; exact AL_a3 t h hL h0 e3
  by_cases e4 : (c.1 0 0) = 4
  · rw [stT_4 t e4]; exact AL_a4 t h hL h0 e4
  by_cases e5 : (c.1 0 0) = 5
  · rw [stT_5 t e5]; exact AL_a5 t h hL h0 e5
  by_cases e6 : (c.1 0 0) = 6
  · rw [stT_6 t e6]; exact AL_a6 t h hL h0 e6
  by_cases e7 : (c.1 0 0) = 7
  · rw [stT_7 t e7]; exact AL_a7 t h hL h0 e7
  by_cases e8 : (c.1 0 0) = 8
  · rw [stT_8 t e8]; exact AL_a8 t h hL h0 e8
  by_cases e9 : (c.1 0 0) = 9
  · rw [stT_9 t e9]; exact AL_a9 t h hL h0 e9
  by_cases e10 : (c.1 0 0) = 10
  · rw [stT_10 t e10]; exact AL_a10 t h hL h0 e10
  by_cases e11 : (c.1 0 0) = 11
  · rw [stT_11 t e11]; exact AL_a11 t h hL h0 e11
  by_cases e12 : (c.1 0 0) = 12
  · rw [stT_12 t e12]; exact AL_a12 t h hL h0 e12
  by_cases e13 : (c.1 0 0) = 13
  · rw [stT_13 t e13]; exact AL_a13 t h hL h0 e13
  by_cases e14 : (c.1 0 0) = 14
  · rw [stT_14 t e14]; exact AL_a14 t h hL h0 e14
  by_cases e15 : (c.1 0 0) = 15
  · rw [stT_15 t e15]; exact AL_a15 t h hL h0 e15
  by_cases e16 : (c.1 0 0) = 16
  · rw [stT_16 t e16]; exact AL_a16 t h hL h0 e16
  by_cases e17 : (c.1 0 0) = 17
  · rw [stT_17 t e17]; exact AL_a17 t h hL h0 e17
  unfold stT
  rw [if_neg e1, if_neg e2, if_neg e3, if_neg e4, if_neg e5, if_neg e6, if_neg e7, if_neg e8, if_neg e9, if_neg e10, if_neg e11, if_neg e12, if_neg e13, if_neg e14, if_neg e15, if_neg e16, if_neg e17]
  exact hL
theorem AL_stp {n : Nat} {f : Nat → Nat} {c : aN} (h : AI c) (hL : AL c) : AL (stp n f c) := by
  unfold stp
  split
  · rename_i e; exact AL_stT _ h hL e.1
  · exact hL
theorem AL_ait {n : Nat} {f : Nat → Nat} : ∀ (m : Nat) {c : aN}, AI c → AL c → AL (ait n f m c)
  | 0, _, _, h => h
  | m + 1, _, g, h => AL_ait m (AI_stp g) (AL_stp g h)
theorem AL_0 : AL aC0 := by
  refine ⟨⟨fun _ h => absurd h (by simp [aC0]), rfl, fun _ h => absurd h (by simp [aC0]), rfl⟩, ⟨fun _ h => absurd h (by simp [aC0]), fun h => absurd h (by simp [aC0]), fun _ h => absurd h (by simp [aC0]), fun h => absurd h (by simp [aC0]), rfl⟩, fun _ => show E3c aC0 1 from ⟨rfl, fun _ h => absurd h (by simp [aC0]), fun _ h => absurd h (by simp [aC0]), fun _ h => absurd h (by simp [aC0, fin]), fun e => absurd e (by omega)⟩⟩
