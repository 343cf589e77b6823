/-! The invariants behind the steps that build -/
theorem AI_mk {X : aN} (t : aK) (s : Nat) (h1 : Q1 X) (h2 : Q2 X) (h3 : Q3 X) (h4 : Q4 X) (h5 : Q5c X s) (h6 : Q6c X s) : AI (gt t X s) := ⟨h1, h2, h3, h4, h5, h6⟩
set_option maxHeartbeats 1000000 in
theorem AI_a3 {c : aN} (t : aK) (h : AI c) (hs : (c.1 0 0) = 3) : AI (a3 t c) := by
  have h0 := h
  obtain ⟨h1, h2, h3, h4, h5, h6⟩ := h
  have h5 : Q5c c 3 := by have := h5; unfold Q5 at this; rw [hs] at this; exact this
  have h6 : Q6c c 3 := by have := h6; unfold Q6 at this; rw [hs] at this; exact this
  unfold a3
  split
  · rename_i hx
    have hz : (c.1 5 0) = 0 ∨ 1 ≤ (c.1 4 0) := by
      by_cases hr : (c.1 5 0) = 0
      · exact Or.inl hr
      · exact Or.inr (by have := (h2 0 (by omega)).1; omega)
    have hb : 1 ≤ (c.1 4 0) → c.1 21 ((c.1 4 0) - 1) ≤ 4 := fun g => h1.2.2.1 _ (by omega)
    refine AI_mk t 4 ?_ ?_ ?_ ?_ ?_ ?_
    · simp only [Q1, ahc_ST, ahc_AT, ahc_FA, ahc_FP, ahc_NC, ahc_NR, ahc_NN, ahc_NW, ahc_NT, ahc_NL, ahc_WY, ahc_UP, ahc_NO, ahc_CL, ahc_CD, ahc_WH, ahc_WP, ahc_OP, ahc_TO, ahc_RC, ahc_WC, ahc_RO, ahc_RX, ahc_RK, ahc_RU, ahc_RF, ahc_RM, ahc_WO, ahc_WX, ahc_WK, ahc_WF, ahc_WM, ahc_WT, ahc_WQ, ahc_TC, ahc_TW, ahc_TP, ahc_TT, ahc_TQ, ahc_LW, ahc_LO, ahc_LC, ahc_LP]
      unfold Q5c at h5
      refine ⟨by omega, h1.2.1, fun k hk => ?_, fun k hk => ?_⟩
      · split
        · omega
        · exact h1.2.2.1 k (by omega)
      · exact h1.2.2.2 k hk
    · simp only [Q2, ahc_ST, ahc_AT, ahc_FA, ahc_FP, ahc_NC, ahc_NR, ahc_NN, ahc_NW, ahc_NT, ahc_NL, ahc_WY, ahc_UP, ahc_NO, ahc_CL, ahc_CD, ahc_WH, ahc_WP, ahc_OP, ahc_TO, ahc_RC, ahc_WC, ahc_RO, ahc_RX, ahc_RK, ahc_RU, ahc_RF, ahc_RM, ahc_WO, ahc_WX, ahc_WK, ahc_WF, ahc_WM, ahc_WT, ahc_WQ, ahc_TC, ahc_TW, ahc_TP, ahc_TT, ahc_TQ, ahc_LW, ahc_LO, ahc_LC, ahc_LP]
      intro r hr
      obtain ⟨g1, g2, g3, g4⟩ := h2 r hr
      rw [if_neg (by omega)]
      exact ⟨by omega, g2, g3, g4⟩
    · exact h3
    · exact h4
    · unfold Q5c at h5
      simp [Q5c, acm, ahc_ST, ahc_AT, ahc_FA, ahc_FP, ahc_NC, ahc_NR, ahc_NN, ahc_NW, ahc_NT, ahc_NL, ahc_WY, ahc_UP, ahc_NO, ahc_CL, ahc_CD, ahc_WH, ahc_WP, ahc_OP, ahc_TO, ahc_RC, ahc_WC, ahc_RO, ahc_RX, ahc_RK, ahc_RU, ahc_RF, ahc_RM, ahc_WO, ahc_WX, ahc_WK, ahc_WF, ahc_WM, ahc_WT, ahc_WQ, ahc_TC, ahc_TW, ahc_TP, ahc_TT, ahc_TQ, ahc_LW, ahc_LO, ahc_LC, ahc_LP]
      try omega
    · unfold Q6c at h6
      unfold Q5c at h5
      simp [Q6c, acm, ahc_ST, ahc_AT, ahc_FA, ahc_FP, ahc_NC, ahc_NR, ahc_NN, ahc_NW, ahc_NT, ahc_NL, ahc_WY, ahc_UP, ahc_NO, ahc_CL, ahc_CD, ahc_WH, ahc_WP, ahc_OP, ahc_TO, ahc_RC, ahc_WC, ahc_RO, ahc_RX, ahc_RK, ahc_RU, ahc_RF, ahc_RM, ahc_WO, ahc_WX, ahc_WK, ahc_WF, ahc_WM, ahc_WT, ahc_WQ, ahc_TC, ahc_TW, ahc_TP, ahc_TT, ahc_TQ, ahc_LW, ahc_LO, ahc_LC, ahc_LP]
      omega
  · exact AI_wr t h0
set_option maxHeartbeats 1000000 in
theorem AI_a5 {c : aN} (t : aK) (h : AI c) (hs : (c.1 0 0) = 5) : AI (a5 t c) := by
  have h0 := h
  obtain ⟨h1, h2, h3, h4, h5, h6⟩ := h
  have h5 : Q5c c 5 := by have := h5; unfold Q5 at this; rw [hs] at this; exact this
  have h6 : Q6c c 5 := by have := h6; unfold Q6 at this; rw [hs] at this; exact this
  unfold a5
  split
  · rename_i hx
    have hz : (c.1 7 0) = 0 ∨ 1 ≤ (c.1 6 0) := by
      by_cases hr : (c.1 7 0) = 0
      · exact Or.inl hr
      · exact Or.inr (by have := (h3 0 (by omega)).1; omega)
    have hb : 1 ≤ (c.1 6 0) → c.1 22 ((c.1 6 0) - 1) ≤ 8 := fun g => h1.2.2.2 _ (by omega)
    refine AI_mk t 6 ?_ ?_ ?_ ?_ ?_ ?_
    · simp only [Q1, ahn_ST, ahn_AT, ahn_FA, ahn_FP, ahn_NC, ahn_NR, ahn_NN, ahn_NW, ahn_NT, ahn_NL, ahn_WY, ahn_UP, ahn_NO, ahn_CL, ahn_CD, ahn_WH, ahn_WP, ahn_OP, ahn_TO, ahn_RC, ahn_WC, ahn_RO, ahn_RX, ahn_RK, ahn_RU, ahn_RF, ahn_RM, ahn_WO, ahn_WX, ahn_WK, ahn_WF, ahn_WM, ahn_WT, ahn_WQ, ahn_TC, ahn_TW, ahn_TP, ahn_TT, ahn_TQ, ahn_LW, ahn_LO, ahn_LC, ahn_LP]
      unfold Q5c at h5
      refine ⟨h1.1, by omega, fun k hk => ?_, fun k hk => ?_⟩
      · exact h1.2.2.1 k hk
      · split
        · omega
        · exact h1.2.2.2 k (by omega)
    · exact h2
    · simp only [Q3, ahn_ST, ahn_AT, ahn_FA, ahn_FP, ahn_NC, ahn_NR, ahn_NN, ahn_NW, ahn_NT, ahn_NL, ahn_WY, ahn_UP, ahn_NO, ahn_CL, ahn_CD, ahn_WH, ahn_WP, ahn_OP, ahn_TO, ahn_RC, ahn_WC, ahn_RO, ahn_RX, ahn_RK, ahn_RU, ahn_RF, ahn_RM, ahn_WO, ahn_WX, ahn_WK, ahn_WF, ahn_WM, ahn_WT, ahn_WQ, ahn_TC, ahn_TW, ahn_TP, ahn_TT, ahn_TQ, ahn_LW, ahn_LO, ahn_LC, ahn_LP]
      intro r hr
      obtain ⟨g1, g2, g3, g4⟩ := h3 r hr
      rw [if_neg (by omega)]
      exact ⟨by omega, g2, g3, g4⟩
    · exact h4
    · unfold Q5c at h5
      simp [Q5c, acm, ahn_ST, ahn_AT, ahn_FA, ahn_FP, ahn_NC, ahn_NR, ahn_NN, ahn_NW, ahn_NT, ahn_NL, ahn_WY, ahn_UP, ahn_NO, ahn_CL, ahn_CD, ahn_WH, ahn_WP, ahn_OP, ahn_TO, ahn_RC, ahn_WC, ahn_RO, ahn_RX, ahn_RK, ahn_RU, ahn_RF, ahn_RM, ahn_WO, ahn_WX, ahn_WK, ahn_WF, ahn_WM, ahn_WT, ahn_WQ, ahn_TC, ahn_TW, ahn_TP, ahn_TT, ahn_TQ, ahn_LW, ahn_LO, ahn_LC, ahn_LP]
      try omega
    · unfold Q6c at h6
      unfold Q5c at h5
      simp [Q6c, acm, ahn_ST, ahn_AT, ahn_FA, ahn_FP, ahn_NC, ahn_NR, ahn_NN, ahn_NW, ahn_NT, ahn_NL, ahn_WY, ahn_UP, ahn_NO, ahn_CL, ahn_CD, ahn_WH, ahn_WP, ahn_OP, ahn_TO, ahn_RC, ahn_WC, ahn_RO, ahn_RX, ahn_RK, ahn_RU, ahn_RF, ahn_RM, ahn_WO, ahn_WX, ahn_WK, ahn_WF, ahn_WM, ahn_WT, ahn_WQ, ahn_TC, ahn_TW, ahn_TP, ahn_TT, ahn_TQ, ahn_LW, ahn_LO, ahn_LC, ahn_LP]
      omega
  · exact AI_wr t h0
set_option maxHeartbeats 1000000 in
theorem AI_adc0 {c : aN} (t : aK) (n : Nat) (h : AI c) (hs : (c.1 0 0) = 8) (hw : (c.1 10 0) = 0) : AI (gt t (adc c n) 9) := by
  have h0 := h
  obtain ⟨h1, h2, h3, h4, h5, h6⟩ := h
  have h5 : Q5c c 8 := by have := h5; unfold Q5 at this; rw [hs] at this; exact this
  have h6 : Q6c c 8 := by have := h6; unfold Q6 at this; rw [hs] at this; exact this
  unfold Q5c at h5
  refine AI_mk t 9 ?_ ?_ ?_ ?_ ?_ ?_
  · simp only [Q1, adc0_ST hw, adc0_AT hw, adc0_FA hw, adc0_FP hw, adc0_NC hw, adc0_NR hw, adc0_NN hw, adc0_NW hw, adc0_NT hw, adc0_NL hw, adc0_WY hw, adc0_UP hw, adc0_NO hw, adc0_CL hw, adc0_CD hw, adc0_WH hw, adc0_WP hw, adc0_OP hw, adc0_TO hw, adc0_RC hw, adc0_WC hw, adc0_RO hw, adc0_RX hw, adc0_RK hw, adc0_RU hw, adc0_RF hw, adc0_RM hw, adc0_WO hw, adc0_WX hw, adc0_WK hw, adc0_WF hw, adc0_WM hw, adc0_WT hw, adc0_WQ hw, adc0_TC hw, adc0_TW hw, adc0_TP hw, adc0_TT hw, adc0_TQ hw, adc0_LW hw, adc0_LO hw, adc0_LC hw, adc0_LP hw]
    refine ⟨h1.1, h1.2.1, fun k hk => ?_, fun k hk => ?_⟩
    · split
      · omega
      · exact h1.2.2.1 k hk
    · exact h1.2.2.2 k hk
  · simp only [Q2, adc0_ST hw, adc0_AT hw, adc0_FA hw, adc0_FP hw, adc0_NC hw, adc0_NR hw, adc0_NN hw, adc0_NW hw, adc0_NT hw, adc0_NL hw, adc0_WY hw, adc0_UP hw, adc0_NO hw, adc0_CL hw, adc0_CD hw, adc0_WH hw, adc0_WP hw, adc0_OP hw, adc0_TO hw, adc0_RC hw, adc0_WC hw, adc0_RO hw, adc0_RX hw, adc0_RK hw, adc0_RU hw, adc0_RF hw, adc0_RM hw, adc0_WO hw, adc0_WX hw, adc0_WK hw, adc0_WF hw, adc0_WM hw, adc0_WT hw, adc0_WQ hw, adc0_TC hw, adc0_TW hw, adc0_TP hw, adc0_TT hw, adc0_TQ hw, adc0_LW hw, adc0_LO hw, adc0_LC hw, adc0_LP hw]
    intro r hr
    by_cases e : r = (c.1 5 0)
    · simp only [e, if_true]
      exact ⟨by omega, by omega, by omega, by omega⟩
    · obtain ⟨g1, g2, g3, g4⟩ := h2 r (by omega)
      simp only [if_neg e]
      refine ⟨g1, ?_, g3, g4⟩
      split
      · rename_i e2
        rw [e2] at g2
        omega
      · exact g2
  · simp only [Q3, adc0_ST hw, adc0_AT hw, adc0_FA hw, adc0_FP hw, adc0_NC hw, adc0_NR hw, adc0_NN hw, adc0_NW hw, adc0_NT hw, adc0_NL hw, adc0_WY hw, adc0_UP hw, adc0_NO hw, adc0_CL hw, adc0_CD hw, adc0_WH hw, adc0_WP hw, adc0_OP hw, adc0_TO hw, adc0_RC hw, adc0_WC hw, adc0_RO hw, adc0_RX hw, adc0_RK hw, adc0_RU hw, adc0_RF hw, adc0_RM hw, adc0_WO hw, adc0_WX hw, adc0_WK hw, adc0_WF hw, adc0_WM hw, adc0_WT hw, adc0_WQ hw, adc0_TC hw, adc0_TW hw, adc0_TP hw, adc0_TT hw, adc0_TQ hw, adc0_LW hw, adc0_LO hw, adc0_LC hw, adc0_LP hw]
    exact h3
  · simp only [Q4, adc0_ST hw, adc0_AT hw, adc0_FA hw, adc0_FP hw, adc0_NC hw, adc0_NR hw, adc0_NN hw, adc0_NW hw, adc0_NT hw, adc0_NL hw, adc0_WY hw, adc0_UP hw, adc0_NO hw, adc0_CL hw, adc0_CD hw, adc0_WH hw, adc0_WP hw, adc0_OP hw, adc0_TO hw, adc0_RC hw, adc0_WC hw, adc0_RO hw, adc0_RX hw, adc0_RK hw, adc0_RU hw, adc0_RF hw, adc0_RM hw, adc0_WO hw, adc0_WX hw, adc0_WK hw, adc0_WF hw, adc0_WM hw, adc0_WT hw, adc0_WQ hw, adc0_TC hw, adc0_TW hw, adc0_TP hw, adc0_TT hw, adc0_TQ hw, adc0_LW hw, adc0_LO hw, adc0_LC hw, adc0_LP hw]
    exact ⟨fun r hr he => by
        simp only [show (c.1 5 0) + 1 - 1 = (c.1 5 0) by omega, if_true] at he ⊢
        rw [if_neg (by omega)] at he
        rw [if_neg (by omega)]
        have := (h2 r (by omega)).2.1
        rw [he] at this
        exact this, h4.2⟩
  · have hz : (c.1 10 0) = 0 ∨ (c.1 10 0) = 1 := by omega
    simp only [Q5c, acm, adc0_ST hw, adc0_AT hw, adc0_FA hw, adc0_FP hw, adc0_NC hw, adc0_NR hw, adc0_NN hw, adc0_NW hw, adc0_NT hw, adc0_NL hw, adc0_WY hw, adc0_UP hw, adc0_NO hw, adc0_CL hw, adc0_CD hw, adc0_WH hw, adc0_WP hw, adc0_OP hw, adc0_TO hw, adc0_RC hw, adc0_WC hw, adc0_RO hw, adc0_RX hw, adc0_RK hw, adc0_RU hw, adc0_RF hw, adc0_RM hw, adc0_WO hw, adc0_WX hw, adc0_WK hw, adc0_WF hw, adc0_WM hw, adc0_WT hw, adc0_WQ hw, adc0_TC hw, adc0_TW hw, adc0_TP hw, adc0_TT hw, adc0_TQ hw, adc0_LW hw, adc0_LO hw, adc0_LC hw, adc0_LP hw, if_pos hw, show (c.1 5 0) + 1 - 1 = (c.1 5 0) by omega, if_true]
    omega
  · unfold Q6c at h6
    simp only [Q6c, acm, adc0_ST hw, adc0_AT hw, adc0_FA hw, adc0_FP hw, adc0_NC hw, adc0_NR hw, adc0_NN hw, adc0_NW hw, adc0_NT hw, adc0_NL hw, adc0_WY hw, adc0_UP hw, adc0_NO hw, adc0_CL hw, adc0_CD hw, adc0_WH hw, adc0_WP hw, adc0_OP hw, adc0_TO hw, adc0_RC hw, adc0_WC hw, adc0_RO hw, adc0_RX hw, adc0_RK hw, adc0_RU hw, adc0_RF hw, adc0_RM hw, adc0_WO hw, adc0_WX hw, adc0_WK hw, adc0_WF hw, adc0_WM hw, adc0_WT hw, adc0_WQ hw, adc0_TC hw, adc0_TW hw, adc0_TP hw, adc0_TT hw, adc0_TQ hw, adc0_LW hw, adc0_LO hw, adc0_LC hw, adc0_LP hw, if_pos hw, show (c.1 5 0) + 1 - 1 = (c.1 5 0) by omega, if_true]
    omega
set_option maxHeartbeats 1000000 in
theorem AI_adc1 {c : aN} (t : aK) (n : Nat) (h : AI c) (hs : (c.1 0 0) = 8) (hw : ¬ (c.1 10 0) = 0) : AI (gt t (adc c n) 9) := by
  have h0 := h
  obtain ⟨h1, h2, h3, h4, h5, h6⟩ := h
  have h5 : Q5c c 8 := by have := h5; unfold Q5 at this; rw [hs] at this; exact this
  have h6 : Q6c c 8 := by have := h6; unfold Q6 at this; rw [hs] at this; exact this
  unfold Q5c at h5
  refine AI_mk t 9 ?_ ?_ ?_ ?_ ?_ ?_
  · simp only [Q1, adc1_ST hw, adc1_AT hw, adc1_FA hw, adc1_FP hw, adc1_NC hw, adc1_NR hw, adc1_NN hw, adc1_NW hw, adc1_NT hw, adc1_NL hw, adc1_WY hw, adc1_UP hw, adc1_NO hw, adc1_CL hw, adc1_CD hw, adc1_WH hw, adc1_WP hw, adc1_OP hw, adc1_TO hw, adc1_RC hw, adc1_WC hw, adc1_RO hw, adc1_RX hw, adc1_RK hw, adc1_RU hw, adc1_RF hw, adc1_RM hw, adc1_WO hw, adc1_WX hw, adc1_WK hw, adc1_WF hw, adc1_WM hw, adc1_WT hw, adc1_WQ hw, adc1_TC hw, adc1_TW hw, adc1_TP hw, adc1_TT hw, adc1_TQ hw, adc1_LW hw, adc1_LO hw, adc1_LC hw, adc1_LP hw]
    refine ⟨h1.1, h1.2.1, fun k hk => ?_, fun k hk => ?_⟩
    · exact h1.2.2.1 k hk
    · split
      · omega
      · exact h1.2.2.2 k hk
  · simp only [Q2, adc1_ST hw, adc1_AT hw, adc1_FA hw, adc1_FP hw, adc1_NC hw, adc1_NR hw, adc1_NN hw, adc1_NW hw, adc1_NT hw, adc1_NL hw, adc1_WY hw, adc1_UP hw, adc1_NO hw, adc1_CL hw, adc1_CD hw, adc1_WH hw, adc1_WP hw, adc1_OP hw, adc1_TO hw, adc1_RC hw, adc1_WC hw, adc1_RO hw, adc1_RX hw, adc1_RK hw, adc1_RU hw, adc1_RF hw, adc1_RM hw, adc1_WO hw, adc1_WX hw, adc1_WK hw, adc1_WF hw, adc1_WM hw, adc1_WT hw, adc1_WQ hw, adc1_TC hw, adc1_TW hw, adc1_TP hw, adc1_TT hw, adc1_TQ hw, adc1_LW hw, adc1_LO hw, adc1_LC hw, adc1_LP hw]
    exact h2
  · simp only [Q3, adc1_ST hw, adc1_AT hw, adc1_FA hw, adc1_FP hw, adc1_NC hw, adc1_NR hw, adc1_NN hw, adc1_NW hw, adc1_NT hw, adc1_NL hw, adc1_WY hw, adc1_UP hw, adc1_NO hw, adc1_CL hw, adc1_CD hw, adc1_WH hw, adc1_WP hw, adc1_OP hw, adc1_TO hw, adc1_RC hw, adc1_WC hw, adc1_RO hw, adc1_RX hw, adc1_RK hw, adc1_RU hw, adc1_RF hw, adc1_RM hw, adc1_WO hw, adc1_WX hw, adc1_WK hw, adc1_WF hw, adc1_WM hw, adc1_WT hw, adc1_WQ hw, adc1_TC hw, adc1_TW hw, adc1_TP hw, adc1_TT hw, adc1_TQ hw, adc1_LW hw, adc1_LO hw, adc1_LC hw, adc1_LP hw]
    intro r hr
    by_cases e : r = (c.1 7 0)
    · simp only [e, if_true]
      exact ⟨by omega, by omega, by omega, by omega⟩
    · obtain ⟨g1, g2, g3, g4⟩ := h3 r (by omega)
      simp only [if_neg e]
      refine ⟨g1, ?_, g3, g4⟩
      split
      · rename_i e2
        rw [e2] at g2
        omega
      · exact g2
  · simp only [Q4, adc1_ST hw, adc1_AT hw, adc1_FA hw, adc1_FP hw, adc1_NC hw, adc1_NR hw, adc1_NN hw, adc1_NW hw, adc1_NT hw, adc1_NL hw, adc1_WY hw, adc1_UP hw, adc1_NO hw, adc1_CL hw, adc1_CD hw, adc1_WH hw, adc1_WP hw, adc1_OP hw, adc1_TO hw, adc1_RC hw, adc1_WC hw, adc1_RO hw, adc1_RX hw, adc1_RK hw, adc1_RU hw, adc1_RF hw, adc1_RM hw, adc1_WO hw, adc1_WX hw, adc1_WK hw, adc1_WF hw, adc1_WM hw, adc1_WT hw, adc1_WQ hw, adc1_TC hw, adc1_TW hw, adc1_TP hw, adc1_TT hw, adc1_TQ hw, adc1_LW hw, adc1_LO hw, adc1_LC hw, adc1_LP hw]
    exact ⟨h4.1, fun r hr he => by
        simp only [show (c.1 7 0) + 1 - 1 = (c.1 7 0) by omega, if_true] at he ⊢
        rw [if_neg (by omega)] at he
        rw [if_neg (by omega)]
        have := (h3 r (by omega)).2.1
        rw [he] at this
        exact this⟩
  · have hz : (c.1 10 0) = 0 ∨ (c.1 10 0) = 1 := by omega
    simp only [Q5c, acm, adc1_ST hw, adc1_AT hw, adc1_FA hw, adc1_FP hw, adc1_NC hw, adc1_NR hw, adc1_NN hw, adc1_NW hw, adc1_NT hw, adc1_NL hw, adc1_WY hw, adc1_UP hw, adc1_NO hw, adc1_CL hw, adc1_CD hw, adc1_WH hw, adc1_WP hw, adc1_OP hw, adc1_TO hw, adc1_RC hw, adc1_WC hw, adc1_RO hw, adc1_RX hw, adc1_RK hw, adc1_RU hw, adc1_RF hw, adc1_RM hw, adc1_WO hw, adc1_WX hw, adc1_WK hw, adc1_WF hw, adc1_WM hw, adc1_WT hw, adc1_WQ hw, adc1_TC hw, adc1_TW hw, adc1_TP hw, adc1_TT hw, adc1_TQ hw, adc1_LW hw, adc1_LO hw, adc1_LC hw, adc1_LP hw, if_neg hw, show (c.1 7 0) + 1 - 1 = (c.1 7 0) by omega, if_true]
    omega
  · unfold Q6c at h6
    simp only [Q6c, acm, adc1_ST hw, adc1_AT hw, adc1_FA hw, adc1_FP hw, adc1_NC hw, adc1_NR hw, adc1_NN hw, adc1_NW hw, adc1_NT hw, adc1_NL hw, adc1_WY hw, adc1_UP hw, adc1_NO hw, adc1_CL hw, adc1_CD hw, adc1_WH hw, adc1_WP hw, adc1_OP hw, adc1_TO hw, adc1_RC hw, adc1_WC hw, adc1_RO hw, adc1_RX hw, adc1_RK hw, adc1_RU hw, adc1_RF hw, adc1_RM hw, adc1_WO hw, adc1_WX hw, adc1_WK hw, adc1_WF hw, adc1_WM hw, adc1_WT hw, adc1_WQ hw, adc1_TC hw, adc1_TW hw, adc1_TP hw, adc1_TT hw, adc1_TQ hw, adc1_LW hw, adc1_LO hw, adc1_LC hw, adc1_LP hw, if_neg hw, show (c.1 7 0) + 1 - 1 = (c.1 7 0) by omega, if_true]
    omega
theorem AI_a8 {c : aN} (t : aK) (h : AI c) (hs : (c.1 0 0) = 8) : AI (a8 t c) := by
  have hh : ∀ n, AI (gt t (adc c n) 9) := fun n => by
    by_cases hw : (c.1 10 0) = 0
    · exact AI_adc0 t n h hs hw
    · exact AI_adc1 t n h hs hw
  unfold a8
  split
  · exact hh _
  · split
    · exact hh _
    · exact AI_wr t h
set_option maxHeartbeats 1000000 in
theorem AI_adt0 {c : aN} (t : aK) (v : Int32) (h : AI c) (hs : (c.1 0 0) = 16) (hw : (c.1 10 0) = 0) : AI (gt t (adt c v) 17) := by
  have h0 := h
  obtain ⟨h1, h2, h3, h4, h5, h6⟩ := h
  have h5 : Q5c c 16 := by have := h5; unfold Q5 at this; rw [hs] at this; exact this
  have h6 : Q6c c 16 := by have := h6; unfold Q6 at this; rw [hs] at this; exact this
  simp only [Q5c, acm, if_pos hw] at h5
  refine AI_mk t 17 ?_ ?_ ?_ ?_ ?_ ?_
  · simp only [Q1, adt0_ST hw, adt0_AT hw, adt0_FA hw, adt0_FP hw, adt0_NC hw, adt0_NR hw, adt0_NN hw, adt0_NW hw, adt0_NT hw, adt0_NL hw, adt0_WY hw, adt0_UP hw, adt0_NO hw, adt0_CL hw, adt0_CD hw, adt0_WH hw, adt0_WP hw, adt0_OP hw, adt0_TO hw, adt0_RC hw, adt0_WC hw, adt0_RO hw, adt0_RX hw, adt0_RK hw, adt0_RU hw, adt0_RF hw, adt0_RM hw, adt0_WO hw, adt0_WX hw, adt0_WK hw, adt0_WF hw, adt0_WM hw, adt0_WT hw, adt0_WQ hw, adt0_TC hw, adt0_TW hw, adt0_TP hw, adt0_TT hw, adt0_TQ hw, adt0_LW hw, adt0_LO hw, adt0_LC hw, adt0_LP hw]
    exact h1
  · simp only [Q2, adt0_ST hw, adt0_AT hw, adt0_FA hw, adt0_FP hw, adt0_NC hw, adt0_NR hw, adt0_NN hw, adt0_NW hw, adt0_NT hw, adt0_NL hw, adt0_WY hw, adt0_UP hw, adt0_NO hw, adt0_CL hw, adt0_CD hw, adt0_WH hw, adt0_WP hw, adt0_OP hw, adt0_TO hw, adt0_RC hw, adt0_WC hw, adt0_RO hw, adt0_RX hw, adt0_RK hw, adt0_RU hw, adt0_RF hw, adt0_RM hw, adt0_WO hw, adt0_WX hw, adt0_WK hw, adt0_WF hw, adt0_WM hw, adt0_WT hw, adt0_WQ hw, adt0_TC hw, adt0_TW hw, adt0_TP hw, adt0_TT hw, adt0_TQ hw, adt0_LW hw, adt0_LO hw, adt0_LC hw, adt0_LP hw]
    intro r hr
    obtain ⟨g1, g2, g3, g4⟩ := h2 r hr
    refine ⟨g1, g2, ?_, ?_⟩
    · split <;> omega
    · split
      · rename_i e; rw [e]; omega
      · omega
  · simp only [Q3, adt0_ST hw, adt0_AT hw, adt0_FA hw, adt0_FP hw, adt0_NC hw, adt0_NR hw, adt0_NN hw, adt0_NW hw, adt0_NT hw, adt0_NL hw, adt0_WY hw, adt0_UP hw, adt0_NO hw, adt0_CL hw, adt0_CD hw, adt0_WH hw, adt0_WP hw, adt0_OP hw, adt0_TO hw, adt0_RC hw, adt0_WC hw, adt0_RO hw, adt0_RX hw, adt0_RK hw, adt0_RU hw, adt0_RF hw, adt0_RM hw, adt0_WO hw, adt0_WX hw, adt0_WK hw, adt0_WF hw, adt0_WM hw, adt0_WT hw, adt0_WQ hw, adt0_TC hw, adt0_TW hw, adt0_TP hw, adt0_TT hw, adt0_TQ hw, adt0_LW hw, adt0_LO hw, adt0_LC hw, adt0_LP hw]
    intro r hr
    obtain ⟨g1, g2, g3, g4⟩ := h3 r hr
    exact ⟨g1, g2, g3, by omega⟩
  · simp only [Q4, adt0_ST hw, adt0_AT hw, adt0_FA hw, adt0_FP hw, adt0_NC hw, adt0_NR hw, adt0_NN hw, adt0_NW hw, adt0_NT hw, adt0_NL hw, adt0_WY hw, adt0_UP hw, adt0_NO hw, adt0_CL hw, adt0_CD hw, adt0_WH hw, adt0_WP hw, adt0_OP hw, adt0_TO hw, adt0_RC hw, adt0_WC hw, adt0_RO hw, adt0_RX hw, adt0_RK hw, adt0_RU hw, adt0_RF hw, adt0_RM hw, adt0_WO hw, adt0_WX hw, adt0_WK hw, adt0_WF hw, adt0_WM hw, adt0_WT hw, adt0_WQ hw, adt0_TC hw, adt0_TW hw, adt0_TP hw, adt0_TT hw, adt0_TQ hw, adt0_LW hw, adt0_LO hw, adt0_LC hw, adt0_LP hw]
    exact h4
  · simp only [Q5c, acm, adt0_ST hw, adt0_AT hw, adt0_FA hw, adt0_FP hw, adt0_NC hw, adt0_NR hw, adt0_NN hw, adt0_NW hw, adt0_NT hw, adt0_NL hw, adt0_WY hw, adt0_UP hw, adt0_NO hw, adt0_CL hw, adt0_CD hw, adt0_WH hw, adt0_WP hw, adt0_OP hw, adt0_TO hw, adt0_RC hw, adt0_WC hw, adt0_RO hw, adt0_RX hw, adt0_RK hw, adt0_RU hw, adt0_RF hw, adt0_RM hw, adt0_WO hw, adt0_WX hw, adt0_WK hw, adt0_WF hw, adt0_WM hw, adt0_WT hw, adt0_WQ hw, adt0_TC hw, adt0_TW hw, adt0_TP hw, adt0_TT hw, adt0_TQ hw, adt0_LW hw, adt0_LO hw, adt0_LC hw, adt0_LP hw, if_pos hw, if_true]
    omega
  · simp only [Q6c, acm, if_pos hw] at h6
    simp only [Q6c, acm, adt0_ST hw, adt0_AT hw, adt0_FA hw, adt0_FP hw, adt0_NC hw, adt0_NR hw, adt0_NN hw, adt0_NW hw, adt0_NT hw, adt0_NL hw, adt0_WY hw, adt0_UP hw, adt0_NO hw, adt0_CL hw, adt0_CD hw, adt0_WH hw, adt0_WP hw, adt0_OP hw, adt0_TO hw, adt0_RC hw, adt0_WC hw, adt0_RO hw, adt0_RX hw, adt0_RK hw, adt0_RU hw, adt0_RF hw, adt0_RM hw, adt0_WO hw, adt0_WX hw, adt0_WK hw, adt0_WF hw, adt0_WM hw, adt0_WT hw, adt0_WQ hw, adt0_TC hw, adt0_TW hw, adt0_TP hw, adt0_TT hw, adt0_TQ hw, adt0_LW hw, adt0_LO hw, adt0_LC hw, adt0_LP hw, if_pos hw, if_true]
    omega
set_option maxHeartbeats 1000000 in
theorem AI_adt1 {c : aN} (t : aK) (v : Int32) (h : AI c) (hs : (c.1 0 0) = 16) (hw : ¬ (c.1 10 0) = 0) : AI (gt t (adt c v) 17) := by
  have h0 := h
  obtain ⟨h1, h2, h3, h4, h5, h6⟩ := h
  have h5 : Q5c c 16 := by have := h5; unfold Q5 at this; rw [hs] at this; exact this
  have h6 : Q6c c 16 := by have := h6; unfold Q6 at this; rw [hs] at this; exact this
  simp only [Q5c, acm, if_neg hw] at h5
  refine AI_mk t 17 ?_ ?_ ?_ ?_ ?_ ?_
  · simp only [Q1, adt1_ST hw, adt1_AT hw, adt1_FA hw, adt1_FP hw, adt1_NC hw, adt1_NR hw, adt1_NN hw, adt1_NW hw, adt1_NT hw, adt1_NL hw, adt1_WY hw, adt1_UP hw, adt1_NO hw, adt1_CL hw, adt1_CD hw, adt1_WH hw, adt1_WP hw, adt1_OP hw, adt1_TO hw, adt1_RC hw, adt1_WC hw, adt1_RO hw, adt1_RX hw, adt1_RK hw, adt1_RU hw, adt1_RF hw, adt1_RM hw, adt1_WO hw, adt1_WX hw, adt1_WK hw, adt1_WF hw, adt1_WM hw, adt1_WT hw, adt1_WQ hw, adt1_TC hw, adt1_TW hw, adt1_TP hw, adt1_TT hw, adt1_TQ hw, adt1_LW hw, adt1_LO hw, adt1_LC hw, adt1_LP hw]
    exact h1
  · simp only [Q2, adt1_ST hw, adt1_AT hw, adt1_FA hw, adt1_FP hw, adt1_NC hw, adt1_NR hw, adt1_NN hw, adt1_NW hw, adt1_NT hw, adt1_NL hw, adt1_WY hw, adt1_UP hw, adt1_NO hw, adt1_CL hw, adt1_CD hw, adt1_WH hw, adt1_WP hw, adt1_OP hw, adt1_TO hw, adt1_RC hw, adt1_WC hw, adt1_RO hw, adt1_RX hw, adt1_RK hw, adt1_RU hw, adt1_RF hw, adt1_RM hw, adt1_WO hw, adt1_WX hw, adt1_WK hw, adt1_WF hw, adt1_WM hw, adt1_WT hw, adt1_WQ hw, adt1_TC hw, adt1_TW hw, adt1_TP hw, adt1_TT hw, adt1_TQ hw, adt1_LW hw, adt1_LO hw, adt1_LC hw, adt1_LP hw]
    intro r hr
    obtain ⟨g1, g2, g3, g4⟩ := h2 r hr
    exact ⟨g1, g2, g3, by omega⟩
  · simp only [Q3, adt1_ST hw, adt1_AT hw, adt1_FA hw, adt1_FP hw, adt1_NC hw, adt1_NR hw, adt1_NN hw, adt1_NW hw, adt1_NT hw, adt1_NL hw, adt1_WY hw, adt1_UP hw, adt1_NO hw, adt1_CL hw, adt1_CD hw, adt1_WH hw, adt1_WP hw, adt1_OP hw, adt1_TO hw, adt1_RC hw, adt1_WC hw, adt1_RO hw, adt1_RX hw, adt1_RK hw, adt1_RU hw, adt1_RF hw, adt1_RM hw, adt1_WO hw, adt1_WX hw, adt1_WK hw, adt1_WF hw, adt1_WM hw, adt1_WT hw, adt1_WQ hw, adt1_TC hw, adt1_TW hw, adt1_TP hw, adt1_TT hw, adt1_TQ hw, adt1_LW hw, adt1_LO hw, adt1_LC hw, adt1_LP hw]
    intro r hr
    obtain ⟨g1, g2, g3, g4⟩ := h3 r hr
    refine ⟨g1, g2, ?_, ?_⟩
    · split <;> omega
    · split
      · rename_i e; rw [e]; omega
      · omega
  · simp only [Q4, adt1_ST hw, adt1_AT hw, adt1_FA hw, adt1_FP hw, adt1_NC hw, adt1_NR hw, adt1_NN hw, adt1_NW hw, adt1_NT hw, adt1_NL hw, adt1_WY hw, adt1_UP hw, adt1_NO hw, adt1_CL hw, adt1_CD hw, adt1_WH hw, adt1_WP hw, adt1_OP hw, adt1_TO hw, adt1_RC hw, adt1_WC hw, adt1_RO hw, adt1_RX hw, adt1_RK hw, adt1_RU hw, adt1_RF hw, adt1_RM hw, adt1_WO hw, adt1_WX hw, adt1_WK hw, adt1_WF hw, adt1_WM hw, adt1_WT hw, adt1_WQ hw, adt1_TC hw, adt1_TW hw, adt1_TP hw, adt1_TT hw, adt1_TQ hw, adt1_LW hw, adt1_LO hw, adt1_LC hw, adt1_LP hw]
    exact h4
  · simp only [Q5c, acm, adt1_ST hw, adt1_AT hw, adt1_FA hw, adt1_FP hw, adt1_NC hw, adt1_NR hw, adt1_NN hw, adt1_NW hw, adt1_NT hw, adt1_NL hw, adt1_WY hw, adt1_UP hw, adt1_NO hw, adt1_CL hw, adt1_CD hw, adt1_WH hw, adt1_WP hw, adt1_OP hw, adt1_TO hw, adt1_RC hw, adt1_WC hw, adt1_RO hw, adt1_RX hw, adt1_RK hw, adt1_RU hw, adt1_RF hw, adt1_RM hw, adt1_WO hw, adt1_WX hw, adt1_WK hw, adt1_WF hw, adt1_WM hw, adt1_WT hw, adt1_WQ hw, adt1_TC hw, adt1_TW hw, adt1_TP hw, adt1_TT hw, adt1_TQ hw, adt1_LW hw, adt1_LO hw, adt1_LC hw, adt1_LP hw, if_neg hw, if_true]
    omega
  · simp only [Q6c, acm, if_neg hw] at h6
    simp only [Q6c, acm, adt1_ST hw, adt1_AT hw, adt1_FA hw, adt1_FP hw, adt1_NC hw, adt1_NR hw, adt1_NN hw, adt1_NW hw, adt1_NT hw, adt1_NL hw, adt1_WY hw, adt1_UP hw, adt1_NO hw, adt1_CL hw, adt1_CD hw, adt1_WH hw, adt1_WP hw, adt1_OP hw, adt1_TO hw, adt1_RC hw, adt1_WC hw, adt1_RO hw, adt1_RX hw, adt1_RK hw, adt1_RU hw, adt1_RF hw, adt1_RM hw, adt1_WO hw, adt1_WX hw, adt1_WK hw, adt1_WF hw, adt1_WM hw, adt1_WT hw, adt1_WQ hw, adt1_TC hw, adt1_TW hw, adt1_TP hw, adt1_TT hw, adt1_TQ hw, adt1_LW hw, adt1_LO hw, adt1_LC hw, adt1_LP hw, if_neg hw, if_true]
    omega
theorem AI_a16 {c : aN} (t : aK) (h : AI c) (hs : (c.1 0 0) = 16) : AI (a16 t c) := by
  unfold a16
  split
  · by_cases hw : (c.1 10 0) = 0
    · exact AI_adt0 t _ h hs hw
    · exact AI_adt1 t _ h hs hw
  · exact AI_wr t h
theorem stT_1 {c : aN} (t : aK) (hs : (c.1 0 0) = 1) : stT t c = a1 t c := by unfold stT; rw [hs]; rfl
theorem stT_2 {c : aN} (t : aK) (hs : (c.1 0 0) = 2) : stT t c = a2 t c := by unfold stT; rw [hs]; rfl
theorem stT_3 {c : aN} (t : aK) (hs : (c.1 0 0) = 3) : stT t c = a3 t c := by unfold stT; rw [hs]; rfl
theorem stT_4 {c : aN} (t : aK) (hs : (c.1 0 0) = 4) : stT t c = a4 t c := by unfold stT; rw [hs]; rfl
theorem stT_5 {c : aN} (t : aK) (hs : (c.1 0 0) = 5) : stT t c = a5 t c := by unfold stT; rw [hs]; rfl
theorem stT_6 {c : aN} (t : aK) (hs : (c.1 0 0) = 6) : stT t c = a6 t c := by unfold stT; rw [hs]; rfl
theorem stT_7 {c : aN} (t : aK) (hs : (c.1 0 0) = 7) : stT t c = a7 t c := by unfold stT; rw [hs]; rfl
theorem stT_8 {c : aN} (t : aK) (hs : (c.1 0 0) = 8) : stT t c = a8 t c := by unfold stT; rw [hs]; rfl
theorem stT_9 {c : aN} (t : aK) (hs : (c.1 0 0) = 9) : stT t c = a9 t c := by unfold stT; rw [hs]; rfl
theorem stT_10 {c : aN} (t : aK) (hs : (c.1 0 0) = 10) : stT t c = a10 t c := by unfold stT; rw [hs]; rfl
theorem stT_11 {c : aN} (t : aK) (hs : (c.1 0 0) = 11) : stT t c = a11 t c := by unfold stT; rw [hs]; rfl
theorem stT_12 {c : aN} (t : aK) (hs : (c.1 0 0) = 12) : stT t c = a12 t c := by unfold stT; rw [hs]; rfl
theorem stT_13 {c : aN} (t : aK) (hs : (c.1 0 0) = 13) : stT t c = a13 t c := by unfold stT; rw [hs]; rfl
theorem stT_14 {c : aN} (t : aK) (hs : (c.1 0 0) = 14) : stT t c = a14 t c := by unfold stT; rw [hs]; rfl
theorem stT_15 {c : aN} (t : aK) (hs : (c.1 0 0) = 15) : stT t c = a15 t c := by unfold stT; rw [hs]; rfl
theorem stT_16 {c : aN} (t : aK) (hs : (c.1 0 0) = 16) : stT t c = a16 t c := by unfold stT; rw [hs]; rfl
theorem stT_17 {c : aN} (t : aK) (hs : (c.1 0 0) = 17) : stT t c = a17 t c := by unfold stT; rw [hs]; rfl
theorem AI_stT {c : aN} (t : aK) (h : AI c) : AI (stT t c) := by
  by_cases e1 : (c.1 0 0) = 1
  · rw [stT_1 t e1]; exact AI_a1 t h e1
  by_cases e2 : (c.1 0 0) = 2
  · rw [stT_2 t e2]; exact AI_a2 t h e2
  by_cases e3 : (c.1 0 0) = 3
  · rw [stT_3 t e3]; exact AI_a3 t h e3
  by_cases e4 : (c.1 0 0) = 4
  · rw [stT_4 t e4]; exact AI_a4 t h e4
  by_cases e5 : (c.1 0 0) = 5
  · rw [stT_5 t e5]; exact AI_a5 t h e5
  by_cases e6 : (c.1 0 0) = 6
  · rw [stT_6 t e6]; exact AI_a6 t h e6
  by_cases e7 : (c.1 0 0) = 7
  · rw [stT_7 t e7]; exact AI_a7 t h e7
  by_cases e8 : (c.1 0 0) = 8
  · rw [stT_8 t e8]; exact AI_a8 t h e8
  by_cases e9 : (c.1 0 0) = 9
  · rw [stT_9 t e9]; exact AI_a9 t h e9
  by_cases e10 : (c.1 0 0) = 10
  · rw [stT_10 t e10]; exact AI_a10 t h e10
  by_cases e11 : (c.1 0 0) = 11
  · rw [stT_11 t e11]; exact AI_a11 t h e11
  by_cases e12 : (c.1 0 0) = 12
  · rw [stT_12 t e12]; exact AI_a12 t h e12
  by_cases e13 : (c.1 0 0) = 13
  · rw [stT_13 t e13]; exact AI_a13 t h e13
  by_cases e14 : (c.1 0 0) = 14
  · rw [stT_14 t e14]; exact AI_a14 t h e14
  by_cases e15 : (c.1 0 0) = 15
  · rw [stT_15 t e15]; exact AI_a15 t h e15
  by_cases e16 : (c.1 0 0) = 16
  · rw [stT_16 t e16]; exact AI_a16 t h e16
  by_cases e17 : (c.1 0 0) = 17
  · rw [stT_17 t e17]; exact AI_a17 t h e17
  unfold stT
  rw [if_neg e1, if_neg e2, if_neg e3, if_neg e4, if_neg e5, if_neg e6, if_neg e7, if_neg e8, if_neg e9, if_neg e10, if_neg e11, if_neg e12, if_neg e13, if_neg e14, if_neg e15, if_neg e16, if_neg e17]
  exact h
theorem AI_stp {n : Nat} {f : Nat → Nat} {c : aN} (h : AI c) : AI (stp n f c) := by
  unfold stp
  split
  · exact AI_stT _ h
  · exact h
theorem AI_ait {n : Nat} {f : Nat → Nat} : ∀ (m : Nat) {c : aN}, AI c → AI (ait n f m c)
  | 0, _, h => h
  | m + 1, _, h => AI_ait m (AI_stp h)
theorem AI_Rc {n : Nat} {f : Nat → Nat} {c d : aN} (h : AI c) (g : aRc n f c d) : AI d := by
  obtain ⟨m, rfl⟩ := g
  exact AI_ait m h
theorem AI_0 : AI aC0 := by
  refine ⟨?_, ?_, ?_, ?_, show Q5c aC0 1 from ?_, show Q6c aC0 1 from ?_⟩
  · exact ⟨by decide, by decide, fun _ h => absurd h (by simp [aC0]), fun _ h => absurd h (by simp [aC0])⟩
  · exact fun _ h => absurd h (by simp [aC0])
  · exact fun _ h => absurd h (by simp [aC0])
  · exact ⟨fun _ h => absurd h (by simp [aC0]), fun _ h => absurd h (by simp [aC0])⟩
  · simp [Q5c, aC0]
  · simp [Q6c, aC0]
