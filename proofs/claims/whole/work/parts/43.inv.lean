/-! The machine's own invariants -/
def Q1 (c : aN) : Prop := (c.1 4 0) ≤ 6 ∧ (c.1 6 0) ≤ 24 ∧ (∀ k, k < (c.1 4 0) → c.1 21 (k) ≤ 4) ∧ (∀ k, k < (c.1 6 0) → c.1 22 (k) ≤ 8)
def Q2 (c : aN) : Prop := ∀ r, r < (c.1 5 0) → c.1 23 (r) < (c.1 4 0) ∧ c.1 24 (r) < c.1 21 (c.1 23 (r)) ∧ c.1 28 (r) ≤ 4 ∧ c.1 27 (r) + c.1 28 (r) ≤ (c.1 8 0)
def Q3 (c : aN) : Prop := ∀ r, r < (c.1 7 0) → c.1 29 (r) < (c.1 6 0) ∧ c.1 30 (r) < c.1 22 (c.1 29 (r)) ∧ c.1 33 (r) ≤ 4 ∧ c.1 32 (r) + c.1 33 (r) ≤ (c.1 8 0)
def Q4 (c : aN) : Prop := (∀ r, r + 1 < (c.1 5 0) → c.1 23 (r) = c.1 23 ((c.1 5 0) - 1) → c.1 24 (r) < c.1 24 ((c.1 5 0) - 1)) ∧ (∀ r, r + 1 < (c.1 7 0) → c.1 29 (r) = c.1 29 ((c.1 7 0) - 1) → c.1 30 (r) < c.1 30 ((c.1 7 0) - 1))
def Q5c (c : aN) (s : Nat) : Prop := (s ≤ 17 ∨ s = 99) ∧ (s = 2 ∨ s = 5 → (c.1 6 0) < 24) ∧ (s = 3 → (c.1 6 0) = 0 ∧ (c.1 4 0) < 6) ∧ (s = 4 ∨ 6 ≤ s ∧ s ≤ 17 → ((c.1 10 0) = 0 ∧ (c.1 6 0) = 0 ∧ 1 ≤ (c.1 4 0)) ∨ ((c.1 10 0) = 1 ∧ 1 ≤ (c.1 6 0))) ∧ (s = 4 → (c.1 10 0) = 0) ∧ (s = 7 ∨ s = 8 → ((c.1 10 0) = 0 → c.1 21 ((c.1 4 0) - 1) < 4) ∧ (¬ (c.1 10 0) = 0 → c.1 22 ((c.1 6 0) - 1) < 8)) ∧ (s = 9 ∨ 11 ≤ s ∧ s ≤ 17 → ((c.1 10 0) = 0 → 1 ≤ (c.1 5 0) ∧ c.1 23 ((c.1 5 0) - 1) + 1 = (c.1 4 0) ∧ c.1 27 ((c.1 5 0) - 1) + c.1 28 ((c.1 5 0) - 1) = (c.1 8 0)) ∧ (¬ (c.1 10 0) = 0 → 1 ≤ (c.1 7 0) ∧ c.1 29 ((c.1 7 0) - 1) + 1 = (c.1 6 0) ∧ c.1 32 ((c.1 7 0) - 1) + c.1 33 ((c.1 7 0) - 1) = (c.1 8 0))) ∧ (11 ≤ s ∧ s ≤ 16 → acm c < 4)
def Q5 (c : aN) : Prop := Q5c c (c.1 0 0)
def Q6c (c : aN) (s : Nat) : Prop := ((c.1 5 0) = 0 ∨ (c.1 5 0) + 4 ≤ 4 * (c.1 4 0) + c.1 21 ((c.1 4 0) - 1)) ∧ ((c.1 7 0) = 0 ∨ (c.1 7 0) + 8 ≤ 8 * (c.1 6 0) + c.1 22 ((c.1 6 0) - 1)) ∧ (c.1 8 0) ≤ 4 * ((c.1 5 0) + (c.1 7 0)) ∧ (s = 9 ∨ 11 ≤ s ∧ s ≤ 17 → (c.1 8 0) + 4 ≤ 4 * ((c.1 5 0) + (c.1 7 0)) + acm c)
def Q6 (c : aN) : Prop := Q6c c (c.1 0 0)
def AI (c : aN) : Prop := Q1 c ∧ Q2 c ∧ Q3 c ∧ Q4 c ∧ Q5 c ∧ Q6 c
theorem AI_wr {c : aN} (t : aK) (h : AI c) : AI (wr t c) := by
  obtain ⟨h1, h2, h3, h4, h5, h6⟩ := h
  refine ⟨h1, h2, h3, h4, show Q5c c 99 from ?_, show Q6c c 99 from ?_⟩
  · unfold Q5c; omega
  · exact ⟨h6.1, h6.2.1, h6.2.2.1, by omega⟩
theorem AI_gt {c : aN} (t : aK) (s : Nat) (h : AI c) (hs : Q5c c s) (hs6 : Q6c c s) : AI (gt t c s) := by
  obtain ⟨h1, h2, h3, h4, h5, h6⟩ := h
  exact ⟨h1, h2, h3, h4, hs, hs6⟩
theorem AI_a1 {c : aN} (t : aK) (h : AI c) (hs : (c.1 0 0) = 1) : AI (a1 t c) := by
  have h0 := h
  obtain ⟨h1, h2, h3, h4, h5, h6⟩ := h
  have h5 : Q5c c 1 := by have := h5; unfold Q5 at this; rw [hs] at this; exact this
  have h6 : Q6c c 1 := by have := h6; unfold Q6 at this; rw [hs] at this; exact this
  unfold a1
  split
  · split
    · exact ⟨h1, h2, h3, h4, show Q5c c 0 by unfold Q5c; omega, show Q6c c 0 from ⟨h6.1, h6.2.1, h6.2.2.1, by omega⟩⟩
    · exact ⟨h1, h2, h3, h4, show Q5c c 0 by unfold Q5c; omega, show Q6c c 0 from ⟨h6.1, h6.2.1, h6.2.2.1, by omega⟩⟩
  · split
    · rename_i hx
      exact AI_gt t 2 (show AI c from h0) (show Q5c c 2 by unfold Q5c at h5 ⊢; omega) (show Q6c c 2 by unfold Q6c at h6 ⊢; unfold Q5c at h5; omega)
    · exact AI_wr t h0
theorem AI_a2 {c : aN} (t : aK) (h : AI c) (hs : (c.1 0 0) = 2) : AI (a2 t c) := by
  have h0 := h
  obtain ⟨h1, h2, h3, h4, h5, h6⟩ := h
  have h5 : Q5c c 2 := by have := h5; unfold Q5 at this; rw [hs] at this; exact this
  have h6 : Q6c c 2 := by have := h6; unfold Q6 at this; rw [hs] at this; exact this
  unfold a2
  split
  · rename_i hx
    exact AI_gt t 5 (show AI c from h0) (show Q5c c 5 by unfold Q5c at h5 ⊢; omega) (show Q6c c 5 by unfold Q6c at h6 ⊢; unfold Q5c at h5; omega)
  · skip
    split
    · rename_i hx
      exact AI_gt t 3 (show AI c from h0) (show Q5c c 3 by unfold Q5c at h5 ⊢; omega) (show Q6c c 3 by unfold Q6c at h6 ⊢; unfold Q5c at h5; omega)
    · skip
      exact AI_wr t h0
theorem AI_a4 {c : aN} (t : aK) (h : AI c) (hs : (c.1 0 0) = 4) : AI (a4 t c) := by
  have h0 := h
  obtain ⟨h1, h2, h3, h4, h5, h6⟩ := h
  have h5 : Q5c c 4 := by have := h5; unfold Q5 at this; rw [hs] at this; exact this
  have h6 : Q6c c 4 := by have := h6; unfold Q6 at this; rw [hs] at this; exact this
  unfold a4
  split
  · rename_i hx
    exact AI_gt t 6 (show AI c from h0) (show Q5c c 6 by unfold Q5c at h5 ⊢; omega) (show Q6c c 6 by unfold Q6c at h6 ⊢; unfold Q5c at h5; omega)
  · skip
    exact AI_wr t h0
theorem AI_a10 {c : aN} (t : aK) (h : AI c) (hs : (c.1 0 0) = 10) : AI (a10 t c) := by
  have h0 := h
  obtain ⟨h1, h2, h3, h4, h5, h6⟩ := h
  have h5 : Q5c c 10 := by have := h5; unfold Q5 at this; rw [hs] at this; exact this
  have h6 : Q6c c 10 := by have := h6; unfold Q6 at this; rw [hs] at this; exact this
  unfold a10
  split
  · rename_i hx
    exact AI_gt t 6 (show AI c from h0) (show Q5c c 6 by unfold Q5c at h5 ⊢; omega) (show Q6c c 6 by unfold Q6c at h6 ⊢; unfold Q5c at h5; omega)
  · skip
    exact AI_wr t h0
theorem AI_a11 {c : aN} (t : aK) (h : AI c) (hs : (c.1 0 0) = 11) : AI (a11 t c) := by
  have h0 := h
  obtain ⟨h1, h2, h3, h4, h5, h6⟩ := h
  have h5 : Q5c c 11 := by have := h5; unfold Q5 at this; rw [hs] at this; exact this
  have h6 : Q6c c 11 := by have := h6; unfold Q6 at this; rw [hs] at this; exact this
  unfold a11
  split
  · rename_i hx
    exact AI_gt t 12 (show AI c from h0) (show Q5c c 12 by unfold Q5c at h5 ⊢; omega) (show Q6c c 12 by unfold Q6c at h6 ⊢; unfold Q5c at h5; omega)
  · skip
    split
    · rename_i hx
      exact AI_gt t 13 (show AI c from h0) (show Q5c c 13 by unfold Q5c at h5 ⊢; omega) (show Q6c c 13 by unfold Q6c at h6 ⊢; unfold Q5c at h5; omega)
    · skip
      split
      · rename_i hx
        exact AI_gt t 14 (show AI c from h0) (show Q5c c 14 by unfold Q5c at h5 ⊢; omega) (show Q6c c 14 by unfold Q6c at h6 ⊢; unfold Q5c at h5; omega)
      · skip
        exact AI_wr t h0
theorem AI_a12 {c : aN} (t : aK) (h : AI c) (hs : (c.1 0 0) = 12) : AI (a12 t c) := by
  have h0 := h
  obtain ⟨h1, h2, h3, h4, h5, h6⟩ := h
  have h5 : Q5c c 12 := by have := h5; unfold Q5 at this; rw [hs] at this; exact this
  have h6 : Q6c c 12 := by have := h6; unfold Q6 at this; rw [hs] at this; exact this
  unfold a12
  split
  · rename_i hx
    exact AI_gt t 11 (show AI c from h0) (show Q5c c 11 by unfold Q5c at h5 ⊢; omega) (show Q6c c 11 by unfold Q6c at h6 ⊢; unfold Q5c at h5; omega)
  · skip
    exact AI_wr t h0
theorem AI_a13 {c : aN} (t : aK) (h : AI c) (hs : (c.1 0 0) = 13) : AI (a13 t c) := by
  have h0 := h
  obtain ⟨h1, h2, h3, h4, h5, h6⟩ := h
  have h5 : Q5c c 13 := by have := h5; unfold Q5 at this; rw [hs] at this; exact this
  have h6 : Q6c c 13 := by have := h6; unfold Q6 at this; rw [hs] at this; exact this
  unfold a13
  split
  · rename_i hx
    exact AI_gt t 15 (show AI c from h0) (show Q5c c 15 by unfold Q5c at h5 ⊢; omega) (show Q6c c 15 by unfold Q6c at h6 ⊢; unfold Q5c at h5; omega)
  · skip
    exact AI_wr t h0
theorem AI_a14 {c : aN} (t : aK) (h : AI c) (hs : (c.1 0 0) = 14) : AI (a14 t c) := by
  have h0 := h
  obtain ⟨h1, h2, h3, h4, h5, h6⟩ := h
  have h5 : Q5c c 14 := by have := h5; unfold Q5 at this; rw [hs] at this; exact this
  have h6 : Q6c c 14 := by have := h6; unfold Q6 at this; rw [hs] at this; exact this
  unfold a14
  split
  · rename_i hx
    exact AI_gt t 15 (show AI c from h0) (show Q5c c 15 by unfold Q5c at h5 ⊢; omega) (show Q6c c 15 by unfold Q6c at h6 ⊢; unfold Q5c at h5; omega)
  · skip
    exact AI_wr t h0
theorem AI_a15 {c : aN} (t : aK) (h : AI c) (hs : (c.1 0 0) = 15) : AI (a15 t c) := by
  have h0 := h
  obtain ⟨h1, h2, h3, h4, h5, h6⟩ := h
  have h5 : Q5c c 15 := by have := h5; unfold Q5 at this; rw [hs] at this; exact this
  have h6 : Q6c c 15 := by have := h6; unfold Q6 at this; rw [hs] at this; exact this
  unfold a15
  split
  · rename_i hx
    exact AI_gt t 16 (show AI c from h0) (show Q5c c 16 by unfold Q5c at h5 ⊢; omega) (show Q6c c 16 by unfold Q6c at h6 ⊢; unfold Q5c at h5; omega)
  · skip
    split
    · rename_i hx
      exact AI_gt t 16 (show AI c from h0) (show Q5c c 16 by unfold Q5c at h5 ⊢; omega) (show Q6c c 16 by unfold Q6c at h6 ⊢; unfold Q5c at h5; omega)
    · skip
      split
      · rename_i hx
        exact AI_gt t 16 (show AI c from h0) (show Q5c c 16 by unfold Q5c at h5 ⊢; omega) (show Q6c c 16 by unfold Q6c at h6 ⊢; unfold Q5c at h5; omega)
      · skip
        exact AI_wr t h0
theorem AI_a6 {c : aN} (t : aK) (h : AI c) (hs : (c.1 0 0) = 6) : AI (a6 t c) := by
  have h0 := h
  obtain ⟨h1, h2, h3, h4, h5, h6⟩ := h
  have h5 : Q5c c 6 := by have := h5; unfold Q5 at this; rw [hs] at this; exact this
  have h6 : Q6c c 6 := by have := h6; unfold Q6 at this; rw [hs] at this; exact this
  unfold a6
  split
  · rename_i hx
    exact AI_gt t 1 (show AI c from h0) (show Q5c c 1 by unfold Q5c at h5 ⊢; omega) (show Q6c c 1 by unfold Q6c at h6 ⊢; unfold Q5c at h5; omega)
  · by_cases hx : t.1 = 1 ∧ (if (c.1 10 0) = 0 then c.1 21 ((c.1 4 0) - 1) < 4 else c.1 22 ((c.1 6 0) - 1) < 8)
    · rw [if_pos hx]
      have hy := hx.2
      refine AI_gt t 7 h0 ?_ ?_
      · by_cases hw : (c.1 10 0) = 0
        · rw [if_pos hw] at hy; unfold Q5c at h5 ⊢; omega
        · rw [if_neg hw] at hy; unfold Q5c at h5 ⊢; omega
      · exact ⟨h6.1, h6.2.1, h6.2.2.1, by omega⟩
    · rw [if_neg hx]; exact AI_wr t h0
theorem AI_a7 {c : aN} (t : aK) (h : AI c) (hs : (c.1 0 0) = 7) : AI (a7 t c) := by
  have h0 := h
  obtain ⟨h1, h2, h3, h4, h5, h6⟩ := h
  have h5 : Q5c c 7 := by have := h5; unfold Q5 at this; rw [hs] at this; exact this
  have h6 : Q6c c 7 := by have := h6; unfold Q6 at this; rw [hs] at this; exact this
  unfold a7
  split
  · split
    · rename_i hx
      exact AI_gt t 8 (show AI c from h0) (show Q5c c 8 by unfold Q5c at h5 ⊢; omega) (show Q6c c 8 by unfold Q6c at h6 ⊢; unfold Q5c at h5; omega)
    · split
      · rename_i hx
        exact AI_gt t 8 (show AI c from h0) (show Q5c c 8 by unfold Q5c at h5 ⊢; omega) (show Q6c c 8 by unfold Q6c at h6 ⊢; unfold Q5c at h5; omega)
      · exact AI_wr t h0
  · split
    · rename_i hx
      exact AI_gt t 8 (show AI c from h0) (show Q5c c 8 by unfold Q5c at h5 ⊢; omega) (show Q6c c 8 by unfold Q6c at h6 ⊢; unfold Q5c at h5; omega)
    · exact AI_wr t h0
theorem AI_a9 {c : aN} (t : aK) (h : AI c) (hs : (c.1 0 0) = 9) : AI (a9 t c) := by
  have h0 := h
  obtain ⟨h1, h2, h3, h4, h5, h6⟩ := h
  have h5 : Q5c c 9 := by have := h5; unfold Q5 at this; rw [hs] at this; exact this
  have h6 : Q6c c 9 := by have := h6; unfold Q6 at this; rw [hs] at this; exact this
  unfold a9
  split
  · rename_i hx
    exact AI_gt t 11 (show AI c from h0) (show Q5c c 11 by unfold Q5c at h5 ⊢; omega) (show Q6c c 11 by unfold Q6c at h6 ⊢; unfold Q5c at h5; omega)
  · split
    · split
      · rename_i hx
        exact AI_gt t 6 (show AI c from h0) (show Q5c c 6 by unfold Q5c at h5 ⊢; omega) (show Q6c c 6 by unfold Q6c at h6 ⊢; unfold Q5c at h5; omega)
      · exact AI_wr t h0
    · split
      · rename_i hx
        exact AI_gt t 10 (show AI c from h0) (show Q5c c 10 by unfold Q5c at h5 ⊢; omega) (show Q6c c 10 by unfold Q6c at h6 ⊢; unfold Q5c at h5; omega)
      · exact AI_wr t h0
theorem AI_a17 {c : aN} (t : aK) (h : AI c) (hs : (c.1 0 0) = 17) : AI (a17 t c) := by
  have h0 := h
  obtain ⟨h1, h2, h3, h4, h5, h6⟩ := h
  have h5 : Q5c c 17 := by have := h5; unfold Q5 at this; rw [hs] at this; exact this
  have h6 : Q6c c 17 := by have := h6; unfold Q6 at this; rw [hs] at this; exact this
  unfold a17
  split
  · split
    · rename_i hx
      exact AI_gt t 17 (show AI c from h0) (show Q5c c 17 by unfold Q5c at h5 ⊢; omega) (show Q6c c 17 by unfold Q6c at h6 ⊢; unfold Q5c at h5; omega)
    · rename_i hx
      exact AI_gt t 9 (show AI c from h0) (show Q5c c 9 by unfold Q5c at h5 ⊢; omega) (show Q6c c 9 by unfold Q6c at h6 ⊢; unfold Q5c at h5; omega)
  · exact AI_wr t h0
theorem ahc_ST {c : aN} {l : List Nat} : (ahc c l).1 0 = c.1 0 := rfl
theorem ahc_AT {c : aN} {l : List Nat} : (ahc c l).1 1 = c.1 1 := rfl
theorem ahc_FA {c : aN} {l : List Nat} : (ahc c l).1 2 = c.1 2 := rfl
theorem ahc_FP {c : aN} {l : List Nat} : (ahc c l).1 3 = c.1 3 := rfl
theorem ahc_NC {c : aN} {l : List Nat} : (ahc c l).1 4 0 = (c.1 4 0) + 1 := rfl
theorem ahc_NR {c : aN} {l : List Nat} : (ahc c l).1 5 = c.1 5 := rfl
theorem ahc_NN {c : aN} {l : List Nat} : (ahc c l).1 6 = c.1 6 := rfl
theorem ahc_NW {c : aN} {l : List Nat} : (ahc c l).1 7 = c.1 7 := rfl
theorem ahc_NT {c : aN} {l : List Nat} : (ahc c l).1 8 = c.1 8 := rfl
theorem ahc_NL {c : aN} {l : List Nat} : (ahc c l).1 9 = c.1 9 := rfl
theorem ahc_WY {c : aN} {l : List Nat} : (ahc c l).1 10 0 = 0 := rfl
theorem ahc_UP {c : aN} {l : List Nat} : (ahc c l).1 11 = c.1 11 := rfl
theorem ahc_NO {c : aN} {l : List Nat} : (ahc c l).1 12 = c.1 12 := rfl
theorem ahc_CL {c : aN} {l : List Nat} : (ahc c l).1 13 = c.1 13 := rfl
theorem ahc_CD {c : aN} {l : List Nat} : (ahc c l).1 14 = c.1 14 := rfl
theorem ahc_WH {c : aN} {l : List Nat} : (ahc c l).1 15 = c.1 15 := rfl
theorem ahc_WP {c : aN} {l : List Nat} : (ahc c l).1 16 = c.1 16 := rfl
theorem ahc_OP {c : aN} {l : List Nat} : (ahc c l).1 17 = c.1 17 := rfl
theorem ahc_TO {c : aN} {l : List Nat} (j : Nat) : (ahc c l).1 20 j = if j = (c.1 4 0) then 0 else c.1 20 j := rfl
theorem ahc_RC {c : aN} {l : List Nat} (j : Nat) : (ahc c l).1 21 j = if j = (c.1 4 0) then 0 else c.1 21 j := rfl
theorem ahc_WC {c : aN} {l : List Nat} : (ahc c l).1 22 = c.1 22 := rfl
theorem ahc_RO {c : aN} {l : List Nat} : (ahc c l).1 23 = c.1 23 := rfl
theorem ahc_RX {c : aN} {l : List Nat} : (ahc c l).1 24 = c.1 24 := rfl
theorem ahc_RK {c : aN} {l : List Nat} : (ahc c l).1 25 = c.1 25 := rfl
theorem ahc_RU {c : aN} {l : List Nat} : (ahc c l).1 26 = c.1 26 := rfl
theorem ahc_RF {c : aN} {l : List Nat} : (ahc c l).1 27 = c.1 27 := rfl
theorem ahc_RM {c : aN} {l : List Nat} : (ahc c l).1 28 = c.1 28 := rfl
theorem ahc_WO {c : aN} {l : List Nat} : (ahc c l).1 29 = c.1 29 := rfl
theorem ahc_WX {c : aN} {l : List Nat} : (ahc c l).1 30 = c.1 30 := rfl
theorem ahc_WK {c : aN} {l : List Nat} : (ahc c l).1 31 = c.1 31 := rfl
theorem ahc_WF {c : aN} {l : List Nat} : (ahc c l).1 32 = c.1 32 := rfl
theorem ahc_WM {c : aN} {l : List Nat} : (ahc c l).1 33 = c.1 33 := rfl
theorem ahc_WT {c : aN} {l : List Nat} : (ahc c l).1 34 = c.1 34 := rfl
theorem ahc_WQ {c : aN} {l : List Nat} : (ahc c l).1 35 = c.1 35 := rfl
theorem ahc_TC {c : aN} {l : List Nat} : (ahc c l).1 36 = c.1 36 := rfl
theorem ahc_TW {c : aN} {l : List Nat} : (ahc c l).1 37 = c.1 37 := rfl
theorem ahc_TP {c : aN} {l : List Nat} : (ahc c l).1 38 = c.1 38 := rfl
theorem ahc_TT {c : aN} {l : List Nat} : (ahc c l).1 39 = c.1 39 := rfl
theorem ahc_TQ {c : aN} {l : List Nat} : (ahc c l).1 40 = c.1 40 := rfl
theorem ahc_LW {c : aN} {l : List Nat} : (ahc c l).1 41 = c.1 41 := rfl
theorem ahc_LO {c : aN} {l : List Nat} : (ahc c l).1 42 = c.1 42 := rfl
theorem ahc_LC {c : aN} {l : List Nat} : (ahc c l).1 43 = c.1 43 := rfl
theorem ahc_LP {c : aN} {l : List Nat} : (ahc c l).1 44 = c.1 44 := rfl
theorem ahn_ST {c : aN} {l : List Nat} : (ahn c l).1 0 = c.1 0 := rfl
theorem ahn_AT {c : aN} {l : List Nat} : (ahn c l).1 1 = c.1 1 := rfl
theorem ahn_FA {c : aN} {l : List Nat} : (ahn c l).1 2 = c.1 2 := rfl
theorem ahn_FP {c : aN} {l : List Nat} : (ahn c l).1 3 = c.1 3 := rfl
theorem ahn_NC {c : aN} {l : List Nat} : (ahn c l).1 4 = c.1 4 := rfl
theorem ahn_NR {c : aN} {l : List Nat} : (ahn c l).1 5 = c.1 5 := rfl
theorem ahn_NN {c : aN} {l : List Nat} : (ahn c l).1 6 0 = (c.1 6 0) + 1 := rfl
theorem ahn_NW {c : aN} {l : List Nat} : (ahn c l).1 7 = c.1 7 := rfl
theorem ahn_NT {c : aN} {l : List Nat} : (ahn c l).1 8 = c.1 8 := rfl
theorem ahn_NL {c : aN} {l : List Nat} : (ahn c l).1 9 = c.1 9 := rfl
theorem ahn_WY {c : aN} {l : List Nat} : (ahn c l).1 10 0 = 1 := rfl
theorem ahn_UP {c : aN} {l : List Nat} : (ahn c l).1 11 = c.1 11 := rfl
theorem ahn_NO {c : aN} {l : List Nat} : (ahn c l).1 12 = c.1 12 := rfl
theorem ahn_CL {c : aN} {l : List Nat} : (ahn c l).1 13 = c.1 13 := rfl
theorem ahn_CD {c : aN} {l : List Nat} : (ahn c l).1 14 = c.1 14 := rfl
theorem ahn_WH {c : aN} {l : List Nat} : (ahn c l).1 15 = c.1 15 := rfl
theorem ahn_WP {c : aN} {l : List Nat} : (ahn c l).1 16 = c.1 16 := rfl
theorem ahn_OP {c : aN} {l : List Nat} : (ahn c l).1 17 = c.1 17 := rfl
theorem ahn_TO {c : aN} {l : List Nat} : (ahn c l).1 20 = c.1 20 := rfl
theorem ahn_RC {c : aN} {l : List Nat} : (ahn c l).1 21 = c.1 21 := rfl
theorem ahn_WC {c : aN} {l : List Nat} (j : Nat) : (ahn c l).1 22 j = if j = (c.1 6 0) then 0 else c.1 22 j := rfl
theorem ahn_RO {c : aN} {l : List Nat} : (ahn c l).1 23 = c.1 23 := rfl
theorem ahn_RX {c : aN} {l : List Nat} : (ahn c l).1 24 = c.1 24 := rfl
theorem ahn_RK {c : aN} {l : List Nat} : (ahn c l).1 25 = c.1 25 := rfl
theorem ahn_RU {c : aN} {l : List Nat} : (ahn c l).1 26 = c.1 26 := rfl
theorem ahn_RF {c : aN} {l : List Nat} : (ahn c l).1 27 = c.1 27 := rfl
theorem ahn_RM {c : aN} {l : List Nat} : (ahn c l).1 28 = c.1 28 := rfl
theorem ahn_WO {c : aN} {l : List Nat} : (ahn c l).1 29 = c.1 29 := rfl
theorem ahn_WX {c : aN} {l : List Nat} : (ahn c l).1 30 = c.1 30 := rfl
theorem ahn_WK {c : aN} {l : List Nat} : (ahn c l).1 31 = c.1 31 := rfl
theorem ahn_WF {c : aN} {l : List Nat} : (ahn c l).1 32 = c.1 32 := rfl
theorem ahn_WM {c : aN} {l : List Nat} : (ahn c l).1 33 = c.1 33 := rfl
theorem ahn_WT {c : aN} {l : List Nat} : (ahn c l).1 34 = c.1 34 := rfl
theorem ahn_WQ {c : aN} {l : List Nat} : (ahn c l).1 35 = c.1 35 := rfl
theorem ahn_TC {c : aN} {l : List Nat} : (ahn c l).1 36 = c.1 36 := rfl
theorem ahn_TW {c : aN} {l : List Nat} : (ahn c l).1 37 = c.1 37 := rfl
theorem ahn_TP {c : aN} {l : List Nat} : (ahn c l).1 38 = c.1 38 := rfl
theorem ahn_TT {c : aN} {l : List Nat} : (ahn c l).1 39 = c.1 39 := rfl
theorem ahn_TQ {c : aN} {l : List Nat} : (ahn c l).1 40 = c.1 40 := rfl
theorem ahn_LW {c : aN} {l : List Nat} : (ahn c l).1 41 = c.1 41 := rfl
theorem ahn_LO {c : aN} {l : List Nat} : (ahn c l).1 42 = c.1 42 := rfl
theorem ahn_LC {c : aN} {l : List Nat} : (ahn c l).1 43 = c.1 43 := rfl
theorem ahn_LP {c : aN} {l : List Nat} : (ahn c l).1 44 = c.1 44 := rfl
theorem adc0_ST {c : aN} {n : Nat} (hw : (c.1 10 0) = 0) : (adc c n).1 0 = c.1 0 := by unfold adc; rw [if_pos hw]; rfl
theorem adc0_AT {c : aN} {n : Nat} (hw : (c.1 10 0) = 0) : (adc c n).1 1 = c.1 1 := by unfold adc; rw [if_pos hw]; rfl
theorem adc0_FA {c : aN} {n : Nat} (hw : (c.1 10 0) = 0) : (adc c n).1 2 = c.1 2 := by unfold adc; rw [if_pos hw]; rfl
theorem adc0_FP {c : aN} {n : Nat} (hw : (c.1 10 0) = 0) : (adc c n).1 3 = c.1 3 := by unfold adc; rw [if_pos hw]; rfl
theorem adc0_NC {c : aN} {n : Nat} (hw : (c.1 10 0) = 0) : (adc c n).1 4 = c.1 4 := by unfold adc; rw [if_pos hw]; rfl
theorem adc0_NR {c : aN} {n : Nat} (hw : (c.1 10 0) = 0) : (adc c n).1 5 0 = (c.1 5 0) + 1 := by unfold adc; rw [if_pos hw]; rfl
theorem adc0_NN {c : aN} {n : Nat} (hw : (c.1 10 0) = 0) : (adc c n).1 6 = c.1 6 := by unfold adc; rw [if_pos hw]; rfl
theorem adc0_NW {c : aN} {n : Nat} (hw : (c.1 10 0) = 0) : (adc c n).1 7 = c.1 7 := by unfold adc; rw [if_pos hw]; rfl
theorem adc0_NT {c : aN} {n : Nat} (hw : (c.1 10 0) = 0) : (adc c n).1 8 = c.1 8 := by unfold adc; rw [if_pos hw]; rfl
theorem adc0_NL {c : aN} {n : Nat} (hw : (c.1 10 0) = 0) : (adc c n).1 9 = c.1 9 := by unfold adc; rw [if_pos hw]; rfl
theorem adc0_WY {c : aN} {n : Nat} (hw : (c.1 10 0) = 0) : (adc c n).1 10 = c.1 10 := by unfold adc; rw [if_pos hw]; rfl
theorem adc0_UP {c : aN} {n : Nat} (hw : (c.1 10 0) = 0) : (adc c n).1 11 = c.1 11 := by unfold adc; rw [if_pos hw]; rfl
theorem adc0_NO {c : aN} {n : Nat} (hw : (c.1 10 0) = 0) : (adc c n).1 12 = c.1 12 := by unfold adc; rw [if_pos hw]; rfl
theorem adc0_CL {c : aN} {n : Nat} (hw : (c.1 10 0) = 0) : (adc c n).1 13 = c.1 13 := by unfold adc; rw [if_pos hw]; rfl
theorem adc0_CD {c : aN} {n : Nat} (hw : (c.1 10 0) = 0) : (adc c n).1 14 = c.1 14 := by unfold adc; rw [if_pos hw]; rfl
theorem adc0_WH {c : aN} {n : Nat} (hw : (c.1 10 0) = 0) : (adc c n).1 15 = c.1 15 := by unfold adc; rw [if_pos hw]; rfl
theorem adc0_WP {c : aN} {n : Nat} (hw : (c.1 10 0) = 0) : (adc c n).1 16 = c.1 16 := by unfold adc; rw [if_pos hw]; rfl
theorem adc0_OP {c : aN} {n : Nat} (hw : (c.1 10 0) = 0) : (adc c n).1 17 = c.1 17 := by unfold adc; rw [if_pos hw]; rfl
theorem adc0_TO {c : aN} {n : Nat} (hw : (c.1 10 0) = 0) : (adc c n).1 20 = c.1 20 := by unfold adc; rw [if_pos hw]; rfl
theorem adc0_RC {c : aN} {n : Nat} (hw : (c.1 10 0) = 0) (j : Nat) : (adc c n).1 21 j = if j = (c.1 4 0) - 1 then c.1 21 ((c.1 4 0) - 1) + 1 else c.1 21 j := by unfold adc; rw [if_pos hw]; rfl
theorem adc0_WC {c : aN} {n : Nat} (hw : (c.1 10 0) = 0) : (adc c n).1 22 = c.1 22 := by unfold adc; rw [if_pos hw]; rfl
theorem adc0_RO {c : aN} {n : Nat} (hw : (c.1 10 0) = 0) (j : Nat) : (adc c n).1 23 j = if j = (c.1 5 0) then (c.1 4 0) - 1 else c.1 23 j := by unfold adc; rw [if_pos hw]; rfl
theorem adc0_RX {c : aN} {n : Nat} (hw : (c.1 10 0) = 0) (j : Nat) : (adc c n).1 24 j = if j = (c.1 5 0) then c.1 21 ((c.1 4 0) - 1) else c.1 24 j := by unfold adc; rw [if_pos hw]; rfl
theorem adc0_RK {c : aN} {n : Nat} (hw : (c.1 10 0) = 0) (j : Nat) : (adc c n).1 25 j = if j = (c.1 5 0) then n else c.1 25 j := by unfold adc; rw [if_pos hw]; rfl
theorem adc0_RU {c : aN} {n : Nat} (hw : (c.1 10 0) = 0) (j : Nat) : (adc c n).1 26 j = if j = (c.1 5 0) then (c.1 11 0) else c.1 26 j := by unfold adc; rw [if_pos hw]; rfl
theorem adc0_RF {c : aN} {n : Nat} (hw : (c.1 10 0) = 0) (j : Nat) : (adc c n).1 27 j = if j = (c.1 5 0) then (c.1 8 0) else c.1 27 j := by unfold adc; rw [if_pos hw]; rfl
theorem adc0_RM {c : aN} {n : Nat} (hw : (c.1 10 0) = 0) (j : Nat) : (adc c n).1 28 j = if j = (c.1 5 0) then 0 else c.1 28 j := by unfold adc; rw [if_pos hw]; rfl
theorem adc0_WO {c : aN} {n : Nat} (hw : (c.1 10 0) = 0) : (adc c n).1 29 = c.1 29 := by unfold adc; rw [if_pos hw]; rfl
theorem adc0_WX {c : aN} {n : Nat} (hw : (c.1 10 0) = 0) : (adc c n).1 30 = c.1 30 := by unfold adc; rw [if_pos hw]; rfl
theorem adc0_WK {c : aN} {n : Nat} (hw : (c.1 10 0) = 0) : (adc c n).1 31 = c.1 31 := by unfold adc; rw [if_pos hw]; rfl
theorem adc0_WF {c : aN} {n : Nat} (hw : (c.1 10 0) = 0) : (adc c n).1 32 = c.1 32 := by unfold adc; rw [if_pos hw]; rfl
theorem adc0_WM {c : aN} {n : Nat} (hw : (c.1 10 0) = 0) : (adc c n).1 33 = c.1 33 := by unfold adc; rw [if_pos hw]; rfl
theorem adc0_WT {c : aN} {n : Nat} (hw : (c.1 10 0) = 0) : (adc c n).1 34 = c.1 34 := by unfold adc; rw [if_pos hw]; rfl
theorem adc0_WQ {c : aN} {n : Nat} (hw : (c.1 10 0) = 0) : (adc c n).1 35 = c.1 35 := by unfold adc; rw [if_pos hw]; rfl
theorem adc0_TC {c : aN} {n : Nat} (hw : (c.1 10 0) = 0) : (adc c n).1 36 = c.1 36 := by unfold adc; rw [if_pos hw]; rfl
theorem adc0_TW {c : aN} {n : Nat} (hw : (c.1 10 0) = 0) : (adc c n).1 37 = c.1 37 := by unfold adc; rw [if_pos hw]; rfl
theorem adc0_TP {c : aN} {n : Nat} (hw : (c.1 10 0) = 0) : (adc c n).1 38 = c.1 38 := by unfold adc; rw [if_pos hw]; rfl
theorem adc0_TT {c : aN} {n : Nat} (hw : (c.1 10 0) = 0) : (adc c n).1 39 = c.1 39 := by unfold adc; rw [if_pos hw]; rfl
theorem adc0_TQ {c : aN} {n : Nat} (hw : (c.1 10 0) = 0) : (adc c n).1 40 = c.1 40 := by unfold adc; rw [if_pos hw]; rfl
theorem adc0_LW {c : aN} {n : Nat} (hw : (c.1 10 0) = 0) : (adc c n).1 41 = c.1 41 := by unfold adc; rw [if_pos hw]; rfl
theorem adc0_LO {c : aN} {n : Nat} (hw : (c.1 10 0) = 0) : (adc c n).1 42 = c.1 42 := by unfold adc; rw [if_pos hw]; rfl
theorem adc0_LC {c : aN} {n : Nat} (hw : (c.1 10 0) = 0) : (adc c n).1 43 = c.1 43 := by unfold adc; rw [if_pos hw]; rfl
theorem adc0_LP {c : aN} {n : Nat} (hw : (c.1 10 0) = 0) : (adc c n).1 44 = c.1 44 := by unfold adc; rw [if_pos hw]; rfl
theorem adc1_ST {c : aN} {n : Nat} (hw : ¬ (c.1 10 0) = 0) : (adc c n).1 0 = c.1 0 := by unfold adc; rw [if_neg hw]; rfl
theorem adc1_AT {c : aN} {n : Nat} (hw : ¬ (c.1 10 0) = 0) : (adc c n).1 1 = c.1 1 := by unfold adc; rw [if_neg hw]; rfl
theorem adc1_FA {c : aN} {n : Nat} (hw : ¬ (c.1 10 0) = 0) : (adc c n).1 2 = c.1 2 := by unfold adc; rw [if_neg hw]; rfl
theorem adc1_FP {c : aN} {n : Nat} (hw : ¬ (c.1 10 0) = 0) : (adc c n).1 3 = c.1 3 := by unfold adc; rw [if_neg hw]; rfl
theorem adc1_NC {c : aN} {n : Nat} (hw : ¬ (c.1 10 0) = 0) : (adc c n).1 4 = c.1 4 := by unfold adc; rw [if_neg hw]; rfl
theorem adc1_NR {c : aN} {n : Nat} (hw : ¬ (c.1 10 0) = 0) : (adc c n).1 5 = c.1 5 := by unfold adc; rw [if_neg hw]; rfl
theorem adc1_NN {c : aN} {n : Nat} (hw : ¬ (c.1 10 0) = 0) : (adc c n).1 6 = c.1 6 := by unfold adc; rw [if_neg hw]; rfl
theorem adc1_NW {c : aN} {n : Nat} (hw : ¬ (c.1 10 0) = 0) : (adc c n).1 7 0 = (c.1 7 0) + 1 := by unfold adc; rw [if_neg hw]; rfl
theorem adc1_NT {c : aN} {n : Nat} (hw : ¬ (c.1 10 0) = 0) : (adc c n).1 8 = c.1 8 := by unfold adc; rw [if_neg hw]; rfl
theorem adc1_NL {c : aN} {n : Nat} (hw : ¬ (c.1 10 0) = 0) : (adc c n).1 9 = c.1 9 := by unfold adc; rw [if_neg hw]; rfl
theorem adc1_WY {c : aN} {n : Nat} (hw : ¬ (c.1 10 0) = 0) : (adc c n).1 10 = c.1 10 := by unfold adc; rw [if_neg hw]; rfl
theorem adc1_UP {c : aN} {n : Nat} (hw : ¬ (c.1 10 0) = 0) : (adc c n).1 11 = c.1 11 := by unfold adc; rw [if_neg hw]; rfl
theorem adc1_NO {c : aN} {n : Nat} (hw : ¬ (c.1 10 0) = 0) : (adc c n).1 12 = c.1 12 := by unfold adc; rw [if_neg hw]; rfl
theorem adc1_CL {c : aN} {n : Nat} (hw : ¬ (c.1 10 0) = 0) : (adc c n).1 13 = c.1 13 := by unfold adc; rw [if_neg hw]; rfl
theorem adc1_CD {c : aN} {n : Nat} (hw : ¬ (c.1 10 0) = 0) : (adc c n).1 14 = c.1 14 := by unfold adc; rw [if_neg hw]; rfl
theorem adc1_WH {c : aN} {n : Nat} (hw : ¬ (c.1 10 0) = 0) : (adc c n).1 15 = c.1 15 := by unfold adc; rw [if_neg hw]; rfl
theorem adc1_WP {c : aN} {n : Nat} (hw : ¬ (c.1 10 0) = 0) : (adc c n).1 16 = c.1 16 := by unfold adc; rw [if_neg hw]; rfl
theorem adc1_OP {c : aN} {n : Nat} (hw : ¬ (c.1 10 0) = 0) : (adc c n).1 17 = c.1 17 := by unfold adc; rw [if_neg hw]; rfl
theorem adc1_TO {c : aN} {n : Nat} (hw : ¬ (c.1 10 0) = 0) : (adc c n).1 20 = c.1 20 := by unfold adc; rw [if_neg hw]; rfl
theorem adc1_RC {c : aN} {n : Nat} (hw : ¬ (c.1 10 0) = 0) : (adc c n).1 21 = c.1 21 := by unfold adc; rw [if_neg hw]; rfl
theorem adc1_WC {c : aN} {n : Nat} (hw : ¬ (c.1 10 0) = 0) (j : Nat) : (adc c n).1 22 j = if j = (c.1 6 0) - 1 then c.1 22 ((c.1 6 0) - 1) + 1 else c.1 22 j := by unfold adc; rw [if_neg hw]; rfl
theorem adc1_RO {c : aN} {n : Nat} (hw : ¬ (c.1 10 0) = 0) : (adc c n).1 23 = c.1 23 := by unfold adc; rw [if_neg hw]; rfl
theorem adc1_RX {c : aN} {n : Nat} (hw : ¬ (c.1 10 0) = 0) : (adc c n).1 24 = c.1 24 := by unfold adc; rw [if_neg hw]; rfl
theorem adc1_RK {c : aN} {n : Nat} (hw : ¬ (c.1 10 0) = 0) : (adc c n).1 25 = c.1 25 := by unfold adc; rw [if_neg hw]; rfl
theorem adc1_RU {c : aN} {n : Nat} (hw : ¬ (c.1 10 0) = 0) : (adc c n).1 26 = c.1 26 := by unfold adc; rw [if_neg hw]; rfl
theorem adc1_RF {c : aN} {n : Nat} (hw : ¬ (c.1 10 0) = 0) : (adc c n).1 27 = c.1 27 := by unfold adc; rw [if_neg hw]; rfl
theorem adc1_RM {c : aN} {n : Nat} (hw : ¬ (c.1 10 0) = 0) : (adc c n).1 28 = c.1 28 := by unfold adc; rw [if_neg hw]; rfl
theorem adc1_WO {c : aN} {n : Nat} (hw : ¬ (c.1 10 0) = 0) (j : Nat) : (adc c n).1 29 j = if j = (c.1 7 0) then (c.1 6 0) - 1 else c.1 29 j := by unfold adc; rw [if_neg hw]; rfl
theorem adc1_WX {c : aN} {n : Nat} (hw : ¬ (c.1 10 0) = 0) (j : Nat) : (adc c n).1 30 j = if j = (c.1 7 0) then c.1 22 ((c.1 6 0) - 1) else c.1 30 j := by unfold adc; rw [if_neg hw]; rfl
theorem adc1_WK {c : aN} {n : Nat} (hw : ¬ (c.1 10 0) = 0) (j : Nat) : (adc c n).1 31 j = if j = (c.1 7 0) then n else c.1 31 j := by unfold adc; rw [if_neg hw]; rfl
theorem adc1_WF {c : aN} {n : Nat} (hw : ¬ (c.1 10 0) = 0) (j : Nat) : (adc c n).1 32 j = if j = (c.1 7 0) then (c.1 8 0) else c.1 32 j := by unfold adc; rw [if_neg hw]; rfl
theorem adc1_WM {c : aN} {n : Nat} (hw : ¬ (c.1 10 0) = 0) (j : Nat) : (adc c n).1 33 j = if j = (c.1 7 0) then 0 else c.1 33 j := by unfold adc; rw [if_neg hw]; rfl
theorem adc1_WT {c : aN} {n : Nat} (hw : ¬ (c.1 10 0) = 0) : (adc c n).1 34 = c.1 34 := by unfold adc; rw [if_neg hw]; rfl
theorem adc1_WQ {c : aN} {n : Nat} (hw : ¬ (c.1 10 0) = 0) : (adc c n).1 35 = c.1 35 := by unfold adc; rw [if_neg hw]; rfl
theorem adc1_TC {c : aN} {n : Nat} (hw : ¬ (c.1 10 0) = 0) : (adc c n).1 36 = c.1 36 := by unfold adc; rw [if_neg hw]; rfl
theorem adc1_TW {c : aN} {n : Nat} (hw : ¬ (c.1 10 0) = 0) : (adc c n).1 37 = c.1 37 := by unfold adc; rw [if_neg hw]; rfl
theorem adc1_TP {c : aN} {n : Nat} (hw : ¬ (c.1 10 0) = 0) : (adc c n).1 38 = c.1 38 := by unfold adc; rw [if_neg hw]; rfl
theorem adc1_TT {c : aN} {n : Nat} (hw : ¬ (c.1 10 0) = 0) : (adc c n).1 39 = c.1 39 := by unfold adc; rw [if_neg hw]; rfl
theorem adc1_TQ {c : aN} {n : Nat} (hw : ¬ (c.1 10 0) = 0) : (adc c n).1 40 = c.1 40 := by unfold adc; rw [if_neg hw]; rfl
theorem adc1_LW {c : aN} {n : Nat} (hw : ¬ (c.1 10 0) = 0) : (adc c n).1 41 = c.1 41 := by unfold adc; rw [if_neg hw]; rfl
theorem adc1_LO {c : aN} {n : Nat} (hw : ¬ (c.1 10 0) = 0) : (adc c n).1 42 = c.1 42 := by unfold adc; rw [if_neg hw]; rfl
theorem adc1_LC {c : aN} {n : Nat} (hw : ¬ (c.1 10 0) = 0) : (adc c n).1 43 = c.1 43 := by unfold adc; rw [if_neg hw]; rfl
theorem adc1_LP {c : aN} {n : Nat} (hw : ¬ (c.1 10 0) = 0) : (adc c n).1 44 = c.1 44 := by unfold adc; rw [if_neg hw]; rfl
theorem adt0_ST {c : aN} {v : Int32} (hw : (c.1 10 0) = 0) : (adt c v).1 0 = c.1 0 := by unfold adt; rw [if_pos hw]; rfl
theorem adt0_AT {c : aN} {v : Int32} (hw : (c.1 10 0) = 0) : (adt c v).1 1 = c.1 1 := by unfold adt; rw [if_pos hw]; rfl
theorem adt0_FA {c : aN} {v : Int32} (hw : (c.1 10 0) = 0) : (adt c v).1 2 = c.1 2 := by unfold adt; rw [if_pos hw]; rfl
theorem adt0_FP {c : aN} {v : Int32} (hw : (c.1 10 0) = 0) : (adt c v).1 3 = c.1 3 := by unfold adt; rw [if_pos hw]; rfl
theorem adt0_NC {c : aN} {v : Int32} (hw : (c.1 10 0) = 0) : (adt c v).1 4 = c.1 4 := by unfold adt; rw [if_pos hw]; rfl
theorem adt0_NR {c : aN} {v : Int32} (hw : (c.1 10 0) = 0) : (adt c v).1 5 = c.1 5 := by unfold adt; rw [if_pos hw]; rfl
theorem adt0_NN {c : aN} {v : Int32} (hw : (c.1 10 0) = 0) : (adt c v).1 6 = c.1 6 := by unfold adt; rw [if_pos hw]; rfl
theorem adt0_NW {c : aN} {v : Int32} (hw : (c.1 10 0) = 0) : (adt c v).1 7 = c.1 7 := by unfold adt; rw [if_pos hw]; rfl
theorem adt0_NT {c : aN} {v : Int32} (hw : (c.1 10 0) = 0) : (adt c v).1 8 0 = (c.1 8 0) + 1 := by unfold adt; rw [if_pos hw]; rfl
theorem adt0_NL {c : aN} {v : Int32} (hw : (c.1 10 0) = 0) : (adt c v).1 9 = c.1 9 := by unfold adt; rw [if_pos hw]; rfl
theorem adt0_WY {c : aN} {v : Int32} (hw : (c.1 10 0) = 0) : (adt c v).1 10 = c.1 10 := by unfold adt; rw [if_pos hw]; rfl
theorem adt0_UP {c : aN} {v : Int32} (hw : (c.1 10 0) = 0) : (adt c v).1 11 = c.1 11 := by unfold adt; rw [if_pos hw]; rfl
theorem adt0_NO {c : aN} {v : Int32} (hw : (c.1 10 0) = 0) : (adt c v).1 12 = c.1 12 := by unfold adt; rw [if_pos hw]; rfl
theorem adt0_CL {c : aN} {v : Int32} (hw : (c.1 10 0) = 0) : (adt c v).1 13 0 = (c.1 12 0) + 1 := by unfold adt; rw [if_pos hw]; rfl
theorem adt0_CD {c : aN} {v : Int32} (hw : (c.1 10 0) = 0) : (adt c v).1 14 = c.1 14 := by unfold adt; rw [if_pos hw]; rfl
theorem adt0_WH {c : aN} {v : Int32} (hw : (c.1 10 0) = 0) : (adt c v).1 15 = c.1 15 := by unfold adt; rw [if_pos hw]; rfl
theorem adt0_WP {c : aN} {v : Int32} (hw : (c.1 10 0) = 0) : (adt c v).1 16 = c.1 16 := by unfold adt; rw [if_pos hw]; rfl
theorem adt0_OP {c : aN} {v : Int32} (hw : (c.1 10 0) = 0) : (adt c v).1 17 = c.1 17 := by unfold adt; rw [if_pos hw]; rfl
theorem adt0_TO {c : aN} {v : Int32} (hw : (c.1 10 0) = 0) : (adt c v).1 20 = c.1 20 := by unfold adt; rw [if_pos hw]; rfl
theorem adt0_RC {c : aN} {v : Int32} (hw : (c.1 10 0) = 0) : (adt c v).1 21 = c.1 21 := by unfold adt; rw [if_pos hw]; rfl
theorem adt0_WC {c : aN} {v : Int32} (hw : (c.1 10 0) = 0) : (adt c v).1 22 = c.1 22 := by unfold adt; rw [if_pos hw]; rfl
theorem adt0_RO {c : aN} {v : Int32} (hw : (c.1 10 0) = 0) : (adt c v).1 23 = c.1 23 := by unfold adt; rw [if_pos hw]; rfl
theorem adt0_RX {c : aN} {v : Int32} (hw : (c.1 10 0) = 0) : (adt c v).1 24 = c.1 24 := by unfold adt; rw [if_pos hw]; rfl
theorem adt0_RK {c : aN} {v : Int32} (hw : (c.1 10 0) = 0) : (adt c v).1 25 = c.1 25 := by unfold adt; rw [if_pos hw]; rfl
theorem adt0_RU {c : aN} {v : Int32} (hw : (c.1 10 0) = 0) : (adt c v).1 26 = c.1 26 := by unfold adt; rw [if_pos hw]; rfl
theorem adt0_RF {c : aN} {v : Int32} (hw : (c.1 10 0) = 0) : (adt c v).1 27 = c.1 27 := by unfold adt; rw [if_pos hw]; rfl
theorem adt0_RM {c : aN} {v : Int32} (hw : (c.1 10 0) = 0) (j : Nat) : (adt c v).1 28 j = if j = (c.1 5 0) - 1 then c.1 28 ((c.1 5 0) - 1) + 1 else c.1 28 j := by unfold adt; rw [if_pos hw]; rfl
theorem adt0_WO {c : aN} {v : Int32} (hw : (c.1 10 0) = 0) : (adt c v).1 29 = c.1 29 := by unfold adt; rw [if_pos hw]; rfl
theorem adt0_WX {c : aN} {v : Int32} (hw : (c.1 10 0) = 0) : (adt c v).1 30 = c.1 30 := by unfold adt; rw [if_pos hw]; rfl
theorem adt0_WK {c : aN} {v : Int32} (hw : (c.1 10 0) = 0) : (adt c v).1 31 = c.1 31 := by unfold adt; rw [if_pos hw]; rfl
theorem adt0_WF {c : aN} {v : Int32} (hw : (c.1 10 0) = 0) : (adt c v).1 32 = c.1 32 := by unfold adt; rw [if_pos hw]; rfl
theorem adt0_WM {c : aN} {v : Int32} (hw : (c.1 10 0) = 0) : (adt c v).1 33 = c.1 33 := by unfold adt; rw [if_pos hw]; rfl
theorem adt0_WT {c : aN} {v : Int32} (hw : (c.1 10 0) = 0) : (adt c v).1 34 = c.1 34 := by unfold adt; rw [if_pos hw]; rfl
theorem adt0_WQ {c : aN} {v : Int32} (hw : (c.1 10 0) = 0) : (adt c v).1 35 = c.1 35 := by unfold adt; rw [if_pos hw]; rfl
theorem adt0_TC {c : aN} {v : Int32} (hw : (c.1 10 0) = 0) (j : Nat) : (adt c v).1 36 j = if j = (c.1 8 0) then (c.1 14 0) else c.1 36 j := by unfold adt; rw [if_pos hw]; rfl
theorem adt0_TW {c : aN} {v : Int32} (hw : (c.1 10 0) = 0) (j : Nat) : (adt c v).1 37 j = if j = (c.1 8 0) then (c.1 15 0) else c.1 37 j := by unfold adt; rw [if_pos hw]; rfl
theorem adt0_TP {c : aN} {v : Int32} (hw : (c.1 10 0) = 0) (j : Nat) : (adt c v).1 38 j = if j = (c.1 8 0) then (c.1 17 0) else c.1 38 j := by unfold adt; rw [if_pos hw]; rfl
theorem adt0_TT {c : aN} {v : Int32} (hw : (c.1 10 0) = 0) (j : Nat) : (adt c v).1 39 j = if j = (c.1 8 0) then (c.1 12 0) % 2 else c.1 39 j := by unfold adt; rw [if_pos hw]; rfl
theorem adt0_TQ {c : aN} {v : Int32} (hw : (c.1 10 0) = 0) (j : Nat) : (adt c v).1 40 j = if j = (c.1 8 0) then (c.1 16 0) else c.1 40 j := by unfold adt; rw [if_pos hw]; rfl
theorem adt0_LW {c : aN} {v : Int32} (hw : (c.1 10 0) = 0) : (adt c v).1 41 = c.1 41 := by unfold adt; rw [if_pos hw]; rfl
theorem adt0_LO {c : aN} {v : Int32} (hw : (c.1 10 0) = 0) : (adt c v).1 42 = c.1 42 := by unfold adt; rw [if_pos hw]; rfl
theorem adt0_LC {c : aN} {v : Int32} (hw : (c.1 10 0) = 0) : (adt c v).1 43 = c.1 43 := by unfold adt; rw [if_pos hw]; rfl
theorem adt0_LP {c : aN} {v : Int32} (hw : (c.1 10 0) = 0) : (adt c v).1 44 = c.1 44 := by unfold adt; rw [if_pos hw]; rfl
theorem adt1_ST {c : aN} {v : Int32} (hw : ¬ (c.1 10 0) = 0) : (adt c v).1 0 = c.1 0 := by unfold adt; rw [if_neg hw]; rfl
theorem adt1_AT {c : aN} {v : Int32} (hw : ¬ (c.1 10 0) = 0) : (adt c v).1 1 = c.1 1 := by unfold adt; rw [if_neg hw]; rfl
theorem adt1_FA {c : aN} {v : Int32} (hw : ¬ (c.1 10 0) = 0) : (adt c v).1 2 = c.1 2 := by unfold adt; rw [if_neg hw]; rfl
theorem adt1_FP {c : aN} {v : Int32} (hw : ¬ (c.1 10 0) = 0) : (adt c v).1 3 = c.1 3 := by unfold adt; rw [if_neg hw]; rfl
theorem adt1_NC {c : aN} {v : Int32} (hw : ¬ (c.1 10 0) = 0) : (adt c v).1 4 = c.1 4 := by unfold adt; rw [if_neg hw]; rfl
theorem adt1_NR {c : aN} {v : Int32} (hw : ¬ (c.1 10 0) = 0) : (adt c v).1 5 = c.1 5 := by unfold adt; rw [if_neg hw]; rfl
theorem adt1_NN {c : aN} {v : Int32} (hw : ¬ (c.1 10 0) = 0) : (adt c v).1 6 = c.1 6 := by unfold adt; rw [if_neg hw]; rfl
theorem adt1_NW {c : aN} {v : Int32} (hw : ¬ (c.1 10 0) = 0) : (adt c v).1 7 = c.1 7 := by unfold adt; rw [if_neg hw]; rfl
theorem adt1_NT {c : aN} {v : Int32} (hw : ¬ (c.1 10 0) = 0) : (adt c v).1 8 0 = (c.1 8 0) + 1 := by unfold adt; rw [if_neg hw]; rfl
theorem adt1_NL {c : aN} {v : Int32} (hw : ¬ (c.1 10 0) = 0) : (adt c v).1 9 = c.1 9 := by unfold adt; rw [if_neg hw]; rfl
theorem adt1_WY {c : aN} {v : Int32} (hw : ¬ (c.1 10 0) = 0) : (adt c v).1 10 = c.1 10 := by unfold adt; rw [if_neg hw]; rfl
theorem adt1_UP {c : aN} {v : Int32} (hw : ¬ (c.1 10 0) = 0) : (adt c v).1 11 = c.1 11 := by unfold adt; rw [if_neg hw]; rfl
theorem adt1_NO {c : aN} {v : Int32} (hw : ¬ (c.1 10 0) = 0) : (adt c v).1 12 = c.1 12 := by unfold adt; rw [if_neg hw]; rfl
theorem adt1_CL {c : aN} {v : Int32} (hw : ¬ (c.1 10 0) = 0) : (adt c v).1 13 0 = (c.1 12 0) + 1 := by unfold adt; rw [if_neg hw]; rfl
theorem adt1_CD {c : aN} {v : Int32} (hw : ¬ (c.1 10 0) = 0) : (adt c v).1 14 = c.1 14 := by unfold adt; rw [if_neg hw]; rfl
theorem adt1_WH {c : aN} {v : Int32} (hw : ¬ (c.1 10 0) = 0) : (adt c v).1 15 = c.1 15 := by unfold adt; rw [if_neg hw]; rfl
theorem adt1_WP {c : aN} {v : Int32} (hw : ¬ (c.1 10 0) = 0) : (adt c v).1 16 = c.1 16 := by unfold adt; rw [if_neg hw]; rfl
theorem adt1_OP {c : aN} {v : Int32} (hw : ¬ (c.1 10 0) = 0) : (adt c v).1 17 = c.1 17 := by unfold adt; rw [if_neg hw]; rfl
theorem adt1_TO {c : aN} {v : Int32} (hw : ¬ (c.1 10 0) = 0) : (adt c v).1 20 = c.1 20 := by unfold adt; rw [if_neg hw]; rfl
theorem adt1_RC {c : aN} {v : Int32} (hw : ¬ (c.1 10 0) = 0) : (adt c v).1 21 = c.1 21 := by unfold adt; rw [if_neg hw]; rfl
theorem adt1_WC {c : aN} {v : Int32} (hw : ¬ (c.1 10 0) = 0) : (adt c v).1 22 = c.1 22 := by unfold adt; rw [if_neg hw]; rfl
theorem adt1_RO {c : aN} {v : Int32} (hw : ¬ (c.1 10 0) = 0) : (adt c v).1 23 = c.1 23 := by unfold adt; rw [if_neg hw]; rfl
theorem adt1_RX {c : aN} {v : Int32} (hw : ¬ (c.1 10 0) = 0) : (adt c v).1 24 = c.1 24 := by unfold adt; rw [if_neg hw]; rfl
theorem adt1_RK {c : aN} {v : Int32} (hw : ¬ (c.1 10 0) = 0) : (adt c v).1 25 = c.1 25 := by unfold adt; rw [if_neg hw]; rfl
theorem adt1_RU {c : aN} {v : Int32} (hw : ¬ (c.1 10 0) = 0) : (adt c v).1 26 = c.1 26 := by unfold adt; rw [if_neg hw]; rfl
theorem adt1_RF {c : aN} {v : Int32} (hw : ¬ (c.1 10 0) = 0) : (adt c v).1 27 = c.1 27 := by unfold adt; rw [if_neg hw]; rfl
theorem adt1_RM {c : aN} {v : Int32} (hw : ¬ (c.1 10 0) = 0) : (adt c v).1 28 = c.1 28 := by unfold adt; rw [if_neg hw]; rfl
theorem adt1_WO {c : aN} {v : Int32} (hw : ¬ (c.1 10 0) = 0) : (adt c v).1 29 = c.1 29 := by unfold adt; rw [if_neg hw]; rfl
theorem adt1_WX {c : aN} {v : Int32} (hw : ¬ (c.1 10 0) = 0) : (adt c v).1 30 = c.1 30 := by unfold adt; rw [if_neg hw]; rfl
theorem adt1_WK {c : aN} {v : Int32} (hw : ¬ (c.1 10 0) = 0) : (adt c v).1 31 = c.1 31 := by unfold adt; rw [if_neg hw]; rfl
theorem adt1_WF {c : aN} {v : Int32} (hw : ¬ (c.1 10 0) = 0) : (adt c v).1 32 = c.1 32 := by unfold adt; rw [if_neg hw]; rfl
theorem adt1_WM {c : aN} {v : Int32} (hw : ¬ (c.1 10 0) = 0) (j : Nat) : (adt c v).1 33 j = if j = (c.1 7 0) - 1 then c.1 33 ((c.1 7 0) - 1) + 1 else c.1 33 j := by unfold adt; rw [if_neg hw]; rfl
theorem adt1_WT {c : aN} {v : Int32} (hw : ¬ (c.1 10 0) = 0) : (adt c v).1 34 = c.1 34 := by unfold adt; rw [if_neg hw]; rfl
theorem adt1_WQ {c : aN} {v : Int32} (hw : ¬ (c.1 10 0) = 0) : (adt c v).1 35 = c.1 35 := by unfold adt; rw [if_neg hw]; rfl
theorem adt1_TC {c : aN} {v : Int32} (hw : ¬ (c.1 10 0) = 0) (j : Nat) : (adt c v).1 36 j = if j = (c.1 8 0) then (c.1 14 0) else c.1 36 j := by unfold adt; rw [if_neg hw]; rfl
theorem adt1_TW {c : aN} {v : Int32} (hw : ¬ (c.1 10 0) = 0) (j : Nat) : (adt c v).1 37 j = if j = (c.1 8 0) then (c.1 15 0) else c.1 37 j := by unfold adt; rw [if_neg hw]; rfl
theorem adt1_TP {c : aN} {v : Int32} (hw : ¬ (c.1 10 0) = 0) (j : Nat) : (adt c v).1 38 j = if j = (c.1 8 0) then (c.1 17 0) else c.1 38 j := by unfold adt; rw [if_neg hw]; rfl
theorem adt1_TT {c : aN} {v : Int32} (hw : ¬ (c.1 10 0) = 0) (j : Nat) : (adt c v).1 39 j = if j = (c.1 8 0) then (c.1 12 0) % 2 else c.1 39 j := by unfold adt; rw [if_neg hw]; rfl
theorem adt1_TQ {c : aN} {v : Int32} (hw : ¬ (c.1 10 0) = 0) (j : Nat) : (adt c v).1 40 j = if j = (c.1 8 0) then (c.1 16 0) else c.1 40 j := by unfold adt; rw [if_neg hw]; rfl
theorem adt1_LW {c : aN} {v : Int32} (hw : ¬ (c.1 10 0) = 0) : (adt c v).1 41 = c.1 41 := by unfold adt; rw [if_neg hw]; rfl
theorem adt1_LO {c : aN} {v : Int32} (hw : ¬ (c.1 10 0) = 0) : (adt c v).1 42 = c.1 42 := by unfold adt; rw [if_neg hw]; rfl
theorem adt1_LC {c : aN} {v : Int32} (hw : ¬ (c.1 10 0) = 0) : (adt c v).1 43 = c.1 43 := by unfold adt; rw [if_neg hw]; rfl
theorem adt1_LP {c : aN} {v : Int32} (hw : ¬ (c.1 10 0) = 0) : (adt c v).1 44 = c.1 44 := by unfold adt; rw [if_neg hw]; rfl
