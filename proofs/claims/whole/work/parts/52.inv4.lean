/-! Where rules, ways, tests and looks stand -/
def aSum (g : Nat → Nat) : Nat → Nat
  | 0 => 0
  | k + 1 => aSum g k + g k
theorem aSum_c {g h : Nat → Nat} : ∀ k, (∀ j, j < k → g j = h j) → aSum g k = aSum h k
  | 0, _ => rfl
  | k + 1, e => by rw [aSum, aSum, aSum_c k (fun j hj => e j (by omega)), e k (by omega)]
theorem aSum_le (g : Nat → Nat) {i : Nat} : ∀ k, i ≤ k → aSum g i ≤ aSum g k
  | 0, h => by rw [show i = 0 by omega]; exact Nat.le_refl _
  | k + 1, h => by
    by_cases e : i = k + 1
    · rw [e]; exact Nat.le_refl _
    · exact Nat.le_trans (aSum_le g k (by omega)) (Nat.le_add_right _ _)
theorem aSum_u {g : Nat → Nat} {k j k2 j2 : Nat} (h1 : j < g k) (h2 : j2 < g k2) (e : aSum g k + j = aSum g k2 + j2) : k = k2 ∧ j = j2 := by
  have a1 : aSum g k + g k = aSum g (k + 1) := rfl
  have a2 : aSum g k2 + g k2 = aSum g (k2 + 1) := rfl
  rcases Nat.lt_trichotomy k k2 with h | h | h
  · have := aSum_le g (i := k + 1) k2 h; omega
  · subst h; exact ⟨rfl, by omega⟩
  · have := aSum_le g (i := k2 + 1) k h; omega
def E1 (c : aN) : Prop := (∀ r, r < (c.1 5 0) → r = aSum (c.1 21) (c.1 23 (r)) + c.1 24 (r)) ∧ aSum (c.1 21) (c.1 4 0) = (c.1 5 0) ∧ (∀ r, r < (c.1 7 0) → r = aSum (c.1 22) (c.1 29 (r)) + c.1 30 (r)) ∧ aSum (c.1 22) (c.1 6 0) = (c.1 7 0)
def eR (c : aN) : Nat := if (c.1 5 0) = 0 then 0 else c.1 27 ((c.1 5 0) - 1) + c.1 28 ((c.1 5 0) - 1)
def eW (c : aN) : Nat := if (c.1 7 0) = 0 then eR c else c.1 32 ((c.1 7 0) - 1) + c.1 33 ((c.1 7 0) - 1)
def E2 (c : aN) : Prop := (∀ r, r + 1 < (c.1 5 0) → c.1 27 (r + 1) = c.1 27 (r) + c.1 28 (r)) ∧ (0 < (c.1 5 0) → c.1 27 (0) = 0) ∧ (∀ r, r + 1 < (c.1 7 0) → c.1 32 (r + 1) = c.1 32 (r) + c.1 33 (r)) ∧ (0 < (c.1 7 0) → c.1 32 (0) = eR c) ∧ eW c = (c.1 8 0)
def fin (c : aN) (s : Nat) : Nat := if ¬ (c.1 10 0) = 0 ∧ (s = 9 ∨ 11 ≤ s ∧ s ≤ 17) then (c.1 7 0) - 1 else (c.1 7 0)
def tLk (c : aN) (l g call : Nat) : Prop := c.1 41 (l) = (if c.1 36 (g) = 1 then 0 else 2) ∧ c.1 42 (l) = g ∧ c.1 43 (l) = call ∧ c.1 44 (l) = c.1 40 (g)
def E3c (c : aN) (s : Nat) : Prop := (c.1 9 0) = (c.1 8 0) + fin c s + (if s = 15 ∨ s = 16 then 1 else 0) ∧ (∀ r, r < (c.1 5 0) → ∀ i, i < c.1 28 (r) → tLk c (c.1 27 (r) + i) (c.1 27 (r) + i) (c.1 25 (r))) ∧ (∀ r, r < (c.1 7 0) → ∀ i, i < c.1 33 (r) → tLk c (c.1 32 (r) + i + r) (c.1 32 (r) + i) (c.1 31 (r))) ∧ (∀ r, r < fin c s → c.1 41 (c.1 32 (r) + c.1 33 (r) + r) = 1 ∧ c.1 42 (c.1 32 (r) + c.1 33 (r) + r) = r ∧ c.1 44 (c.1 32 (r) + c.1 33 (r) + r) = c.1 35 (r)) ∧ (s = 15 ∨ s = 16 → c.1 41 ((c.1 9 0) - 1) = (if (c.1 14 0) = 1 then 0 else 2) ∧ c.1 42 ((c.1 9 0) - 1) = (c.1 8 0) ∧ c.1 43 ((c.1 9 0) - 1) = acl c ∧ c.1 44 ((c.1 9 0) - 1) = (c.1 16 0))
def E3 (c : aN) : Prop := E3c c (c.1 0 0)
def AL (c : aN) : Prop := E1 c ∧ E2 c ∧ (c.1 2 0 = 0 → E3 c)
theorem AL_wr {c : aN} (t : aK) (h : AL c) : AL (wr t c) := ⟨h.1, h.2.1, fun e => absurd e (by
  show ¬ (if t.1 = 5 then 1 else if t.1 = 0 then 3 else 2) = 0
  split
  · decide
  · split <;> decide)⟩
theorem AL_gt {c : aN} (t : aK) (s : Nat) (h1 : E1 c) (h2 : E2 c) (h3 : E3c c s) : AL (gt t c s) := ⟨h1, h2, fun _ => h3⟩
theorem AL_a1 {c : aN} (t : aK) (h : AI c) (hL : AL c) (h0 : (c.1 2 0) = 0) (hs : (c.1 0 0) = 1) : AL (a1 t c) := by
  obtain ⟨l1, l2, l3⟩ := id hL
  have l3 : E3c c 1 := by have := l3 h0; unfold E3 at this; rw [hs] at this; exact this
  have h5 : Q5c c 1 := by have := h.2.2.2.2.1; unfold Q5 at this; rw [hs] at this; exact this
  unfold Q5c at h5
  unfold a1
  have ef : fin c 0 = fin c 1 := by unfold fin; simp
  split
  · split
    · exact ⟨l1, l2, fun e => absurd e (by show ¬ (4 = 0); decide)⟩
    · exact ⟨l1, l2, fun _ => (show E3c c 0 from ⟨by rw [ef]; have := l3.1; simp at this ⊢; omega, l3.2.1, l3.2.2.1, by rw [ef]; exact l3.2.2.2.1, fun e => absurd e (by omega)⟩)⟩
  · split
    · skip
      have ef : fin c 2 = fin c 1 := by unfold fin; by_cases z : c.1 10 0 = 0 <;> simp [z]
      exact AL_gt t 2 l1 l2 (show E3c c 2 from ⟨by rw [ef]; have := l3.1; simp at this ⊢; omega, l3.2.1, l3.2.2.1, by rw [ef]; exact l3.2.2.2.1, fun e => absurd e (by omega)⟩)
    · exact AL_wr t hL
theorem AL_a2 {c : aN} (t : aK) (h : AI c) (hL : AL c) (h0 : (c.1 2 0) = 0) (hs : (c.1 0 0) = 2) : AL (a2 t c) := by
  obtain ⟨l1, l2, l3⟩ := id hL
  have l3 : E3c c 2 := by have := l3 h0; unfold E3 at this; rw [hs] at this; exact this
  have h5 : Q5c c 2 := by have := h.2.2.2.2.1; unfold Q5 at this; rw [hs] at this; exact this
  unfold Q5c at h5
  unfold a2
  split
  · skip
    have ef : fin c 5 = fin c 2 := by unfold fin; by_cases z : c.1 10 0 = 0 <;> simp [z]
    exact AL_gt t 5 l1 l2 (show E3c c 5 from ⟨by rw [ef]; have := l3.1; simp at this ⊢; omega, l3.2.1, l3.2.2.1, by rw [ef]; exact l3.2.2.2.1, fun e => absurd e (by omega)⟩)
  · skip
    split
    · skip
      have ef : fin c 3 = fin c 2 := by unfold fin; by_cases z : c.1 10 0 = 0 <;> simp [z]
      exact AL_gt t 3 l1 l2 (show E3c c 3 from ⟨by rw [ef]; have := l3.1; simp at this ⊢; omega, l3.2.1, l3.2.2.1, by rw [ef]; exact l3.2.2.2.1, fun e => absurd e (by omega)⟩)
    · skip
      exact AL_wr t hL
theorem AL_a10 {c : aN} (t : aK) (h : AI c) (hL : AL c) (h0 : (c.1 2 0) = 0) (hs : (c.1 0 0) = 10) : AL (a10 t c) := by
  obtain ⟨l1, l2, l3⟩ := id hL
  have l3 : E3c c 10 := by have := l3 h0; unfold E3 at this; rw [hs] at this; exact this
  have h5 : Q5c c 10 := by have := h.2.2.2.2.1; unfold Q5 at this; rw [hs] at this; exact this
  unfold Q5c at h5
  unfold a10
  split
  · skip
    have ef : fin c 6 = fin c 10 := by unfold fin; by_cases z : c.1 10 0 = 0 <;> simp [z]
    exact AL_gt t 6 l1 l2 (show E3c c 6 from ⟨by rw [ef]; have := l3.1; simp at this ⊢; omega, l3.2.1, l3.2.2.1, by rw [ef]; exact l3.2.2.2.1, fun e => absurd e (by omega)⟩)
  · skip
    exact AL_wr t hL
theorem AL_a11 {c : aN} (t : aK) (h : AI c) (hL : AL c) (h0 : (c.1 2 0) = 0) (hs : (c.1 0 0) = 11) : AL (a11 t c) := by
  obtain ⟨l1, l2, l3⟩ := id hL
  have l3 : E3c c 11 := by have := l3 h0; unfold E3 at this; rw [hs] at this; exact this
  have h5 : Q5c c 11 := by have := h.2.2.2.2.1; unfold Q5 at this; rw [hs] at this; exact this
  unfold Q5c at h5
  unfold a11
  split
  · skip
    have ef : fin c 12 = fin c 11 := by unfold fin; by_cases z : c.1 10 0 = 0 <;> simp [z]
    exact AL_gt t 12 l1 l2 (show E3c c 12 from ⟨by rw [ef]; have := l3.1; simp at this ⊢; omega, l3.2.1, l3.2.2.1, by rw [ef]; exact l3.2.2.2.1, fun e => absurd e (by omega)⟩)
  · skip
    split
    · skip
      have ef : fin c 13 = fin c 11 := by unfold fin; by_cases z : c.1 10 0 = 0 <;> simp [z]
      exact AL_gt t 13 l1 l2 (show E3c c 13 from ⟨by rw [ef]; have := l3.1; simp at this ⊢; omega, l3.2.1, l3.2.2.1, by rw [ef]; exact l3.2.2.2.1, fun e => absurd e (by omega)⟩)
    · skip
      split
      · skip
        have ef : fin c 14 = fin c 11 := by unfold fin; by_cases z : c.1 10 0 = 0 <;> simp [z]
        exact AL_gt t 14 l1 l2 (show E3c c 14 from ⟨by rw [ef]; have := l3.1; simp at this ⊢; omega, l3.2.1, l3.2.2.1, by rw [ef]; exact l3.2.2.2.1, fun e => absurd e (by omega)⟩)
      · skip
        exact AL_wr t hL
theorem AL_a12 {c : aN} (t : aK) (h : AI c) (hL : AL c) (h0 : (c.1 2 0) = 0) (hs : (c.1 0 0) = 12) : AL (a12 t c) := by
  obtain ⟨l1, l2, l3⟩ := id hL
  have l3 : E3c c 12 := by have := l3 h0; unfold E3 at this; rw [hs] at this; exact this
  have h5 : Q5c c 12 := by have := h.2.2.2.2.1; unfold Q5 at this; rw [hs] at this; exact this
  unfold Q5c at h5
  unfold a12
  split
  · skip
    have ef : fin c 11 = fin c 12 := by unfold fin; by_cases z : c.1 10 0 = 0 <;> simp [z]
    exact AL_gt t 11 l1 l2 (show E3c c 11 from ⟨by rw [ef]; have := l3.1; simp at this ⊢; omega, l3.2.1, l3.2.2.1, by rw [ef]; exact l3.2.2.2.1, fun e => absurd e (by omega)⟩)
  · skip
    exact AL_wr t hL
theorem AL_a15 {c : aN} (t : aK) (h : AI c) (hL : AL c) (h0 : (c.1 2 0) = 0) (hs : (c.1 0 0) = 15) : AL (a15 t c) := by
  obtain ⟨l1, l2, l3⟩ := id hL
  have l3 : E3c c 15 := by have := l3 h0; unfold E3 at this; rw [hs] at this; exact this
  have h5 : Q5c c 15 := by have := h.2.2.2.2.1; unfold Q5 at this; rw [hs] at this; exact this
  unfold Q5c at h5
  unfold a15
  split
  · skip
    have ef : fin c 16 = fin c 15 := by unfold fin; by_cases z : c.1 10 0 = 0 <;> simp [z]
    exact AL_gt t 16 l1 l2 (show E3c c 16 from ⟨by rw [ef]; have := l3.1; simp at this ⊢; omega, l3.2.1, l3.2.2.1, by rw [ef]; exact l3.2.2.2.1, fun _ => l3.2.2.2.2 (by omega)⟩)
  · skip
    split
    · skip
      have ef : fin c 16 = fin c 15 := by unfold fin; by_cases z : c.1 10 0 = 0 <;> simp [z]
      exact AL_gt t 16 l1 l2 (show E3c c 16 from ⟨by rw [ef]; have := l3.1; simp at this ⊢; omega, l3.2.1, l3.2.2.1, by rw [ef]; exact l3.2.2.2.1, fun _ => l3.2.2.2.2 (by omega)⟩)
    · skip
      split
      · skip
        have ef : fin c 16 = fin c 15 := by unfold fin; by_cases z : c.1 10 0 = 0 <;> simp [z]
        exact AL_gt t 16 l1 l2 (show E3c c 16 from ⟨by rw [ef]; have := l3.1; simp at this ⊢; omega, l3.2.1, l3.2.2.1, by rw [ef]; exact l3.2.2.2.1, fun _ => l3.2.2.2.2 (by omega)⟩)
      · skip
        exact AL_wr t hL
theorem AL_a4 {c : aN} (t : aK) (h : AI c) (hL : AL c) (h0 : (c.1 2 0) = 0) (hs : (c.1 0 0) = 4) : AL (a4 t c) := by
  obtain ⟨l1, l2, l3⟩ := id hL
  have l3 : E3c c 4 := by have := l3 h0; unfold E3 at this; rw [hs] at this; exact this
  have h5 : Q5c c 4 := by have := h.2.2.2.2.1; unfold Q5 at this; rw [hs] at this; exact this
  unfold Q5c at h5
  unfold a4
  split
  · skip
    have ef : fin c 6 = fin c 4 := by unfold fin; by_cases z : c.1 10 0 = 0 <;> simp [z]
    exact AL_gt t 6 l1 l2 (show E3c c 6 from ⟨by rw [ef]; have := l3.1; simp at this ⊢; omega, l3.2.1, l3.2.2.1, by rw [ef]; exact l3.2.2.2.1, fun e => absurd e (by omega)⟩)
  · exact AL_wr t hL
theorem AL_a6 {c : aN} (t : aK) (h : AI c) (hL : AL c) (h0 : (c.1 2 0) = 0) (hs : (c.1 0 0) = 6) : AL (a6 t c) := by
  obtain ⟨l1, l2, l3⟩ := id hL
  have l3 : E3c c 6 := by have := l3 h0; unfold E3 at this; rw [hs] at this; exact this
  have h5 : Q5c c 6 := by have := h.2.2.2.2.1; unfold Q5 at this; rw [hs] at this; exact this
  unfold Q5c at h5
  unfold a6
  by_cases hx : t.1 = 2
  · rw [if_pos hx]
    have ef : fin c 1 = fin c 6 := by unfold fin; simp
    exact AL_gt t 1 l1 l2 (show E3c c 1 from ⟨by rw [ef]; have := l3.1; simp at this ⊢; omega, l3.2.1, l3.2.2.1, by rw [ef]; exact l3.2.2.2.1, fun e => absurd e (by omega)⟩)
  · rw [if_neg hx]
    by_cases z2 : t.1 = 1 ∧ (if (c.1 10 0) = 0 then c.1 21 ((c.1 4 0) - 1) < 4 else c.1 22 ((c.1 6 0) - 1) < 8)
    · rw [if_pos z2]
      have ef : fin c 7 = fin c 6 := by unfold fin; simp
      exact AL_gt t 7 l1 l2 (show E3c c 7 from ⟨by rw [ef]; have := l3.1; simp at this ⊢; omega, l3.2.1, l3.2.2.1, by rw [ef]; exact l3.2.2.2.1, fun e => absurd e (by omega)⟩)
    · rw [if_neg z2]; exact AL_wr t hL
theorem AL_a7 {c : aN} (t : aK) (h : AI c) (hL : AL c) (h0 : (c.1 2 0) = 0) (hs : (c.1 0 0) = 7) : AL (a7 t c) := by
  obtain ⟨l1, l2, l3⟩ := id hL
  have l3 : E3c c 7 := by have := l3 h0; unfold E3 at this; rw [hs] at this; exact this
  have h5 : Q5c c 7 := by have := h.2.2.2.2.1; unfold Q5 at this; rw [hs] at this; exact this
  unfold Q5c at h5
  unfold a7
  split
  · split
    · skip
      have ef : fin c 8 = fin c 7 := by unfold fin; by_cases z : c.1 10 0 = 0 <;> simp [z]
      exact AL_gt t 8 l1 l2 (show E3c c 8 from ⟨by rw [ef]; have := l3.1; simp at this ⊢; omega, l3.2.1, l3.2.2.1, by rw [ef]; exact l3.2.2.2.1, fun e => absurd e (by omega)⟩)
    · split
      · skip
        have ef : fin c 8 = fin c 7 := by unfold fin; by_cases z : c.1 10 0 = 0 <;> simp [z]
        exact AL_gt t 8 l1 l2 (show E3c c 8 from ⟨by rw [ef]; have := l3.1; simp at this ⊢; omega, l3.2.1, l3.2.2.1, by rw [ef]; exact l3.2.2.2.1, fun e => absurd e (by omega)⟩)
      · exact AL_wr t hL
  · split
    · skip
      have ef : fin c 8 = fin c 7 := by unfold fin; by_cases z : c.1 10 0 = 0 <;> simp [z]
      exact AL_gt t 8 l1 l2 (show E3c c 8 from ⟨by rw [ef]; have := l3.1; simp at this ⊢; omega, l3.2.1, l3.2.2.1, by rw [ef]; exact l3.2.2.2.1, fun e => absurd e (by omega)⟩)
    · exact AL_wr t hL
theorem AL_a17 {c : aN} (t : aK) (h : AI c) (hL : AL c) (h0 : (c.1 2 0) = 0) (hs : (c.1 0 0) = 17) : AL (a17 t c) := by
  obtain ⟨l1, l2, l3⟩ := id hL
  have l3 : E3c c 17 := by have := l3 h0; unfold E3 at this; rw [hs] at this; exact this
  have h5 : Q5c c 17 := by have := h.2.2.2.2.1; unfold Q5 at this; rw [hs] at this; exact this
  unfold Q5c at h5
  unfold a17
  split
  · split
    · skip
      have ef : fin c 17 = fin c 17 := by unfold fin; by_cases z : c.1 10 0 = 0 <;> simp [z]
      exact AL_gt t 17 l1 l2 (show E3c c 17 from ⟨by rw [ef]; have := l3.1; simp at this ⊢; omega, l3.2.1, l3.2.2.1, by rw [ef]; exact l3.2.2.2.1, fun e => absurd e (by omega)⟩)
    · skip
      have ef : fin c 9 = fin c 17 := by unfold fin; by_cases z : c.1 10 0 = 0 <;> simp [z]
      exact AL_gt t 9 l1 l2 (show E3c c 9 from ⟨by rw [ef]; have := l3.1; simp at this ⊢; omega, l3.2.1, l3.2.2.1, by rw [ef]; exact l3.2.2.2.1, fun e => absurd e (by omega)⟩)
  · exact AL_wr t hL
