/-! The names that are looked for stand in the text -/
def AMc (n : Nat) (f : Nat → Nat) (c : aN) (s : Nat) : Prop := (∀ g, g < (c.1 8 0) → c.1 36 (g) = 1 → c.2.1 2 (g) = nl n f (c.1 40 (g))) ∧ (∀ r, r < fin c (s) → c.2.1 3 (r) = nl n f (c.1 35 (r))) ∧ (s = 15 ∨ s = 16 → (c.1 14 0) = 1 → c.2.1 4 (0) = nl n f (c.1 16 0))
def AM (n : Nat) (f : Nat → Nat) (c : aN) : Prop := (c.1 2 0) = 0 → AMc n f c (c.1 0 0)
theorem AM_wr {n : Nat} {f : Nat → Nat} {c : aN} (t : aK) : AM n f (wr t c) := fun e => absurd e (by
  show ¬ (if t.1 = 5 then 1 else if t.1 = 0 then 3 else 2) = 0
  split
  · decide
  · split <;> decide)
theorem AM_gt {n : Nat} {f : Nat → Nat} {c : aN} (t : aK) (s : Nat) (h : AMc n f c s) : AM n f (gt t c s) := fun _ => h
theorem AM_a1 {n : Nat} {f : Nat → Nat} {c : aN} (h : AI c) (hL : AM n f c) (h0 : (c.1 2 0) = 0) (hs : (c.1 0 0) = 1) : AM n f (a1 (tok n f (c.1 1 0)) c) := by
  have l : AMc n f c 1 := by have := hL h0; rw [hs] at this; exact this
  have h5 : Q5c c 1 := by have := h.2.2.2.2.1; unfold Q5 at this; rw [hs] at this; exact this
  unfold Q5c at h5
  unfold a1
  have ef : fin c 0 = fin c 1 := by unfold fin; simp
  split
  · split
    · exact fun e => absurd e (by show ¬ (4 = 0); decide)
    · exact fun _ => (show AMc n f c 0 from ⟨l.1, by rw [ef]; exact l.2.1, fun e => absurd e (by omega)⟩)
  · split
    · skip
      have ef : fin c 2 = fin c 1 := by unfold fin; by_cases z : c.1 10 0 = 0 <;> simp [z]
      exact AM_gt _ 2 (show AMc n f c 2 from ⟨l.1, by rw [ef]; exact l.2.1, fun e => absurd e (by omega)⟩)
    · exact AM_wr _
theorem AM_a2 {n : Nat} {f : Nat → Nat} {c : aN} (h : AI c) (hL : AM n f c) (h0 : (c.1 2 0) = 0) (hs : (c.1 0 0) = 2) : AM n f (a2 (tok n f (c.1 1 0)) c) := by
  have l : AMc n f c 2 := by have := hL h0; rw [hs] at this; exact this
  have h5 : Q5c c 2 := by have := h.2.2.2.2.1; unfold Q5 at this; rw [hs] at this; exact this
  unfold Q5c at h5
  unfold a2
  split
  · skip
    have ef : fin c 5 = fin c 2 := by unfold fin; by_cases z : c.1 10 0 = 0 <;> simp [z]
    exact AM_gt _ 5 (show AMc n f c 5 from ⟨l.1, by rw [ef]; exact l.2.1, fun e => absurd e (by omega)⟩)
  · skip
    split
    · skip
      have ef : fin c 3 = fin c 2 := by unfold fin; by_cases z : c.1 10 0 = 0 <;> simp [z]
      exact AM_gt _ 3 (show AMc n f c 3 from ⟨l.1, by rw [ef]; exact l.2.1, fun e => absurd e (by omega)⟩)
    · skip
      exact AM_wr _
theorem AM_a10 {n : Nat} {f : Nat → Nat} {c : aN} (h : AI c) (hL : AM n f c) (h0 : (c.1 2 0) = 0) (hs : (c.1 0 0) = 10) : AM n f (a10 (tok n f (c.1 1 0)) c) := by
  have l : AMc n f c 10 := by have := hL h0; rw [hs] at this; exact this
  have h5 : Q5c c 10 := by have := h.2.2.2.2.1; unfold Q5 at this; rw [hs] at this; exact this
  unfold Q5c at h5
  unfold a10
  split
  · skip
    have ef : fin c 6 = fin c 10 := by unfold fin; by_cases z : c.1 10 0 = 0 <;> simp [z]
    exact AM_gt _ 6 (show AMc n f c 6 from ⟨l.1, by rw [ef]; exact l.2.1, fun e => absurd e (by omega)⟩)
  · skip
    exact AM_wr _
theorem AM_a11 {n : Nat} {f : Nat → Nat} {c : aN} (h : AI c) (hL : AM n f c) (h0 : (c.1 2 0) = 0) (hs : (c.1 0 0) = 11) : AM n f (a11 (tok n f (c.1 1 0)) c) := by
  have l : AMc n f c 11 := by have := hL h0; rw [hs] at this; exact this
  have h5 : Q5c c 11 := by have := h.2.2.2.2.1; unfold Q5 at this; rw [hs] at this; exact this
  unfold Q5c at h5
  unfold a11
  split
  · skip
    have ef : fin c 12 = fin c 11 := by unfold fin; by_cases z : c.1 10 0 = 0 <;> simp [z]
    exact AM_gt _ 12 (show AMc n f c 12 from ⟨l.1, by rw [ef]; exact l.2.1, fun e => absurd e (by omega)⟩)
  · skip
    split
    · skip
      have ef : fin c 13 = fin c 11 := by unfold fin; by_cases z : c.1 10 0 = 0 <;> simp [z]
      exact AM_gt _ 13 (show AMc n f c 13 from ⟨l.1, by rw [ef]; exact l.2.1, fun e => absurd e (by omega)⟩)
    · skip
      split
      · skip
        have ef : fin c 14 = fin c 11 := by unfold fin; by_cases z : c.1 10 0 = 0 <;> simp [z]
        exact AM_gt _ 14 (show AMc n f c 14 from ⟨l.1, by rw [ef]; exact l.2.1, fun e => absurd e (by omega)⟩)
      · skip
        exact AM_wr _
theorem AM_a12 {n : Nat} {f : Nat → Nat} {c : aN} (h : AI c) (hL : AM n f c) (h0 : (c.1 2 0) = 0) (hs : (c.1 0 0) = 12) : AM n f (a12 (tok n f (c.1 1 0)) c) := by
  have l : AMc n f c 12 := by have := hL h0; rw [hs] at this; exact this
  have h5 : Q5c c 12 := by have := h.2.2.2.2.1; unfold Q5 at this; rw [hs] at this; exact this
  unfold Q5c at h5
  unfold a12
  split
  · skip
    have ef : fin c 11 = fin c 12 := by unfold fin; by_cases z : c.1 10 0 = 0 <;> simp [z]
    exact AM_gt _ 11 (show AMc n f c 11 from ⟨l.1, by rw [ef]; exact l.2.1, fun e => absurd e (by omega)⟩)
  · skip
    exact AM_wr _
theorem AM_a15 {n : Nat} {f : Nat → Nat} {c : aN} (h : AI c) (hL : AM n f c) (h0 : (c.1 2 0) = 0) (hs : (c.1 0 0) = 15) : AM n f (a15 (tok n f (c.1 1 0)) c) := by
  have l : AMc n f c 15 := by have := hL h0; rw [hs] at this; exact this
  have h5 : Q5c c 15 := by have := h.2.2.2.2.1; unfold Q5 at this; rw [hs] at this; exact this
  unfold Q5c at h5
  unfold a15
  split
  · skip
    have ef : fin c 16 = fin c 15 := by unfold fin; by_cases z : c.1 10 0 = 0 <;> simp [z]
    exact AM_gt _ 16 (show AMc n f c 16 from ⟨l.1, by rw [ef]; exact l.2.1, fun _ => l.2.2 (by omega)⟩)
  · skip
    split
    · skip
      have ef : fin c 16 = fin c 15 := by unfold fin; by_cases z : c.1 10 0 = 0 <;> simp [z]
      exact AM_gt _ 16 (show AMc n f c 16 from ⟨l.1, by rw [ef]; exact l.2.1, fun _ => l.2.2 (by omega)⟩)
    · skip
      split
      · skip
        have ef : fin c 16 = fin c 15 := by unfold fin; by_cases z : c.1 10 0 = 0 <;> simp [z]
        exact AM_gt _ 16 (show AMc n f c 16 from ⟨l.1, by rw [ef]; exact l.2.1, fun _ => l.2.2 (by omega)⟩)
      · skip
        exact AM_wr _
theorem AM_a4 {n : Nat} {f : Nat → Nat} {c : aN} (h : AI c) (hL : AM n f c) (h0 : (c.1 2 0) = 0) (hs : (c.1 0 0) = 4) : AM n f (a4 (tok n f (c.1 1 0)) c) := by
  have l : AMc n f c 4 := by have := hL h0; rw [hs] at this; exact this
  have h5 : Q5c c 4 := by have := h.2.2.2.2.1; unfold Q5 at this; rw [hs] at this; exact this
  unfold Q5c at h5
  unfold a4
  split
  · skip
    have ef : fin c 6 = fin c 4 := by unfold fin; by_cases z : c.1 10 0 = 0 <;> simp [z]
    exact AM_gt _ 6 (show AMc n f c 6 from ⟨l.1, by rw [ef]; exact l.2.1, fun e => absurd e (by omega)⟩)
  · skip
    exact AM_wr _
theorem AM_a6 {n : Nat} {f : Nat → Nat} {c : aN} (h : AI c) (hL : AM n f c) (h0 : (c.1 2 0) = 0) (hs : (c.1 0 0) = 6) : AM n f (a6 (tok n f (c.1 1 0)) c) := by
  have l : AMc n f c 6 := by have := hL h0; rw [hs] at this; exact this
  have h5 : Q5c c 6 := by have := h.2.2.2.2.1; unfold Q5 at this; rw [hs] at this; exact this
  unfold Q5c at h5
  unfold a6
  by_cases hx : (tok n f (c.1 1 0)).1 = 2
  · rw [if_pos hx]
    have ef : fin c 1 = fin c 6 := by unfold fin; simp
    exact AM_gt _ 1 (show AMc n f c 1 from ⟨l.1, by rw [ef]; exact l.2.1, fun e => absurd e (by omega)⟩)
  · rw [if_neg hx]
    by_cases z2 : (tok n f (c.1 1 0)).1 = 1 ∧ (if (c.1 10 0) = 0 then c.1 21 ((c.1 4 0) - 1) < 4 else c.1 22 ((c.1 6 0) - 1) < 8)
    · rw [if_pos z2]
      have ef : fin c 7 = fin c 6 := by unfold fin; simp
      exact AM_gt _ 7 (show AMc n f c 7 from ⟨l.1, by rw [ef]; exact l.2.1, fun e => absurd e (by omega)⟩)
    · rw [if_neg z2]; exact AM_wr _
theorem AM_a7 {n : Nat} {f : Nat → Nat} {c : aN} (h : AI c) (hL : AM n f c) (h0 : (c.1 2 0) = 0) (hs : (c.1 0 0) = 7) : AM n f (a7 (tok n f (c.1 1 0)) c) := by
  have l : AMc n f c 7 := by have := hL h0; rw [hs] at this; exact this
  have h5 : Q5c c 7 := by have := h.2.2.2.2.1; unfold Q5 at this; rw [hs] at this; exact this
  unfold Q5c at h5
  unfold a7
  split
  · split
    · skip
      have ef : fin c 8 = fin c 7 := by unfold fin; by_cases z : c.1 10 0 = 0 <;> simp [z]
      exact AM_gt _ 8 (show AMc n f c 8 from ⟨l.1, by rw [ef]; exact l.2.1, fun e => absurd e (by omega)⟩)
    · split
      · skip
        have ef : fin c 8 = fin c 7 := by unfold fin; by_cases z : c.1 10 0 = 0 <;> simp [z]
        exact AM_gt _ 8 (show AMc n f c 8 from ⟨l.1, by rw [ef]; exact l.2.1, fun e => absurd e (by omega)⟩)
      · exact AM_wr _
  · split
    · skip
      have ef : fin c 8 = fin c 7 := by unfold fin; by_cases z : c.1 10 0 = 0 <;> simp [z]
      exact AM_gt _ 8 (show AMc n f c 8 from ⟨l.1, by rw [ef]; exact l.2.1, fun e => absurd e (by omega)⟩)
    · exact AM_wr _
theorem AM_a17 {n : Nat} {f : Nat → Nat} {c : aN} (h : AI c) (hL : AM n f c) (h0 : (c.1 2 0) = 0) (hs : (c.1 0 0) = 17) : AM n f (a17 (tok n f (c.1 1 0)) c) := by
  have l : AMc n f c 17 := by have := hL h0; rw [hs] at this; exact this
  have h5 : Q5c c 17 := by have := h.2.2.2.2.1; unfold Q5 at this; rw [hs] at this; exact this
  unfold Q5c at h5
  unfold a17
  split
  · split
    · skip
      have ef : fin c 17 = fin c 17 := by unfold fin; by_cases z : c.1 10 0 = 0 <;> simp [z]
      exact AM_gt _ 17 (show AMc n f c 17 from ⟨l.1, by rw [ef]; exact l.2.1, fun e => absurd e (by omega)⟩)
    · skip
      have ef : fin c 9 = fin c 17 := by unfold fin; by_cases z : c.1 10 0 = 0 <;> simp [z]
      exact AM_gt _ 9 (show AMc n f c 9 from ⟨l.1, by rw [ef]; exact l.2.1, fun e => absurd e (by omega)⟩)
  · exact AM_wr _
theorem AM_a3 {n : Nat} {f : Nat → Nat} {c : aN} (h : AI c) (hL : AM n f c) (h0 : (c.1 2 0) = 0) (hs : (c.1 0 0) = 3) : AM n f (a3 (tok n f (c.1 1 0)) c) := by
  have l : AMc n f c 3 := by have := hL h0; rw [hs] at this; exact this
  have h5 : Q5c c 3 := by have := h.2.2.2.2.1; unfold Q5 at this; rw [hs] at this; exact this
  unfold Q5c at h5
  unfold a3
  split
  · have ef : fin (ahc c (tok n f (c.1 1 0)).2.2.2.1) 4 = fin c 3 := by
      unfold fin
      rw [show (ahc c (tok n f (c.1 1 0)).2.2.2.1).1 10 0 = 0 from rfl, show (ahc c (tok n f (c.1 1 0)).2.2.2.1).1 7 0 = (c.1 7 0) from rfl]
      simp
    exact AM_gt _ 4 ⟨l.1, by rw [ef]; exact l.2.1, fun e => absurd e (by omega)⟩
  · exact AM_wr _
theorem AM_a5 {n : Nat} {f : Nat → Nat} {c : aN} (h : AI c) (hL : AM n f c) (h0 : (c.1 2 0) = 0) (hs : (c.1 0 0) = 5) : AM n f (a5 (tok n f (c.1 1 0)) c) := by
  have l : AMc n f c 5 := by have := hL h0; rw [hs] at this; exact this
  have h5 : Q5c c 5 := by have := h.2.2.2.2.1; unfold Q5 at this; rw [hs] at this; exact this
  unfold Q5c at h5
  unfold a5
  split
  · have ef : fin (ahn c (tok n f (c.1 1 0)).2.2.2.1) 6 = fin c 5 := by
      unfold fin
      rw [show (ahn c (tok n f (c.1 1 0)).2.2.2.1).1 10 0 = 1 from rfl, show (ahn c (tok n f (c.1 1 0)).2.2.2.1).1 7 0 = (c.1 7 0) from rfl]
      simp
    exact AM_gt _ 6 ⟨l.1, by rw [ef]; exact l.2.1, fun e => absurd e (by omega)⟩
  · exact AM_wr _
theorem AM_adc {n : Nat} {f : Nat → Nat} {c : aN} (t : aK) (m : Nat) (l : AMc n f c 8) : AM n f (gt t (adc c m) 9) := by
  refine AM_gt t 9 ?_
  unfold AMc
  rw [adc_L]
  by_cases hw : (c.1 10 0) = 0
  · have ef : fin (adc c m) 9 = fin c 8 := by unfold fin; rw [adc0_WY hw, adc0_NW hw]; simp [hw]
    rw [ef, adc0_NT hw, adc0_TC hw, adc0_TQ hw, adc0_WQ hw]
    exact ⟨l.1, l.2.1, fun e => absurd e (by omega)⟩
  · have ef : fin (adc c m) 9 = fin c 8 := by unfold fin; rw [adc1_WY hw, adc1_NW hw]; simp [hw]
    rw [ef, adc1_NT hw, adc1_TC hw, adc1_TQ hw, adc1_WQ hw]
    exact ⟨l.1, l.2.1, fun e => absurd e (by omega)⟩
theorem AM_a8 {n : Nat} {f : Nat → Nat} {c : aN} (h : AI c) (hL : AM n f c) (h0 : (c.1 2 0) = 0) (hs : (c.1 0 0) = 8) : AM n f (a8 (tok n f (c.1 1 0)) c) := by
  have l : AMc n f c 8 := by have := hL h0; rw [hs] at this; exact this
  have h5 : Q5c c 8 := by have := h.2.2.2.2.1; unfold Q5 at this; rw [hs] at this; exact this
  unfold Q5c at h5
  unfold a8
  split
  · exact AM_adc _ _ l
  · split
    · exact AM_adc _ _ l
    · exact AM_wr _
theorem AM_a9 {n : Nat} {f : Nat → Nat} {c : aN} (h : AI c) (hL : AM n f c) (h0 : (c.1 2 0) = 0) (hs : (c.1 0 0) = 9) : AM n f (a9 (tok n f (c.1 1 0)) c) := by
  have l : AMc n f c 9 := by have := hL h0; rw [hs] at this; exact this
  have h5 : Q5c c 9 := by have := h.2.2.2.2.1; unfold Q5 at this; rw [hs] at this; exact this
  unfold Q5c at h5
  unfold a9
  split
  · skip
    have ef : fin c 11 = fin c 9 := by unfold fin; by_cases z : c.1 10 0 = 0 <;> simp [z]
    exact AM_gt _ 11 (show AMc n f c 11 from ⟨l.1, by rw [ef]; exact l.2.1, fun e => absurd e (by omega)⟩)
  · split
    · rename_i hw
      split
      · have ef : fin c 6 = fin c 9 := by unfold fin; simp [hw]
        exact AM_gt _ 6 (show AMc n f c 6 from ⟨l.1, by rw [ef]; exact l.2.1, fun e => absurd e (by omega)⟩)
      · exact AM_wr _
    · rename_i hw
      split
      · have ef9 : fin c 9 = (c.1 7 0) - 1 := by unfold fin; rw [if_pos ⟨hw, Or.inl rfl⟩]
        refine AM_gt _ 10 ⟨l.1, fun r hr => ?_, fun e => absurd e (by omega)⟩
        have hr : r < (if ¬ (c.1 10 0) = 0 ∧ (10 = 9 ∨ 11 ≤ 10 ∧ 10 ≤ 17) then (c.1 7 0) - 1 else (c.1 7 0)) := hr
        simp at hr
        show (if r = (c.1 7 0) - 1 then (tok n f (c.1 1 0)).2.2.2.1 else c.2.1 3 (r)) = nl n f (if r = (c.1 7 0) - 1 then (tok n f (c.1 1 0)).2.1 else c.1 35 (r))
        by_cases e : r = (c.1 7 0) - 1
        · rw [if_pos e, if_pos e]; rfl
        · rw [if_neg e, if_neg e]; exact l.2.1 r (by omega)
      · exact AM_wr _
theorem AM_a13 {n : Nat} {f : Nat → Nat} {c : aN} (h : AI c) (hL : AM n f c) (h0 : (c.1 2 0) = 0) (hs : (c.1 0 0) = 13) : AM n f (a13 (tok n f (c.1 1 0)) c) := by
  have l : AMc n f c 13 := by have := hL h0; rw [hs] at this; exact this
  have h5 : Q5c c 13 := by have := h.2.2.2.2.1; unfold Q5 at this; rw [hs] at this; exact this
  unfold Q5c at h5
  unfold a13
  split
  · have ef : fin c 15 = fin c 13 := by unfold fin; by_cases z : (c.1 10 0) = 0 <;> simp [z]
    refine AM_gt _ 15 ⟨l.1, ?_, fun _ e => ?_⟩
    · show ∀ r, r < fin c 15 → c.2.1 3 (r) = nl n f (c.1 35 (r))
      rw [ef]; exact l.2.1
    · exact absurd (show 0 = 1 from e) (by omega)
  · exact AM_wr _
theorem AM_a14 {n : Nat} {f : Nat → Nat} {c : aN} (h : AI c) (hL : AM n f c) (h0 : (c.1 2 0) = 0) (hs : (c.1 0 0) = 14) : AM n f (a14 (tok n f (c.1 1 0)) c) := by
  have l : AMc n f c 14 := by have := hL h0; rw [hs] at this; exact this
  have h5 : Q5c c 14 := by have := h.2.2.2.2.1; unfold Q5 at this; rw [hs] at this; exact this
  unfold Q5c at h5
  unfold a14
  split
  · have ef : fin c 15 = fin c 14 := by unfold fin; by_cases z : (c.1 10 0) = 0 <;> simp [z]
    refine AM_gt _ 15 ⟨l.1, ?_, fun _ e => ?_⟩
    · show ∀ r, r < fin c 15 → c.2.1 3 (r) = nl n f (c.1 35 (r))
      rw [ef]; exact l.2.1
    · rfl
  · exact AM_wr _
theorem adt_L3 (c : aN) (v : Int32) (k : Nat) : (adt c v).2.1 3 k = c.2.1 3 k := by unfold adt; split <;> rfl
theorem adt_L2 (c : aN) (v : Int32) (k : Nat) : (adt c v).2.1 2 k = if k = (c.1 8 0) then c.2.1 4 (0) else c.2.1 2 (k) := by unfold adt; split <;> rfl
theorem AM_adt {n : Nat} {f : Nat → Nat} {c : aN} (t : aK) (v : Int32) (l : AMc n f c 16) : AM n f (gt t (adt c v) 17) := by
  refine AM_gt t 17 ?_
  unfold AMc
  by_cases hw : (c.1 10 0) = 0
  · have ef : fin (adt c v) 17 = fin c 16 := by unfold fin; rw [adt0_WY hw, adt0_NW hw]; simp [hw]
    rw [ef, adt0_NT hw, adt0_WQ hw]
    refine ⟨fun g hg => ?_, fun r hr => by rw [adt_L3]; exact l.2.1 r hr, fun e => absurd e (by omega)⟩
    rw [adt0_TC hw, adt0_TQ hw, adt_L2]
    by_cases e : g = (c.1 8 0)
    · rw [if_pos e, if_pos e, if_pos e]; exact l.2.2 (by omega)
    · rw [if_neg e, if_neg e, if_neg e]; exact l.1 g (by omega)
  · have ef : fin (adt c v) 17 = fin c 16 := by unfold fin; rw [adt1_WY hw, adt1_NW hw]; simp [hw]
    rw [ef, adt1_NT hw, adt1_WQ hw]
    refine ⟨fun g hg => ?_, fun r hr => by rw [adt_L3]; exact l.2.1 r hr, fun e => absurd e (by omega)⟩
    rw [adt1_TC hw, adt1_TQ hw, adt_L2]
    by_cases e : g = (c.1 8 0)
    · rw [if_pos e, if_pos e, if_pos e]; exact l.2.2 (by omega)
    · rw [if_neg e, if_neg e, if_neg e]; exact l.1 g (by omega)
theorem AM_a16 {n : Nat} {f : Nat → Nat} {c : aN} (h : AI c) (hL : AM n f c) (h0 : (c.1 2 0) = 0) (hs : (c.1 0 0) = 16) : AM n f (a16 (tok n f (c.1 1 0)) c) := by
  have l : AMc n f c 16 := by have := hL h0; rw [hs] at this; exact this
  have h5 : Q5c c 16 := by have := h.2.2.2.2.1; unfold Q5 at this; rw [hs] at this; exact this
  unfold Q5c at h5
  unfold a16
  split
  · exact AM_adt _ _ l
  · exact AM_wr _
theorem AM_stp {n : Nat} {f : Nat → Nat} {c : aN} (h : AI c) (hL : AM n f c) : AM n f (stp n f c) := by
  unfold stp
  by_cases h00 : (c.1 2 0) = 0 ∧ ¬ (c.1 0 0) = 0
  · rw [if_pos h00]
    have h0 := h00.1
    by_cases e1 : (c.1 0 0) = 1
    · rw [stT_1 _ e1]; exact AM_a1 h hL h0 e1
    by_cases e2 : (c.1 0 0) = 2
    · rw [stT_2 _ e2]; exact AM_a2 h hL h0 e2
    by_cases e3 : (c.1 0 0) = 3
    · rw [stT_3 _ e3]; exact AM_a3 h hL h0 e3
    by_cases e4 : (c.1 0 0) = 4
    · rw [stT_4 _ e4]; exact AM_a4 h hL h0 e4
    by_cases e5 : (c.1 0 0) = 5
    · rw [stT_5 _ e5]; exact AM_a5 h hL h0 e5
    by_cases e6 : (c.1 0 0) = 6
    · rw [stT_6 _ e6]; exact AM_a6 h hL h0 e6
    by_cases e7 : (c.1 0 0) = 7
    · rw [stT_7 _ e7]; exact AM_a7 h hL h0 e7
    by_cases e8 : (c.1 0 0) = 8
    · rw [stT_8 _ e8]; exact AM_a8 h hL h0 e8
    by_cases e9 : (c.1 0 0) = 9
    · rw [stT_9 _ e9]; exact AM_a9 h hL h0 e9
    by_cases e10 : (c.1 0 0) = 10
    · rw [stT_10 _ e10]; exact AM_a10 h hL h0 e10
    by_cases e11 : (c.1 0 0) = 11
    · rw [stT_11 _ e11]; exact AM_a11 h hL h0 e11
    by_cases e12 : (c.1 0 0) = 12
    · rw [stT_12 _ e12]; exact AM_a12 h hL h0 e12
    by_cases e13 : (c.1 0 0) = 13
    · rw [stT_13 _ e13]; exact AM_a13 h hL h0 e13
    by_cases e14 : (c.1 0 0) = 14
    · rw [stT_14 _ e14]; exact AM_a14 h hL h0 e14
    by_cases e15 : (c.1 0 0) = 15
    · rw [stT_15 _ e15]; exact AM_a15 h hL h0 e15
    by_cases e16 : (c.1 0 0) = 16
    · rw [stT_16 _ e16]; exact AM_a16 h hL h0 e16
    by_cases e17 : (c.1 0 0) = 17
    · rw [stT_17 _ e17]; exact AM_a17 h hL h0 e17
    unfold stT
    rw [if_neg e1, if_neg e2, if_neg e3, if_neg e4, if_neg e5, if_neg e6, if_neg e7, if_neg e8, if_neg e9, if_neg e10, if_neg e11, if_neg e12, if_neg e13, if_neg e14, if_neg e15, if_neg e16, if_neg e17]
    exact hL
  · rw [if_neg h00]; exact hL
theorem AM_ait {n : Nat} {f : Nat → Nat} : ∀ (m : Nat) {c : aN}, AI c → AM n f c → AM n f (ait n f m c)
  | 0, _, _, h => h
  | m + 1, _, g, h => AM_ait m (AI_stp g) (AM_stp g h)
theorem AM_0 (n : Nat) (f : Nat → Nat) : AM n f aC0 := fun _ => show AMc n f aC0 1 from ⟨fun _ h => absurd h (by simp [aC0]), fun _ h => absurd h (by simp [aC0, fin]), fun e => absurd e (by omega)⟩
