/-! Linking: all heads; the policy that is read -/
section Link3
variable {n : Nat} {f : Nat → Nat} {c0 c : aN} {q : aP} {rf tp gp S Gl : Nat → Int32}
theorem pR_m (hE : E2 c0) : ∀ r2 r, r ≤ r2 → r2 ≤ (c0.1 5 0) → pR c0 r ≤ pR c0 r2
  | 0, r, h, _ => by rw [show r = 0 by omega]; exact Nat.le_refl _
  | r2 + 1, r, h, h2 => by
    by_cases e : r = r2 + 1
    · rw [e]; exact Nat.le_refl _
    · have := pR_m hE r2 r (by omega) (by omega)
      rw [pR_s hE (by omega)]; omega
theorem pW_m (hE : E2 c0) : ∀ r2 r, r ≤ r2 → r2 ≤ (c0.1 7 0) → pW c0 r ≤ pW c0 r2
  | 0, r, h, _ => by rw [show r = 0 by omega]; exact Nat.le_refl _
  | r2 + 1, r, h, h2 => by
    by_cases e : r = r2 + 1
    · rw [e]; exact Nat.le_refl _
    · have := pW_m hE r2 r (by omega) (by omega)
      rw [pW_s hE (by omega)]; omega
theorem lkJ_sim0 (hR : RD n f c0 q tp gp) {k : Nat} (hk : k < (c0.1 4 0)) : ∀ (m j : Nat) (L : (Nat → Int32) × (Nat → Int32) × (Nat → Int32)), j + m = c0.1 21 (k) → LAr c0 (aSum (c0.1 21) k + j) L → LAr c0 (aSum (c0.1 21) (k + 1)) (lkJ n f q tp gp 0 k m j L)
  | 0, j, L, hj, h => by
    rw [show aSum (c0.1 21) (k + 1) = aSum (c0.1 21) k + j from by rw [aSum]; omega]; exact h
  | m + 1, j, L, hj, h => by
    obtain ⟨hn, hf, hRA, hA, hJ, hE1, hE2, hE3, hM, hG⟩ := id hR
    have es : aSum (c0.1 21) (k + 1) = aSum (c0.1 21) k + c0.1 21 (k) := rfl
    have hle := aSum_le (c0.1 21) (i := k + 1) (c0.1 4 0) hk
    have et := hE1.2.1
    rw [lkJ]
    by_cases h4 : L.2.2 4 = 0
    · rw [if_pos h4]
      have hr : aSum (c0.1 21) k + j < (c0.1 5 0) := by omega
      have hu := aSum_u (g := c0.1 21) (k := k) (j := j) (show j < c0.1 21 (k) by omega) (hA.2.1 _ hr).2.1 (hE1.1 _ hr)
      have erow : lkR 0 k j = rwR c0 (aSum (c0.1 21) k + j) := by
        unfold lkR rwR
        rw [if_pos rfl, ← hu.1, ← hu.2]
      have em : (q.2.2 10 (lkR 0 k j)).toNatClampNeg = c0.1 28 (aSum (c0.1 21) k + j) := by
        rw [erow, (hRA.2.2.2.2.1 _ hr).1.2.1, nI_clamp (by have := (hA.2.1 _ hr).2.2.1; omega)]
      rw [em, erow]
      exact lkJ_sim0 hR hk m (j + 1) _ (by omega) (LAr_s hR hr h)
    · rw [if_neg h4]
      exact LAr_bad h h4 (pR_m hE2 _ _ (by omega) (by omega))
theorem lkK_sim0 (hR : RD n f c0 q tp gp) : ∀ (m k : Nat) (L : (Nat → Int32) × (Nat → Int32) × (Nat → Int32)), k + m = (c0.1 4 0) → LAr c0 (aSum (c0.1 21) k) L → LAr c0 (c0.1 5 0) (lkK n f q tp gp 0 m k L)
  | 0, k, L, hj, h => by
    obtain ⟨hn, hf, hRA, hA, hJ, hE1, hE2, hE3, hM, hG⟩ := id hR
    rw [show k = (c0.1 4 0) by omega, hE1.2.1] at h; exact h
  | m + 1, k, L, hj, h => by
    obtain ⟨hn, hf, hRA, hA, hJ, hE1, hE2, hE3, hM, hG⟩ := id hR
    have hk : k < (c0.1 4 0) := by omega
    have hle := aSum_le (c0.1 21) (i := k) (c0.1 4 0) (by omega)
    have et := hE1.2.1
    have ec : (q.2.2 4 (lkH 0 k)).toNatClampNeg = c0.1 21 (k) := by
      unfold lkH
      rw [if_pos rfl, (hRA.2.2.1 k hk).2.2.2, nI_clamp (by have := hA.1.2.2.1 k hk; omega)]
    rw [lkK]
    by_cases h4 : L.2.2 4 = 0
    · rw [if_pos h4, ec]
      exact lkK_sim0 hR m (k + 1) _ (by omega) (lkJ_sim0 hR hk _ 0 L (by omega) (by rw [Nat.add_zero]; exact h))
    · rw [if_neg h4]
      exact LAr_bad h h4 (pR_m hE2 _ _ (by omega) (by omega))
theorem lkJ_sim1 (hR : RD n f c0 q tp gp) {k : Nat} (hk : k < (c0.1 6 0)) : ∀ (m j : Nat) (L : (Nat → Int32) × (Nat → Int32) × (Nat → Int32)), j + m = c0.1 22 (k) → LAw c0 (aSum (c0.1 22) k + j) L → LAw c0 (aSum (c0.1 22) (k + 1)) (lkJ n f q tp gp 1 k m j L)
  | 0, j, L, hj, h => by
    rw [show aSum (c0.1 22) (k + 1) = aSum (c0.1 22) k + j from by rw [aSum]; omega]; exact h
  | m + 1, j, L, hj, h => by
    obtain ⟨hn, hf, hRA, hA, hJ, hE1, hE2, hE3, hM, hG⟩ := id hR
    have es : aSum (c0.1 22) (k + 1) = aSum (c0.1 22) k + c0.1 22 (k) := rfl
    have hle := aSum_le (c0.1 22) (i := k + 1) (c0.1 6 0) hk
    have et := hE1.2.2.2
    rw [lkJ]
    by_cases h4 : L.2.2 4 = 0
    · rw [if_pos h4]
      have hr : aSum (c0.1 22) k + j < (c0.1 7 0) := by omega
      have hu := aSum_u (g := c0.1 22) (k := k) (j := j) (show j < c0.1 22 (k) by omega) (hA.2.2.1 _ hr).2.1 (hE1.2.2.1 _ hr)
      have erow : lkR 1 k j = rwW c0 (aSum (c0.1 22) k + j) := by
        unfold lkR rwW
        rw [if_neg (by decide), ← hu.1, ← hu.2]
      have em : (q.2.2 10 (lkR 1 k j)).toNatClampNeg = c0.1 33 (aSum (c0.1 22) k + j) := by
        rw [erow, (hRA.2.2.2.2.2 _ hr).2.1, nI_clamp (by have := (hA.2.2.1 _ hr).2.2.1; omega)]
      rw [em, erow]
      exact lkJ_sim1 hR hk m (j + 1) _ (by omega) (LAw_s hR hr h)
    · rw [if_neg h4]
      exact LAw_bad h h4 (pW_m hE2 _ _ (by omega) (by omega))
theorem lkK_sim1 (hR : RD n f c0 q tp gp) : ∀ (m k : Nat) (L : (Nat → Int32) × (Nat → Int32) × (Nat → Int32)), k + m = (c0.1 6 0) → LAw c0 (aSum (c0.1 22) k) L → LAw c0 (c0.1 7 0) (lkK n f q tp gp 1 m k L)
  | 0, k, L, hj, h => by
    obtain ⟨hn, hf, hRA, hA, hJ, hE1, hE2, hE3, hM, hG⟩ := id hR
    rw [show k = (c0.1 6 0) by omega, hE1.2.2.2] at h; exact h
  | m + 1, k, L, hj, h => by
    obtain ⟨hn, hf, hRA, hA, hJ, hE1, hE2, hE3, hM, hG⟩ := id hR
    have hk : k < (c0.1 6 0) := by omega
    have hle := aSum_le (c0.1 22) (i := k) (c0.1 6 0) (by omega)
    have et := hE1.2.2.2
    have ec : (q.2.2 4 (lkH 1 k)).toNatClampNeg = c0.1 22 (k) := by
      unfold lkH
      rw [if_neg (by decide), (hRA.2.2.2.1 k hk).2, nI_clamp (by have := hA.1.2.2.2 k hk; omega)]
    rw [lkK]
    by_cases h4 : L.2.2 4 = 0
    · rw [if_pos h4, ec]
      exact lkK_sim1 hR m (k + 1) _ (by omega) (lkJ_sim1 hR hk _ 0 L (by omega) (by rw [Nat.add_zero]; exact h))
    · rw [if_neg h4]
      exact LAw_bad h h4 (pW_m hE2 _ _ (by omega) (by omega))
/-- both loops -/
theorem lk_sim (hR : RD n f c0 q tp gp) (h0 : (c0.1 2 0) = 0) (h4 : rf 4 = 0) (h5 : rf 5 = -1) : LAw c0 (c0.1 7 0) (lkK n f q tp gp 1 (c0.1 6 0) 0 (lkK n f q tp gp 0 (c0.1 4 0) 0 (q.2.2 11, q.2.2 9, rf))) := by
  obtain ⟨hn, hf, hRA, hA, hJ, hE1, hE2, hE3, hM, hG⟩ := id hR
  have hLK : LK0 c0 c0 := ⟨fun _ _ _ _ _ => rfl, rfl, fun g => by have := hJ.2.1 g; exact ⟨by omega, fun _ => by omega⟩⟩
  have i0 : LAr c0 0 (q.2.2 11, q.2.2 9, rf) := by
    unfold LAr
    rw [pR_0 hE2]
    refine ⟨⟨hLK, fun _ => ⟨h4, h5, fun r hr i hi => ((hRA.2.2.2.2.1 r hr).1.2.2 i hi).1, fun r hr i hi => ((hRA.2.2.2.2.2 r hr).2.2 i hi).1⟩, fun z => absurd h0 z, by show (c0.1 2 0) < 8; omega⟩, fun r hr => (hRA.2.2.2.2.1 r hr).2, fun _ r hr => absurd hr (by omega)⟩
  have h1 := lkK_sim0 hR (c0.1 4 0) 0 _ (by omega) i0
  have i1 : LAw c0 0 (lkK n f q tp gp 0 (c0.1 4 0) 0 (q.2.2 11, q.2.2 9, rf)) := by
    unfold LAw
    rw [← pRW hE2]; exact h1
  exact lkK_sim1 hR (c0.1 6 0) 0 _ (by omega) i1
end Link3
/-- a policy's rows against the machine, once linked; stands apart -/
def cl2 (q : aP) (c : aN) (row call fst many : Nat) : Prop := q.2.2 8 row = nI call ∧ q.2.2 10 row = nI many ∧ ∀ i, i < many → q.2.2 11 (row * 4 + i) = shF c (fst + i) ∧ q.2.2 12 (row * 4 + i) = c.2.2 (fst + i)
def PC (c : aN) (q : aP) : Prop := PI q ∧ q.1 = ((c.1 4 0), (c.1 6 0), (c.1 8 0)) ∧ (∀ k, k < (c.1 4 0) → q.2.1 k = e32 (c.2.1 0 (k)) ∧ q.2.2 5 k = nI (c.1 20 (k)) ∧ q.2.2 4 k = nI (c.1 21 (k))) ∧ (∀ k, k < (c.1 6 0) → q.2.1 (6 + k) = e32 (c.2.1 1 (k)) ∧ q.2.2 4 (6 + k) = nI (c.1 22 (k))) ∧ (∀ r, r < (c.1 5 0) → cl2 q c (rwR c r) (c.1 25 (r)) (c.1 27 (r)) (c.1 28 (r)) ∧ q.2.2 9 (rwR c r) = nI (c.1 26 (r))) ∧ (∀ r, r < (c.1 7 0) → cl2 q c (rwW c r) (c.1 31 (r)) (c.1 32 (r)) (c.1 33 (r)) ∧ q.2.2 9 (rwW c r) = nI (c.1 34 (r)))
/-- what reading the text f gives: the machine's end, linked where nothing was wrong -/
def aEnd (c : aN) : aN := if (c.1 2 0) = 0 then lnkF (c.1 9 0) 0 c else c
def RDN (n : Nat) (f : Nat → Nat) (d : aN) : Prop := ∃ c, aRc n f aC0 c ∧ aStop c ∧ d = aEnd c
theorem RDN_one {n : Nat} {f : Nat → Nat} {d e : aN} (h : RDN n f d) (g : RDN n f e) : d = e := by
  obtain ⟨c, h1, h2, rfl⟩ := h
  obtain ⟨c2, g1, g2, rfl⟩ := g
  rw [aRc_end h1 h2 g1 g2]
theorem lnk1_ok {c : aN} (l : Nat) : (∀ g, c.1 37 (g) < (c.1 4 0) → (lnk1 c l).1 37 g < (lnk1 c l).1 4 0) ∧ (∀ g, c.1 34 (g) < (c.1 6 0) → (lnk1 c l).1 34 g < (lnk1 c l).1 6 0) ∧ (lnk1 c l).1 41 = c.1 41 ∧ (lnk1 c l).1 42 = c.1 42 ∧ (lnk1 c l).1 4 = c.1 4 ∧ (lnk1 c l).1 6 = c.1 6 ∧ ((lnk1 c l).1 2 0 = 0 → (c.1 41 (l) = 0 → (lnk1 c l).1 37 (c.1 42 (l)) < (c.1 4 0)) ∧ (c.1 41 (l) = 1 → (lnk1 c l).1 34 (c.1 42 (l)) < (c.1 6 0))) := by
  unfold lnk1
  by_cases e2 : c.1 41 (l) = 2
  · rw [if_pos e2]
    have n0 : ¬ c.1 41 (l) = 0 := by omega
    have n1 : ¬ c.1 41 (l) = 1 := by omega
    split
    · exact ⟨fun g h => h, fun g h => h, rfl, rfl, rfl, rfl, fun _ => ⟨fun z => absurd z n0, fun z => absurd z n1⟩⟩
    · exact ⟨fun g h => h, fun g h => h, rfl, rfl, rfl, rfl, fun _ => ⟨fun z => absurd z n0, fun z => absurd z n1⟩⟩
  · rw [if_neg e2]
    by_cases e0 : c.1 41 (l) = 0
    · rw [if_pos e0]
      have n1 : ¬ c.1 41 (l) = 1 := by omega
      split
      · exact ⟨fun g h => h, fun g h => h, rfl, rfl, rfl, rfl, fun z => absurd (show 5 = 0 from z) (by decide)⟩
      · rename_i x hx
        have hb := afd_some _ _ _ hx
        refine ⟨fun g h => ?_, fun g h => h, rfl, rfl, rfl, rfl, fun _ => ⟨fun _ => ?_, fun z => absurd z n1⟩⟩
        · show (if g = c.1 42 (l) then x else c.1 37 (g)) < (c.1 4 0)
          split
          · omega
          · exact h
        · show (if c.1 42 (l) = c.1 42 (l) then x else c.1 37 (c.1 42 (l))) < (c.1 4 0)
          rw [if_pos rfl]; omega
    · rw [if_neg e0]
      split
      · exact ⟨fun g h => h, fun g h => h, rfl, rfl, rfl, rfl, fun z => absurd (show 5 = 0 from z) (by decide)⟩
      · rename_i x hx
        have hb := afd_some _ _ _ hx
        refine ⟨fun g h => h, fun g h => ?_, rfl, rfl, rfl, rfl, fun _ => ⟨fun z => absurd z e0, fun _ => ?_⟩⟩
        · show (if g = c.1 42 (l) then x else c.1 34 (g)) < (c.1 6 0)
          split
          · omega
          · exact h
        · show (if c.1 42 (l) = c.1 42 (l) then x else c.1 34 (c.1 42 (l))) < (c.1 6 0)
          rw [if_pos rfl]; omega
theorem lnkF_ok : ∀ (m l : Nat) (c : aN), (∀ g, c.1 37 (g) < (c.1 4 0) → (lnkF m l c).1 37 g < (c.1 4 0)) ∧ (∀ g, c.1 34 (g) < (c.1 6 0) → (lnkF m l c).1 34 g < (c.1 6 0)) ∧ ((lnkF m l c).1 2 0 = 0 → ∀ i, i < m → (c.1 41 (l + i) = 0 → (lnkF m l c).1 37 (c.1 42 (l + i)) < (c.1 4 0)) ∧ (c.1 41 (l + i) = 1 → (lnkF m l c).1 34 (c.1 42 (l + i)) < (c.1 6 0)))
  | 0, l, c => ⟨fun g h => h, fun g h => h, fun _ i hi => absurd hi (by omega)⟩
  | m + 1, l, c => by
    rw [lnkF]
    by_cases h0 : (c.1 2 0) = 0
    · rw [if_pos h0]
      obtain ⟨k1, k2, k3, k4, k5, k6, k7⟩ := lnk1_ok (c := c) l
      obtain ⟨i1, i2, i3⟩ := lnkF_ok m (l + 1) (lnk1 c l)
      rw [k5] at i1 i3 k1
      rw [k6] at i2 i3 k2
      refine ⟨fun g h => i1 g (k1 g h), fun g h => i2 g (k2 g h), fun hf i hi => ?_⟩
      by_cases e : i = 0
      · subst e
        rw [Nat.add_zero]
        have hz : (lnk1 c l).1 2 0 = 0 := Decidable.byContradiction fun z => by rw [lnkF_bad z] at hf; exact z hf
        exact ⟨fun z => i1 _ ((k7 hz).1 z), fun z => i2 _ ((k7 hz).2 z)⟩
      · have := i3 hf (i - 1) (by omega)
        rw [k3, k4, show l + 1 + (i - 1) = l + i by omega] at this
        exact this
    · rw [if_neg h0]
      exact ⟨fun g h => h, fun g h => h, fun z => absurd z h0⟩
