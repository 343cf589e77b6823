/-! How long the print is -/
theorem dgL_len (r : Int64) : ∀ m, (dgL r m).length = m
  | 0 => rfl
  | m + 1 => by rw [dgL, List.length_cons, dgL_len r m]
theorem numB_len (v : Int32) : (numB v).length ≤ 11 := by
  unfold numB
  have h1 := ueF_le v.toInt64 9 0
  have h2 := ueF_le (-v.toInt64) 9 0
  split
  · rw [dgL_len]; omega
  · rw [List.length_cons, dgL_len]; omega
theorem num_15 : ∀ v, v ≤ 15 → (numB (nI v)).length ≤ 3 := by decide +kernel
section Len
variable {c : aN}
theorem hwM_len (p : Nat) : (hwM p).length = 4 := by
  unfold hwM
  split
  · rfl
  · split <;> rfl
theorem tsM_len (h : FQ c) (g : Nat) : (tsM c g).length ≤ 44 := by
  have hn := (h.2.2.2.2.2.2.2.1 0 (c.1 37 g)).2
  have h1 := numB_len (nI (c.1 37 g))
  have h2 := numB_len (c.2.2 g)
  have h3 := hwM_len (c.1 38 g)
  have l42 : (jS 42).length = 3 := rfl
  have l43 : (jS 43).length = 5 := rfl
  have l44 : (jS 44).length = 3 := rfl
  unfold tsM
  split <;> split <;> simp only [List.length_append, List.length_cons, List.length_nil] <;> omega
theorem tlM_len (h : FQ c) : ∀ n g, (tlM c g n).length ≤ 44 * n
  | 0, _ => Nat.le_refl _
  | n + 1, g => by
    have h1 := tsM_len h g
    have h2 := tlM_len h n (g + 1)
    rw [tlM, List.length_append]; omega
theorem clM_len (h : FQ c) {a : Nat} (ha : a ≤ 16) (f n : Nat) : (clM c a f n).length ≤ 4 + 44 * n := by
  have h2 := tlM_len h n f
  have l45 : (jS 45).length = 3 := rfl
  unfold clM
  split
  · simp only [List.length_append, List.length_cons, List.length_nil]; omega
  · have := num_15 a (by omega)
    simp only [List.length_append, List.length_cons, List.length_nil]; omega
theorem ruP_len (h : FQ c) (r : Nat) : (ruP c r).length ≤ 11 + 44 * c.1 28 r := by
  have h1 := clM_len h (h.2.2.2.2.2.2.1 r).2.1 (c.1 27 r) (c.1 28 r)
  have l38 : (jS 38).length = 2 := rfl
  have l39 : (jS 39).length = 4 := rfl
  unfold ruP
  split <;> simp only [List.length_append, List.length_cons, List.length_nil] <;> omega
theorem wyP_len (h : FQ c) (r : Nat) : (wyP c r).length ≤ 22 + 44 * c.1 33 r := by
  have h1 := clM_len h (h.2.2.2.2.2.2.1 r).2.2.1 (c.1 32 r) (c.1 33 r)
  have hn := (h.2.2.2.2.2.2.2.1 1 (c.1 34 r)).2
  have l41 : (jS 41).length = 2 := rfl
  unfold wyP
  simp only [List.length_append, List.length_cons, List.length_nil]; omega
theorem ruM_len (h : FQ c) {k : Nat} (hk : k < c.1 4 0) : ∀ n r, r + n = c.1 5 0 → (ruM c k n r).length + (20 * min (max r (aSum (c.1 21) k)) (aSum (c.1 21) k + c.1 21 k) + 44 * pR c (min (max r (aSum (c.1 21) k)) (aSum (c.1 21) k + c.1 21 k))) ≤ 20 * (aSum (c.1 21) k + c.1 21 k) + 44 * pR c (aSum (c.1 21) k + c.1 21 k)
  | 0, r, hr => by
    obtain ⟨e1, e2, -, -⟩ := h.2.2.2.1
    have hs := tie_S hk e2
    rw [show min (max r (aSum (c.1 21) k)) (aSum (c.1 21) k + c.1 21 k) = aSum (c.1 21) k + c.1 21 k by omega]
    show 0 + _ ≤ _
    omega
  | n + 1, r, hr => by
    obtain ⟨e1, e2, -, -⟩ := h.2.2.2.1
    have hs := tie_S hk e2
    have h6 := h.1.1
    have hr5 : r < c.1 5 0 := by omega
    have hX : ∀ r, r < c.1 5 0 → c.1 23 r < c.1 4 0 ∧ c.1 24 r < c.1 21 (c.1 23 r) := fun r hr => ⟨(h.2.1 r hr).1, (h.2.1 r hr).2.1⟩
    have ho := own_iff e1 hX hk hr5
    have h4 := hX r hr5
    have ih := ruM_len h hk n (r + 1) (by omega)
    rw [ruM, List.length_append]
    by_cases z : aSum (c.1 21) k ≤ r ∧ r < aSum (c.1 21) k + c.1 21 k
    · rw [if_pos (by rw [ho.mpr z])]
      have hl := ruP_len h r
      have hp := pR_s h.2.2.2.2.1 hr5
      rw [show min (max r (aSum (c.1 21) k)) (aSum (c.1 21) k + c.1 21 k) = r by omega]
      rw [show min (max (r + 1) (aSum (c.1 21) k)) (aSum (c.1 21) k + c.1 21 k) = r + 1 by omega, hp] at ih
      omega
    · rw [if_neg (fun w => z (ho.mp ((nI_eq (by omega) (by omega)).mp w)))]
      rw [show min (max (r + 1) (aSum (c.1 21) k)) (aSum (c.1 21) k + c.1 21 k) = min (max r (aSum (c.1 21) k)) (aSum (c.1 21) k + c.1 21 k) by omega] at ih
      rw [List.length_nil]; omega
theorem wyM_len (h : FQ c) {k : Nat} (hk : k < c.1 6 0) : ∀ n r, r + n = c.1 7 0 → (wyM c k n r).length + 44 * pW c (min (max r (aSum (c.1 22) k)) (aSum (c.1 22) k + c.1 22 k)) + 20 * (aSum (c.1 22) k + c.1 22 k) ≤ 44 * pW c (aSum (c.1 22) k + c.1 22 k) + 20 * min (max r (aSum (c.1 22) k)) (aSum (c.1 22) k + c.1 22 k)
  | 0, r, hr => by
    obtain ⟨-, -, e1, e2⟩ := h.2.2.2.1
    have hs := tie_S hk e2
    rw [show min (max r (aSum (c.1 22) k)) (aSum (c.1 22) k + c.1 22 k) = aSum (c.1 22) k + c.1 22 k by omega]
    show 0 + _ + _ ≤ _
    omega
  | n + 1, r, hr => by
    obtain ⟨-, -, e1, e2⟩ := h.2.2.2.1
    have hs := tie_S hk e2
    have h6 := h.1.2.1
    have hr5 : r < c.1 7 0 := by omega
    have hX : ∀ r, r < c.1 7 0 → c.1 29 r < c.1 6 0 ∧ c.1 30 r < c.1 22 (c.1 29 r) := fun r hr => ⟨(h.2.2.1 r hr).1, (h.2.2.1 r hr).2.1⟩
    have ho := own_iff e1 hX hk hr5
    have h4 := hX r hr5
    have ih := wyM_len h hk n (r + 1) (by omega)
    rw [wyM, List.length_append]
    by_cases z : aSum (c.1 22) k ≤ r ∧ r < aSum (c.1 22) k + c.1 22 k
    · rw [if_pos (by rw [ho.mpr z])]
      have hl := wyP_len h r
      have hp := pW_s h.2.2.2.2.1 hr5
      rw [show min (max r (aSum (c.1 22) k)) (aSum (c.1 22) k + c.1 22 k) = r by omega]
      rw [show min (max (r + 1) (aSum (c.1 22) k)) (aSum (c.1 22) k + c.1 22 k) = r + 1 by omega, hp] at ih
      omega
    · rw [if_neg (fun w => z (ho.mp ((nI_eq (by omega) (by omega)).mp w)))]
      rw [show min (max (r + 1) (aSum (c.1 22) k)) (aSum (c.1 22) k + c.1 22 k) = min (max r (aSum (c.1 22) k)) (aSum (c.1 22) k + c.1 22 k) by omega] at ih
      rw [List.length_nil]; omega
theorem cos_len (h : FQ c) : ∀ n k, k + n = c.1 4 0 → (cosM c n k).length + (20 * aSum (c.1 21) k + 44 * pR c (aSum (c.1 21) k)) ≤ 44 * n + (20 * c.1 5 0 + 44 * pR c (c.1 5 0))
  | 0, k, hk => by
    obtain ⟨e1, e2, -, -⟩ := h.2.2.2.1
    rw [show k = c.1 4 0 by omega, e2]
    show 0 + _ ≤ _
    omega
  | n + 1, k, hk => by
    have ih := cos_len h n (k + 1) (by omega)
    have hr := ruM_len h (show k < c.1 4 0 by omega) (c.1 5 0) 0 (by omega)
    have hs := tie_S (show k < c.1 4 0 by omega) h.2.2.2.1.2.1
    rw [show min (max 0 (aSum (c.1 21) k)) (aSum (c.1 21) k + c.1 21 k) = aSum (c.1 21) k by omega] at hr
    rw [show aSum (c.1 21) (k + 1) = aSum (c.1 21) k + c.1 21 k from rfl] at ih
    have hn := (h.2.2.2.2.2.2.2.1 0 k).2
    have h1 := numB_len (nI (c.1 20 k))
    have l37 : (jS 37).length = 7 := rfl
    rw [cosM, coM]
    simp only [List.length_append, List.length_cons, List.length_nil]; omega
theorem nds_len (h : FQ c) : ∀ n k, k + n = c.1 6 0 → (ndsM c n k).length + 44 * pW c (aSum (c.1 22) k) + 20 * c.1 7 0 ≤ 28 * n + 44 * pW c (c.1 7 0) + 20 * aSum (c.1 22) k
  | 0, k, hk => by
    obtain ⟨-, -, e1, e2⟩ := h.2.2.2.1
    rw [show k = c.1 6 0 by omega, e2]
    show 0 + _ + _ ≤ _
    omega
  | n + 1, k, hk => by
    have ih := nds_len h n (k + 1) (by omega)
    have hr := wyM_len h (show k < c.1 6 0 by omega) (c.1 7 0) 0 (by omega)
    have hs := tie_S (show k < c.1 6 0 by omega) h.2.2.2.1.2.2.2
    rw [show min (max 0 (aSum (c.1 22) k)) (aSum (c.1 22) k + c.1 22 k) = aSum (c.1 22) k by omega] at hr
    rw [show aSum (c.1 22) (k + 1) = aSum (c.1 22) k + c.1 22 k from rfl] at ih
    have hn := (h.2.2.2.2.2.2.2.1 1 k).2
    have l40 : (jS 40).length = 4 := rfl
    rw [ndsM, ndM]
    simp only [List.length_append, List.length_cons, List.length_nil]; omega
theorem prM_len (h : FQ c) : (prM c).length ≤ 4 * Wt c := by
  have h1 := cos_len h (c.1 4 0) 0 (by omega)
  have h2 := nds_len h (c.1 6 0) 0 (by omega)
  have h3 := pRW h.2.2.2.2.1
  have h4 := pR_0 h.2.2.2.2.1
  have hW : pW c (c.1 7 0) = c.1 8 0 + c.1 7 0 := by unfold pW; rw [if_neg (by omega)]
  rw [show aSum (c.1 21) 0 = 0 from rfl] at h1
  rw [show aSum (c.1 22) 0 = 0 from rfl] at h2
  unfold prM Wt
  rw [List.length_append]
  omega
end Len
/-- a policy that was read well fits on the sheet, and no name is empty -/
theorem PRB {n : Nat} {f : Nat → Nat} (hn : n ≤ 4096) (hf : ∀ k, k < n → f k < 256) {d : aN} (hR : RDN n f d) (h0 : d.1 2 0 = 0) : (prM d).length ≤ 16384 ∧ NE d := by
  have hF := FQ_of (by omega) hf hR h0
  have hl := prM_len hF
  obtain ⟨c0, hr, hs, rfl⟩ := hR
  have f0 : c0.1 2 0 = 0 := by
    refine Classical.byContradiction fun z => ?_
    unfold aEnd at h0
    rw [if_neg z] at h0
    exact z h0
  have s0 : c0.1 0 0 = 0 := by
    rcases hs with hs | hs
    · exact absurd f0 hs
    · exact hs
  have hA := AI_Rc AI_0 hr
  have hJ := AJ_Rc (show n < 65536 by omega) hf (AJ_0 n) hr
  have hL := AL_Rc AI_0 AL_0 hr
  have hE3 : E3c c0 0 := by
    have := hL.2.2 f0
    unfold E3 at this
    rw [s0] at this; exact this
  obtain ⟨m, hm⟩ := id hr
  have ha : c0.1 1 0 ≤ n := by rw [← hm]; exact (aRc_AT m (Nat.zero_le _)).2
  have hw : AW c0 := by rw [← hm]; exact AW_ait (by omega) m (Nat.zero_le _) AW_0
  obtain ⟨hN, -, hW⟩ := hw f0
  rw [s0] at hW
  have hW : Wt c0 + 0 ≤ c0.1 1 0 + 0 + 0 * c0.1 10 0 := hW
  have hk := LK0_F hA hJ hL.2.1 hE3 (c0.1 9 0) 0 c0 (by omega) (LK0_rf hJ)
  unfold aEnd at hl hF ⊢
  rw [if_pos f0] at hl hF ⊢
  generalize lnkF (c0.1 9 0) 0 c0 = d at hk hl hF ⊢
  have e := hk.1
  have eW : Wt d = Wt c0 := by
    unfold Wt
    rw [e 4 (by decide) (by decide) (by decide) (by decide), e 5 (by decide) (by decide) (by decide) (by decide), e 6 (by decide) (by decide) (by decide) (by decide), e 7 (by decide) (by decide) (by decide) (by decide), e 8 (by decide) (by decide) (by decide) (by decide)]
  refine ⟨by rw [eW] at hl; omega, ?_⟩
  unfold NE at hN ⊢
  rw [e 4 (by decide) (by decide) (by decide) (by decide), e 6 (by decide) (by decide) (by decide) (by decide), hk.2.1]
  exact hN
