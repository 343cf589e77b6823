/-! The machine's numbers stay small -/
def J1 (n : Nat) (c : aN) : Prop := ((c.1 1 0)) ≤ n ∧ ((c.1 12 0)) ≤ ((c.1 1 0)) ∧ ((c.1 13 0)) ≤ ((c.1 1 0)) + 1 ∧ ((c.1 16 0)) ≤ n ∧ ((c.1 14 0)) ≤ 1 ∧ ((c.1 15 0)) ≤ 2 ∧ ((c.1 17 0)) ≤ 2 ∧ ((c.1 11 0)) ≤ 1
def J2 (n : Nat) (c : aN) : Prop := ∀ k, c.1 20 (k) ≤ 15 ∧ c.1 25 (k) ≤ 16 ∧ c.1 31 (k) ≤ 16 ∧ c.1 26 (k) ≤ 1 ∧ c.1 35 (k) ≤ n ∧ c.1 36 (k) ≤ 1 ∧ c.1 37 (k) ≤ 2 ∧ c.1 38 (k) ≤ 2 ∧ c.1 39 (k) ≤ 1 ∧ c.1 40 (k) ≤ n
def J3 (c : aN) : Prop := ∀ i k, nmG (c.2.1 i k)
def AJ (n : Nat) (c : aN) : Prop := J1 n c ∧ J2 n c ∧ J3 c
/-- what a token says -/
def TF (n : Nat) (c : aN) (t : aK) : Prop := t.2.1 ≤ n ∧ (c.1 1 0) ≤ t.2.2.1 ∧ t.2.2.1 ≤ n ∧ (¬ t.1 = 0 → (c.1 1 0) < t.2.2.1) ∧ nmG t.2.2.2.1
theorem AJ_wr {n : Nat} {c : aN} (t : aK) (h : AJ n c) : AJ n (wr t c) := h
theorem J3_x {c : aN} (h : J3 c) (i k : Nat) {l : List Nat} (hl : nmG l) : ∀ a b, nmG (xL c.2.1 i k l a b) := by
  intro a b
  unfold xL
  split
  · dsimp only
    split
    · exact hl
    · exact h _ _
  · exact h _ _
theorem clp_le {x : Int32} {N : Nat} (hN : N < 2 ^ 31) (h : ¬ x < 0) (h2 : x ≤ nI N) : x.toNatClampNeg ≤ N := by
  obtain ⟨j, hj, rfl⟩ := nI_of2 (nI_toInt hN) h h2
  rw [nI_clamp (by omega)]; exact hj
theorem AJ_a1 {n : Nat} {c : aN} (t : aK) (h : AJ n c) (ht : TF n c t) : AJ n (a1 t c) := by
  obtain ⟨h1, h2, h3⟩ := id h
  obtain ⟨t1, t2, t3, t4, t5⟩ := ht
  unfold J1 at h1
  unfold a1
  split
  · split
    · exact h
    · exact h
  · split
    · rename_i hx
      exact ⟨show (t.2.2.1) ≤ n ∧ ((c.1 12 0)) ≤ (t.2.2.1) ∧ ((c.1 13 0)) ≤ (t.2.2.1) + 1 ∧ ((c.1 16 0)) ≤ n ∧ ((c.1 14 0)) ≤ 1 ∧ ((c.1 15 0)) ≤ 2 ∧ ((c.1 17 0)) ≤ 2 ∧ ((c.1 11 0)) ≤ 1 by omega, h2, h3⟩
    · exact AJ_wr t h
theorem AJ_a2 {n : Nat} {c : aN} (t : aK) (h : AJ n c) (ht : TF n c t) : AJ n (a2 t c) := by
  obtain ⟨h1, h2, h3⟩ := id h
  obtain ⟨t1, t2, t3, t4, t5⟩ := ht
  unfold J1 at h1
  unfold a2
  split
  · rename_i hx
    exact ⟨show (t.2.2.1) ≤ n ∧ ((c.1 12 0)) ≤ (t.2.2.1) ∧ ((c.1 13 0)) ≤ (t.2.2.1) + 1 ∧ ((c.1 16 0)) ≤ n ∧ ((c.1 14 0)) ≤ 1 ∧ ((c.1 15 0)) ≤ 2 ∧ ((c.1 17 0)) ≤ 2 ∧ ((c.1 11 0)) ≤ 1 by omega, h2, h3⟩
  · skip
    split
    · rename_i hx
      exact ⟨show (t.2.2.1) ≤ n ∧ ((c.1 12 0)) ≤ (t.2.2.1) ∧ ((c.1 13 0)) ≤ (t.2.2.1) + 1 ∧ ((c.1 16 0)) ≤ n ∧ ((c.1 14 0)) ≤ 1 ∧ ((c.1 15 0)) ≤ 2 ∧ ((c.1 17 0)) ≤ 2 ∧ ((c.1 11 0)) ≤ 1 by omega, h2, h3⟩
    · skip
      exact AJ_wr t h
theorem AJ_a3 {n : Nat} {c : aN} (t : aK) (h : AJ n c) (ht : TF n c t) : AJ n (a3 t c) := by
  obtain ⟨h1, h2, h3⟩ := id h
  obtain ⟨t1, t2, t3, t4, t5⟩ := ht
  unfold J1 at h1
  unfold a3
  split
  · rename_i hx
    exact ⟨show (t.2.2.1) ≤ n ∧ ((c.1 12 0)) ≤ (t.2.2.1) ∧ ((c.1 13 0)) ≤ (t.2.2.1) + 1 ∧ ((c.1 16 0)) ≤ n ∧ ((c.1 14 0)) ≤ 1 ∧ ((c.1 15 0)) ≤ 2 ∧ ((c.1 17 0)) ≤ 2 ∧ ((c.1 11 0)) ≤ 1 by omega, show ∀ k, (if k = (c.1 4 0) then 0 else c.1 20 (k)) ≤ 15 ∧ c.1 25 (k) ≤ 16 ∧ c.1 31 (k) ≤ 16 ∧ c.1 26 (k) ≤ 1 ∧ c.1 35 (k) ≤ n ∧ c.1 36 (k) ≤ 1 ∧ c.1 37 (k) ≤ 2 ∧ c.1 38 (k) ≤ 2 ∧ c.1 39 (k) ≤ 1 ∧ c.1 40 (k) ≤ n from fun k => by have hk := h2 k; refine ⟨?_, ?_, ?_, ?_, ?_, ?_, ?_, ?_, ?_, ?_⟩ <;> (try split) <;> omega, J3_x h3 0 _ t5⟩
  · skip
    exact AJ_wr t h
theorem AJ_a4 {n : Nat} {c : aN} (t : aK) (h : AJ n c) (ht : TF n c t) : AJ n (a4 t c) := by
  obtain ⟨h1, h2, h3⟩ := id h
  obtain ⟨t1, t2, t3, t4, t5⟩ := ht
  unfold J1 at h1
  unfold a4
  split
  · rename_i hx
    have hv := clp_le (N := 15) (by decide) (fun g => absurd (Int32.lt_of_le_of_lt hx.2.1 g) (by decide)) hx.2.2
    exact ⟨show (t.2.2.1) ≤ n ∧ ((c.1 12 0)) ≤ (t.2.2.1) ∧ ((c.1 13 0)) ≤ (t.2.2.1) + 1 ∧ ((c.1 16 0)) ≤ n ∧ ((c.1 14 0)) ≤ 1 ∧ ((c.1 15 0)) ≤ 2 ∧ ((c.1 17 0)) ≤ 2 ∧ ((c.1 11 0)) ≤ 1 by omega, show ∀ k, (if k = ((c.1 4 0) - 1) then t.2.2.2.2.toNatClampNeg else c.1 20 (k)) ≤ 15 ∧ c.1 25 (k) ≤ 16 ∧ c.1 31 (k) ≤ 16 ∧ c.1 26 (k) ≤ 1 ∧ c.1 35 (k) ≤ n ∧ c.1 36 (k) ≤ 1 ∧ c.1 37 (k) ≤ 2 ∧ c.1 38 (k) ≤ 2 ∧ c.1 39 (k) ≤ 1 ∧ c.1 40 (k) ≤ n from fun k => by have hk := h2 k; refine ⟨?_, ?_, ?_, ?_, ?_, ?_, ?_, ?_, ?_, ?_⟩ <;> (try split) <;> omega, h3⟩
  · skip
    exact AJ_wr t h
theorem AJ_a5 {n : Nat} {c : aN} (t : aK) (h : AJ n c) (ht : TF n c t) : AJ n (a5 t c) := by
  obtain ⟨h1, h2, h3⟩ := id h
  obtain ⟨t1, t2, t3, t4, t5⟩ := ht
  unfold J1 at h1
  unfold a5
  split
  · rename_i hx
    exact ⟨show (t.2.2.1) ≤ n ∧ ((c.1 12 0)) ≤ (t.2.2.1) ∧ ((c.1 13 0)) ≤ (t.2.2.1) + 1 ∧ ((c.1 16 0)) ≤ n ∧ ((c.1 14 0)) ≤ 1 ∧ ((c.1 15 0)) ≤ 2 ∧ ((c.1 17 0)) ≤ 2 ∧ ((c.1 11 0)) ≤ 1 by omega, h2, J3_x h3 1 _ t5⟩
  · skip
    exact AJ_wr t h
theorem AJ_a6 {n : Nat} {c : aN} (t : aK) (h : AJ n c) (ht : TF n c t) : AJ n (a6 t c) := by
  obtain ⟨h1, h2, h3⟩ := id h
  obtain ⟨t1, t2, t3, t4, t5⟩ := ht
  unfold J1 at h1
  unfold a6
  split
  · rename_i hx
    exact ⟨show (t.2.2.1) ≤ n ∧ ((c.1 12 0)) ≤ (t.2.2.1) ∧ ((c.1 13 0)) ≤ (t.2.2.1) + 1 ∧ ((c.1 16 0)) ≤ n ∧ ((c.1 14 0)) ≤ 1 ∧ ((c.1 15 0)) ≤ 2 ∧ ((c.1 17 0)) ≤ 2 ∧ ((c.1 11 0)) ≤ 1 by omega, h2, h3⟩
  · by_cases hx : t.1 = 1 ∧ (if (c.1 10 0) = 0 then c.1 21 ((c.1 4 0) - 1) < 4 else c.1 22 ((c.1 6 0) - 1) < 8)
    · rw [if_pos hx]
      exact ⟨show (t.2.2.1) ≤ n ∧ ((c.1 12 0)) ≤ (t.2.2.1) ∧ ((c.1 13 0)) ≤ (t.2.2.1) + 1 ∧ ((c.1 16 0)) ≤ n ∧ ((c.1 14 0)) ≤ 1 ∧ ((c.1 15 0)) ≤ 2 ∧ ((c.1 17 0)) ≤ 2 ∧ ((c.1 11 0)) ≤ 1 by omega, h2, h3⟩
    · rw [if_neg hx]; exact AJ_wr t h
theorem AJ_a7 {n : Nat} {c : aN} (t : aK) (h : AJ n c) (ht : TF n c t) : AJ n (a7 t c) := by
  obtain ⟨h1, h2, h3⟩ := id h
  obtain ⟨t1, t2, t3, t4, t5⟩ := ht
  unfold J1 at h1
  unfold a7
  split
  · split
    · rename_i hx
      exact ⟨show (t.2.2.1) ≤ n ∧ ((c.1 12 0)) ≤ (t.2.2.1) ∧ ((c.1 13 0)) ≤ (t.2.2.1) + 1 ∧ ((c.1 16 0)) ≤ n ∧ ((c.1 14 0)) ≤ 1 ∧ ((c.1 15 0)) ≤ 2 ∧ ((c.1 17 0)) ≤ 2 ∧ (1) ≤ 1 by omega, h2, h3⟩
    · split
      · rename_i hx
        exact ⟨show (t.2.2.1) ≤ n ∧ ((c.1 12 0)) ≤ (t.2.2.1) ∧ ((c.1 13 0)) ≤ (t.2.2.1) + 1 ∧ ((c.1 16 0)) ≤ n ∧ ((c.1 14 0)) ≤ 1 ∧ ((c.1 15 0)) ≤ 2 ∧ ((c.1 17 0)) ≤ 2 ∧ (0) ≤ 1 by omega, h2, h3⟩
      · exact AJ_wr t h
  · split
    · rename_i hx
      exact ⟨show (t.2.2.1) ≤ n ∧ ((c.1 12 0)) ≤ (t.2.2.1) ∧ ((c.1 13 0)) ≤ (t.2.2.1) + 1 ∧ ((c.1 16 0)) ≤ n ∧ ((c.1 14 0)) ≤ 1 ∧ ((c.1 15 0)) ≤ 2 ∧ ((c.1 17 0)) ≤ 2 ∧ ((c.1 11 0)) ≤ 1 by omega, h2, h3⟩
    · exact AJ_wr t h
theorem AJ_adc {n : Nat} {c : aN} (t : aK) (h : AJ n c) (ht : TF n c t) {m : Nat} (hm : m ≤ 16) : AJ n (gt t (adc c m) 9) := by
  obtain ⟨h1, h2, h3⟩ := id h
  obtain ⟨t1, t2, t3, t4, t5⟩ := ht
  unfold J1 at h1
  unfold adc
  by_cases hw : (c.1 10 0) = 0
  · rw [if_pos hw]
    exact ⟨show (t.2.2.1) ≤ n ∧ ((c.1 12 0)) ≤ (t.2.2.1) ∧ ((c.1 13 0)) ≤ (t.2.2.1) + 1 ∧ ((c.1 16 0)) ≤ n ∧ ((c.1 14 0)) ≤ 1 ∧ ((c.1 15 0)) ≤ 2 ∧ ((c.1 17 0)) ≤ 2 ∧ ((c.1 11 0)) ≤ 1 by omega, show ∀ k, c.1 20 (k) ≤ 15 ∧ (if k = (c.1 5 0) then m else c.1 25 (k)) ≤ 16 ∧ c.1 31 (k) ≤ 16 ∧ (if k = (c.1 5 0) then (c.1 11 0) else c.1 26 (k)) ≤ 1 ∧ c.1 35 (k) ≤ n ∧ c.1 36 (k) ≤ 1 ∧ c.1 37 (k) ≤ 2 ∧ c.1 38 (k) ≤ 2 ∧ c.1 39 (k) ≤ 1 ∧ c.1 40 (k) ≤ n from fun k => by have hk := h2 k; refine ⟨?_, ?_, ?_, ?_, ?_, ?_, ?_, ?_, ?_, ?_⟩ <;> (try split) <;> omega, h3⟩
  · rw [if_neg hw]
    exact ⟨show (t.2.2.1) ≤ n ∧ ((c.1 12 0)) ≤ (t.2.2.1) ∧ ((c.1 13 0)) ≤ (t.2.2.1) + 1 ∧ ((c.1 16 0)) ≤ n ∧ ((c.1 14 0)) ≤ 1 ∧ ((c.1 15 0)) ≤ 2 ∧ ((c.1 17 0)) ≤ 2 ∧ ((c.1 11 0)) ≤ 1 by omega, show ∀ k, c.1 20 (k) ≤ 15 ∧ c.1 25 (k) ≤ 16 ∧ (if k = (c.1 7 0) then m else c.1 31 (k)) ≤ 16 ∧ c.1 26 (k) ≤ 1 ∧ c.1 35 (k) ≤ n ∧ c.1 36 (k) ≤ 1 ∧ c.1 37 (k) ≤ 2 ∧ c.1 38 (k) ≤ 2 ∧ c.1 39 (k) ≤ 1 ∧ c.1 40 (k) ≤ n from fun k => by have hk := h2 k; refine ⟨?_, ?_, ?_, ?_, ?_, ?_, ?_, ?_, ?_, ?_⟩ <;> (try split) <;> omega, h3⟩
theorem AJ_a8 {n : Nat} {c : aN} (t : aK) (h : AJ n c) (ht : TF n c t) : AJ n (a8 t c) := by
  unfold a8
  split
  · exact AJ_adc t h ht (by omega)
  · split
    · rename_i hx
      exact AJ_adc t h ht (Nat.le_succ_of_le (clp_le (N := 15) (by decide) (fun g => absurd (Int32.lt_of_le_of_lt hx.2.1 g) (by decide)) hx.2.2))
    · exact AJ_wr t h
theorem AJ_a9 {n : Nat} {c : aN} (t : aK) (h : AJ n c) (ht : TF n c t) : AJ n (a9 t c) := by
  obtain ⟨h1, h2, h3⟩ := id h
  obtain ⟨t1, t2, t3, t4, t5⟩ := ht
  unfold J1 at h1
  unfold a9
  split
  · rename_i hx
    exact ⟨show (t.2.2.1) ≤ n ∧ (0) ≤ (t.2.2.1) ∧ ((c.1 13 0)) ≤ (t.2.2.1) + 1 ∧ ((c.1 16 0)) ≤ n ∧ ((c.1 14 0)) ≤ 1 ∧ ((c.1 15 0)) ≤ 2 ∧ ((c.1 17 0)) ≤ 2 ∧ ((c.1 11 0)) ≤ 1 by omega, h2, h3⟩
  · split
    · split
      · rename_i hx
        exact ⟨show (t.2.2.1) ≤ n ∧ ((c.1 12 0)) ≤ (t.2.2.1) ∧ ((c.1 13 0)) ≤ (t.2.2.1) + 1 ∧ ((c.1 16 0)) ≤ n ∧ ((c.1 14 0)) ≤ 1 ∧ ((c.1 15 0)) ≤ 2 ∧ ((c.1 17 0)) ≤ 2 ∧ ((c.1 11 0)) ≤ 1 by omega, h2, h3⟩
      · exact AJ_wr t h
    · split
      · rename_i hx
        exact ⟨show (t.2.2.1) ≤ n ∧ ((c.1 12 0)) ≤ (t.2.2.1) ∧ ((c.1 13 0)) ≤ (t.2.2.1) + 1 ∧ ((c.1 16 0)) ≤ n ∧ ((c.1 14 0)) ≤ 1 ∧ ((c.1 15 0)) ≤ 2 ∧ ((c.1 17 0)) ≤ 2 ∧ ((c.1 11 0)) ≤ 1 by omega, show ∀ k, c.1 20 (k) ≤ 15 ∧ c.1 25 (k) ≤ 16 ∧ c.1 31 (k) ≤ 16 ∧ c.1 26 (k) ≤ 1 ∧ (if k = ((c.1 7 0) - 1) then t.2.1 else c.1 35 (k)) ≤ n ∧ c.1 36 (k) ≤ 1 ∧ c.1 37 (k) ≤ 2 ∧ c.1 38 (k) ≤ 2 ∧ c.1 39 (k) ≤ 1 ∧ c.1 40 (k) ≤ n from fun k => by have hk := h2 k; refine ⟨?_, ?_, ?_, ?_, ?_, ?_, ?_, ?_, ?_, ?_⟩ <;> (try split) <;> omega, J3_x h3 3 _ t5⟩
      · exact AJ_wr t h
theorem AJ_a10 {n : Nat} {c : aN} (t : aK) (h : AJ n c) (ht : TF n c t) : AJ n (a10 t c) := by
  obtain ⟨h1, h2, h3⟩ := id h
  obtain ⟨t1, t2, t3, t4, t5⟩ := ht
  unfold J1 at h1
  unfold a10
  split
  · rename_i hx
    exact ⟨show (t.2.2.1) ≤ n ∧ ((c.1 12 0)) ≤ (t.2.2.1) ∧ ((c.1 13 0)) ≤ (t.2.2.1) + 1 ∧ ((c.1 16 0)) ≤ n ∧ ((c.1 14 0)) ≤ 1 ∧ ((c.1 15 0)) ≤ 2 ∧ ((c.1 17 0)) ≤ 2 ∧ ((c.1 11 0)) ≤ 1 by omega, h2, h3⟩
  · skip
    exact AJ_wr t h
theorem AJ_a11 {n : Nat} {c : aN} (t : aK) (h : AJ n c) (ht : TF n c t) : AJ n (a11 t c) := by
  obtain ⟨h1, h2, h3⟩ := id h
  obtain ⟨t1, t2, t3, t4, t5⟩ := ht
  unfold J1 at h1
  unfold a11
  split
  · rename_i hx
    have t6 := t4 (by rw [hx.1]; decide)
    exact ⟨show (t.2.2.1) ≤ n ∧ ((c.1 12 0) + 1) ≤ (t.2.2.1) ∧ ((c.1 13 0)) ≤ (t.2.2.1) + 1 ∧ ((c.1 16 0)) ≤ n ∧ ((c.1 14 0)) ≤ 1 ∧ ((c.1 15 0)) ≤ 2 ∧ ((c.1 17 0)) ≤ 2 ∧ ((c.1 11 0)) ≤ 1 by omega, h2, h3⟩
  · skip
    split
    · rename_i hx
      exact ⟨show (t.2.2.1) ≤ n ∧ ((c.1 12 0)) ≤ (t.2.2.1) ∧ ((c.1 13 0)) ≤ (t.2.2.1) + 1 ∧ ((c.1 16 0)) ≤ n ∧ ((c.1 14 0)) ≤ 1 ∧ ((c.1 15 0)) ≤ 2 ∧ ((c.1 17 0)) ≤ 2 ∧ ((c.1 11 0)) ≤ 1 by omega, h2, h3⟩
    · skip
      split
      · rename_i hx
        exact ⟨show (t.2.2.1) ≤ n ∧ ((c.1 12 0)) ≤ (t.2.2.1) ∧ ((c.1 13 0)) ≤ (t.2.2.1) + 1 ∧ ((c.1 16 0)) ≤ n ∧ ((c.1 14 0)) ≤ 1 ∧ ((c.1 15 0)) ≤ 2 ∧ ((c.1 17 0)) ≤ 2 ∧ ((c.1 11 0)) ≤ 1 by omega, h2, h3⟩
      · skip
        exact AJ_wr t h
theorem AJ_a12 {n : Nat} {c : aN} (t : aK) (h : AJ n c) (ht : TF n c t) : AJ n (a12 t c) := by
  obtain ⟨h1, h2, h3⟩ := id h
  obtain ⟨t1, t2, t3, t4, t5⟩ := ht
  unfold J1 at h1
  unfold a12
  split
  · rename_i hx
    exact ⟨show (t.2.2.1) ≤ n ∧ ((c.1 12 0)) ≤ (t.2.2.1) ∧ ((c.1 13 0)) ≤ (t.2.2.1) + 1 ∧ ((c.1 16 0)) ≤ n ∧ ((c.1 14 0)) ≤ 1 ∧ ((c.1 15 0)) ≤ 2 ∧ ((c.1 17 0)) ≤ 2 ∧ ((c.1 11 0)) ≤ 1 by omega, h2, h3⟩
  · skip
    exact AJ_wr t h
theorem AJ_a13 {n : Nat} {c : aN} (t : aK) (h : AJ n c) (ht : TF n c t) : AJ n (a13 t c) := by
  obtain ⟨h1, h2, h3⟩ := id h
  obtain ⟨t1, t2, t3, t4, t5⟩ := ht
  unfold J1 at h1
  unfold a13
  split
  · rename_i hx
    have hv := clp_le (N := 2) (by decide) (fun g => absurd (Int32.lt_of_le_of_lt hx.2.1 g) (by decide)) hx.2.2
    exact ⟨show (t.2.2.1) ≤ n ∧ ((c.1 12 0)) ≤ (t.2.2.1) ∧ ((c.1 13 0)) ≤ (t.2.2.1) + 1 ∧ (t.2.1) ≤ n ∧ (0) ≤ 1 ∧ (t.2.2.2.2.toNatClampNeg) ≤ 2 ∧ ((c.1 17 0)) ≤ 2 ∧ ((c.1 11 0)) ≤ 1 by omega, h2, h3⟩
  · skip
    exact AJ_wr t h
theorem AJ_a14 {n : Nat} {c : aN} (t : aK) (h : AJ n c) (ht : TF n c t) : AJ n (a14 t c) := by
  obtain ⟨h1, h2, h3⟩ := id h
  obtain ⟨t1, t2, t3, t4, t5⟩ := ht
  unfold J1 at h1
  unfold a14
  split
  · rename_i hx
    exact ⟨show (t.2.2.1) ≤ n ∧ ((c.1 12 0)) ≤ (t.2.2.1) ∧ ((c.1 13 0)) ≤ (t.2.2.1) + 1 ∧ (t.2.1) ≤ n ∧ (1) ≤ 1 ∧ (0) ≤ 2 ∧ ((c.1 17 0)) ≤ 2 ∧ ((c.1 11 0)) ≤ 1 by omega, h2, J3_x h3 4 _ t5⟩
  · skip
    exact AJ_wr t h
theorem AJ_a15 {n : Nat} {c : aN} (t : aK) (h : AJ n c) (ht : TF n c t) : AJ n (a15 t c) := by
  obtain ⟨h1, h2, h3⟩ := id h
  obtain ⟨t1, t2, t3, t4, t5⟩ := ht
  unfold J1 at h1
  unfold a15
  split
  · rename_i hx
    exact ⟨show (t.2.2.1) ≤ n ∧ ((c.1 12 0)) ≤ (t.2.2.1) ∧ ((c.1 13 0)) ≤ (t.2.2.1) + 1 ∧ ((c.1 16 0)) ≤ n ∧ ((c.1 14 0)) ≤ 1 ∧ ((c.1 15 0)) ≤ 2 ∧ (0) ≤ 2 ∧ ((c.1 11 0)) ≤ 1 by omega, h2, h3⟩
  · skip
    split
    · rename_i hx
      exact ⟨show (t.2.2.1) ≤ n ∧ ((c.1 12 0)) ≤ (t.2.2.1) ∧ ((c.1 13 0)) ≤ (t.2.2.1) + 1 ∧ ((c.1 16 0)) ≤ n ∧ ((c.1 14 0)) ≤ 1 ∧ ((c.1 15 0)) ≤ 2 ∧ (1) ≤ 2 ∧ ((c.1 11 0)) ≤ 1 by omega, h2, h3⟩
    · skip
      split
      · rename_i hx
        exact ⟨show (t.2.2.1) ≤ n ∧ ((c.1 12 0)) ≤ (t.2.2.1) ∧ ((c.1 13 0)) ≤ (t.2.2.1) + 1 ∧ ((c.1 16 0)) ≤ n ∧ ((c.1 14 0)) ≤ 1 ∧ ((c.1 15 0)) ≤ 2 ∧ (2) ≤ 2 ∧ ((c.1 11 0)) ≤ 1 by omega, h2, h3⟩
      · skip
        exact AJ_wr t h
theorem AJ_a16 {n : Nat} {c : aN} (t : aK) (h : AJ n c) (ht : TF n c t) : AJ n (a16 t c) := by
  obtain ⟨h1, h2, h3⟩ := id h
  obtain ⟨t1, t2, t3, t4, t5⟩ := ht
  unfold J1 at h1
  unfold a16
  split
  · unfold adt
    by_cases hw : (c.1 10 0) = 0
    · rw [if_pos hw]
      exact ⟨show (t.2.2.1) ≤ n ∧ ((c.1 12 0)) ≤ (t.2.2.1) ∧ ((c.1 12 0) + 1) ≤ (t.2.2.1) + 1 ∧ ((c.1 16 0)) ≤ n ∧ ((c.1 14 0)) ≤ 1 ∧ ((c.1 15 0)) ≤ 2 ∧ ((c.1 17 0)) ≤ 2 ∧ ((c.1 11 0)) ≤ 1 by omega, show ∀ k, c.1 20 (k) ≤ 15 ∧ c.1 25 (k) ≤ 16 ∧ c.1 31 (k) ≤ 16 ∧ c.1 26 (k) ≤ 1 ∧ c.1 35 (k) ≤ n ∧ (if k = (c.1 8 0) then (c.1 14 0) else c.1 36 (k)) ≤ 1 ∧ (if k = (c.1 8 0) then (c.1 15 0) else c.1 37 (k)) ≤ 2 ∧ (if k = (c.1 8 0) then (c.1 17 0) else c.1 38 (k)) ≤ 2 ∧ (if k = (c.1 8 0) then ((c.1 12 0) % 2) else c.1 39 (k)) ≤ 1 ∧ (if k = (c.1 8 0) then (c.1 16 0) else c.1 40 (k)) ≤ n from fun k => by have hk := h2 k; refine ⟨?_, ?_, ?_, ?_, ?_, ?_, ?_, ?_, ?_, ?_⟩ <;> (try split) <;> omega, J3_x h3 2 _ (h3 4 0)⟩
    · rw [if_neg hw]
      exact ⟨show (t.2.2.1) ≤ n ∧ ((c.1 12 0)) ≤ (t.2.2.1) ∧ ((c.1 12 0) + 1) ≤ (t.2.2.1) + 1 ∧ ((c.1 16 0)) ≤ n ∧ ((c.1 14 0)) ≤ 1 ∧ ((c.1 15 0)) ≤ 2 ∧ ((c.1 17 0)) ≤ 2 ∧ ((c.1 11 0)) ≤ 1 by omega, show ∀ k, c.1 20 (k) ≤ 15 ∧ c.1 25 (k) ≤ 16 ∧ c.1 31 (k) ≤ 16 ∧ c.1 26 (k) ≤ 1 ∧ c.1 35 (k) ≤ n ∧ (if k = (c.1 8 0) then (c.1 14 0) else c.1 36 (k)) ≤ 1 ∧ (if k = (c.1 8 0) then (c.1 15 0) else c.1 37 (k)) ≤ 2 ∧ (if k = (c.1 8 0) then (c.1 17 0) else c.1 38 (k)) ≤ 2 ∧ (if k = (c.1 8 0) then ((c.1 12 0) % 2) else c.1 39 (k)) ≤ 1 ∧ (if k = (c.1 8 0) then (c.1 16 0) else c.1 40 (k)) ≤ n from fun k => by have hk := h2 k; refine ⟨?_, ?_, ?_, ?_, ?_, ?_, ?_, ?_, ?_, ?_⟩ <;> (try split) <;> omega, J3_x h3 2 _ (h3 4 0)⟩
  · exact AJ_wr t h
theorem AJ_a17 {n : Nat} {c : aN} (t : aK) (h : AJ n c) (ht : TF n c t) : AJ n (a17 t c) := by
  obtain ⟨h1, h2, h3⟩ := id h
  obtain ⟨t1, t2, t3, t4, t5⟩ := ht
  unfold J1 at h1
  unfold a17
  split
  · rename_i hx
    exact ⟨show (t.2.2.1) ≤ n ∧ ((c.1 12 0)) ≤ (t.2.2.1) ∧ ((c.1 13 0) - 1) ≤ (t.2.2.1) + 1 ∧ ((c.1 16 0)) ≤ n ∧ ((c.1 14 0)) ≤ 1 ∧ ((c.1 15 0)) ≤ 2 ∧ ((c.1 17 0)) ≤ 2 ∧ ((c.1 11 0)) ≤ 1 by omega, h2, h3⟩
  · skip
    exact AJ_wr t h
theorem AJ_stT {n : Nat} {c : aN} (t : aK) (h : AJ n c) (ht : TF n c t) : AJ n (stT t c) := by
  by_cases e1 : (c.1 0 0) = 1
  · rw [stT_1 t e1]; exact AJ_a1 t h ht
  by_cases e2 : (c.1 0 0) = 2
  · rw [stT_2 t e2]; exact AJ_a2 t h ht
  by_cases e3 : (c.1 0 0) = 3
  · rw [stT_3 t e3]; exact AJ_a3 t h ht
  by_cases e4 : (c.1 0 0) = 4
  · rw [stT_4 t e4]; exact AJ_a4 t h ht
  by_cases e5 : (c.1 0 0) = 5
  · rw [stT_5 t e5]; exact AJ_a5 t h ht
  by_cases e6 : (c.1 0 0) = 6
  · rw [stT_6 t e6]; exact AJ_a6 t h ht
  by_cases e7 : (c.1 0 0) = 7
  · rw [stT_7 t e7]; exact AJ_a7 t h ht
  by_cases e8 : (c.1 0 0) = 8
  · rw [stT_8 t e8]; exact AJ_a8 t h ht
  by_cases e9 : (c.1 0 0) = 9
  · rw [stT_9 t e9]; exact AJ_a9 t h ht
  by_cases e10 : (c.1 0 0) = 10
  · rw [stT_10 t e10]; exact AJ_a10 t h ht
  by_cases e11 : (c.1 0 0) = 11
  · rw [stT_11 t e11]; exact AJ_a11 t h ht
  by_cases e12 : (c.1 0 0) = 12
  · rw [stT_12 t e12]; exact AJ_a12 t h ht
  by_cases e13 : (c.1 0 0) = 13
  · rw [stT_13 t e13]; exact AJ_a13 t h ht
  by_cases e14 : (c.1 0 0) = 14
  · rw [stT_14 t e14]; exact AJ_a14 t h ht
  by_cases e15 : (c.1 0 0) = 15
  · rw [stT_15 t e15]; exact AJ_a15 t h ht
  by_cases e16 : (c.1 0 0) = 16
  · rw [stT_16 t e16]; exact AJ_a16 t h ht
  by_cases e17 : (c.1 0 0) = 17
  · rw [stT_17 t e17]; exact AJ_a17 t h ht
  unfold stT
  rw [if_neg e1, if_neg e2, if_neg e3, if_neg e4, if_neg e5, if_neg e6, if_neg e7, if_neg e8, if_neg e9, if_neg e10, if_neg e11, if_neg e12, if_neg e13, if_neg e14, if_neg e15, if_neg e16, if_neg e17]
  exact h
theorem lx_0 {n : Nat} {f : Nat → Nat} {a : Nat} (ha : a ≤ n) (h : ¬ lxK n f a = 0) : a < lxE n f a := by
  have hle := lx_le n f ha
  unfold lxK at h
  by_cases h1 : n ≤ lxP n f a
  · rw [if_pos h1] at h; exact absurd rfl h
  · unfold lxE
    rw [if_neg h1]
    split
    · omega
    · have := wen_gt (f := f) (m := n - lxP n f a) (p := lxP n f a) (by assumption) (by omega); omega
theorem TF_tok {n : Nat} {f : Nat → Nat} (hn : n < 65536) (hf : ∀ k, k < n → f k < 256) {c : aN} (h : AJ n c) : TF n c (tok n f (c.1 1 0)) := by
  have ha : (c.1 1 0) ≤ n := h.1.1
  have hle := lx_le n f ha
  exact ⟨hle.2.1, by show (c.1 1 0) ≤ lxE n f (c.1 1 0); omega, hle.2.2.2, fun g => lx_0 ha g, nl_G hn hf (by have : (tok n f (c.1 1 0)).2.1 ≤ n := hle.2.1; show lxP n f (c.1 1 0) < 65536; omega)⟩
theorem AJ_stp {n : Nat} {f : Nat → Nat} (hn : n < 65536) (hf : ∀ k, k < n → f k < 256) {c : aN} (h : AJ n c) : AJ n (stp n f c) := by
  unfold stp
  split
  · exact AJ_stT _ h (TF_tok hn hf h)
  · exact h
theorem AJ_ait {n : Nat} {f : Nat → Nat} (hn : n < 65536) (hf : ∀ k, k < n → f k < 256) : ∀ (m : Nat) {c : aN}, AJ n c → AJ n (ait n f m c)
  | 0, _, h => h
  | m + 1, _, h => AJ_ait hn hf m (AJ_stp hn hf h)
theorem AJ_0 (n : Nat) : AJ n aC0 := ⟨by simp [J1, aC0], fun k => by simp [aC0], fun i k => ⟨fun x hx => (by cases hx), Nat.zero_le _⟩⟩
