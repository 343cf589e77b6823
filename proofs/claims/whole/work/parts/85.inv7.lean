/-! Names of counters, and of nodes, differ -/
def AU (c : aN) : Prop := (∀ i j, i < j → j < (c.1 4 0) → ¬ c.2.1 0 (i) = c.2.1 0 (j)) ∧ (∀ i j, i < j → j < (c.1 6 0) → ¬ c.2.1 1 (i) = c.2.1 1 (j))
theorem afd_none {g : Nat → List Nat} {l : List Nat} : ∀ m j, afd g l j m = none → ∀ i, j ≤ i → i < j + m → ¬ g i = l
  | 0, j, _, i, h1, h2 => by omega
  | m + 1, j, h, i, h1, h2 => by
    unfold afd at h
    by_cases z : g j = l
    · rw [if_pos z] at h; cases h
    · rw [if_neg z] at h
      by_cases e : i = j
      · rw [e]; exact z
      · exact afd_none m (j + 1) h i (by omega) (by omega)
theorem afd_first {g : Nat → List Nat} {l : List Nat} : ∀ m j x, j ≤ x → x < j + m → g x = l → (∀ i, j ≤ i → i < x → ¬ g i = l) → afd g l j m = some x
  | 0, j, x, h1, h2, _, _ => by omega
  | m + 1, j, x, h1, h2, h3, h4 => by
    unfold afd
    by_cases e : x = j
    · rw [← e, if_pos h3]
    · rw [if_neg (h4 j (Nat.le_refl _) (by omega))]
      exact afd_first m (j + 1) x (by omega) (by omega) h3 (fun i a b => h4 i (by omega) b)
theorem AU_a1 {c : aN} (t : aK) (h : AU c) : AU (a1 t c) := by
  unfold a1
  repeat' split
  all_goals exact h
theorem AU_a2 {c : aN} (t : aK) (h : AU c) : AU (a2 t c) := by
  unfold a2
  repeat' split
  all_goals exact h
theorem AU_a4 {c : aN} (t : aK) (h : AU c) : AU (a4 t c) := by
  unfold a4
  repeat' split
  all_goals exact h
theorem AU_a7 {c : aN} (t : aK) (h : AU c) : AU (a7 t c) := by
  unfold a7
  repeat' split
  all_goals exact h
theorem AU_a10 {c : aN} (t : aK) (h : AU c) : AU (a10 t c) := by
  unfold a10
  repeat' split
  all_goals exact h
theorem AU_a11 {c : aN} (t : aK) (h : AU c) : AU (a11 t c) := by
  unfold a11
  repeat' split
  all_goals exact h
theorem AU_a12 {c : aN} (t : aK) (h : AU c) : AU (a12 t c) := by
  unfold a12
  repeat' split
  all_goals exact h
theorem AU_a13 {c : aN} (t : aK) (h : AU c) : AU (a13 t c) := by
  unfold a13
  repeat' split
  all_goals exact h
theorem AU_a14 {c : aN} (t : aK) (h : AU c) : AU (a14 t c) := by
  unfold a14
  repeat' split
  all_goals exact h
theorem AU_a15 {c : aN} (t : aK) (h : AU c) : AU (a15 t c) := by
  unfold a15
  repeat' split
  all_goals exact h
theorem AU_a9 {c : aN} (t : aK) (h : AU c) : AU (a9 t c) := by
  unfold a9
  repeat' split
  all_goals exact h
theorem AU_a17 {c : aN} (t : aK) (h : AU c) : AU (a17 t c) := by
  unfold a17
  split
  · exact h
  · exact h
theorem AU_a6 {c : aN} (t : aK) (h : AU c) : AU (a6 t c) := by
  unfold a6
  by_cases hx : t.1 = 2
  · rw [if_pos hx]; exact h
  · rw [if_neg hx]
    by_cases z2 : t.1 = 1 ∧ (if (c.1 10 0) = 0 then c.1 21 ((c.1 4 0) - 1) < 4 else c.1 22 ((c.1 6 0) - 1) < 8)
    · rw [if_pos z2]; exact h
    · rw [if_neg z2]; exact h
theorem AU_a3 {c : aN} (t : aK) (h : AU c) : AU (a3 t c) := by
  unfold a3
  split
  · rename_i hx
    refine ⟨fun i j hij hj => ?_, h.2⟩
    have hj : j < (c.1 4 0) + 1 := hj
    show ¬ (if i = (c.1 4 0) then t.2.2.2.1 else c.2.1 0 (i)) = (if j = (c.1 4 0) then t.2.2.2.1 else c.2.1 0 (j))
    rw [if_neg (by omega)]
    by_cases e : j = (c.1 4 0)
    · rw [if_pos e]; exact afd_none _ _ hx.2 i (by omega) (by omega)
    · rw [if_neg e]; exact h.1 i j hij (by omega)
  · exact h
theorem AU_a5 {c : aN} (t : aK) (h : AU c) : AU (a5 t c) := by
  unfold a5
  split
  · rename_i hx
    refine ⟨h.1, fun i j hij hj => ?_⟩
    have hj : j < (c.1 6 0) + 1 := hj
    show ¬ (if i = (c.1 6 0) then t.2.2.2.1 else c.2.1 1 (i)) = (if j = (c.1 6 0) then t.2.2.2.1 else c.2.1 1 (j))
    rw [if_neg (by omega)]
    by_cases e : j = (c.1 6 0)
    · rw [if_pos e]; exact afd_none _ _ hx.2 i (by omega) (by omega)
    · rw [if_neg e]; exact h.2 i j hij (by omega)
  · exact h
theorem AU_adc {c : aN} (m : Nat) (h : AU c) : AU (adc c m) := by
  unfold adc
  by_cases hw : (c.1 10 0) = 0
  · rw [if_pos hw]; exact h
  · rw [if_neg hw]; exact h
theorem AU_adt {c : aN} (v : Int32) (h : AU c) : AU (adt c v) := by
  unfold adt
  by_cases hw : (c.1 10 0) = 0
  · rw [if_pos hw]; exact h
  · rw [if_neg hw]; exact h
theorem AU_a8 {c : aN} (t : aK) (h : AU c) : AU (a8 t c) := by
  unfold a8
  split
  · exact AU_adc _ h
  · split
    · exact AU_adc _ h
    · exact h
theorem AU_a16 {c : aN} (t : aK) (h : AU c) : AU (a16 t c) := by
  unfold a16
  split
  · exact AU_adt _ h
  · exact h
theorem AU_stT {c : aN} (t : aK) (h : AU c) : AU (stT t c) := by
  by_cases e1 : (c.1 0 0) = 1
  · rw [stT_1 t e1]; exact AU_a1 t h
  by_cases e2 : (c.1 0 0) = 2
  · rw [stT_2 t e2]; exact AU_a2 t h
  by_cases e3 : (c.1 0 0) = 3
  · rw [stT_3 t e3]; exact AU_a3 t h
  by_cases e4 : (c.1 0 0) = 4
  · rw [stT_4 t e4]; exact AU_a4 t h
  by_cases e5 : (c.1 0 0) = 5
  · rw [stT_5 t e5]; exact AU_a5 t h
  by_cases e6 : (c.1 0 0) = 6
  · rw [stT_6 t e6]; exact AU_a6 t h
  by_cases e7 : (c.1 0 0) = 7
  · rw [stT_7 t e7]; exact AU_a7 t h
  by_cases e8 : (c.1 0 0) = 8
  · rw [stT_8 t e8]; exact AU_a8 t h
  by_cases e9 : (c.1 0 0) = 9
  · rw [stT_9 t e9]; exact AU_a9 t h
  by_cases e10 : (c.1 0 0) = 10
  · rw [stT_10 t e10]; exact AU_a10 t h
  by_cases e11 : (c.1 0 0) = 11
  · rw [stT_11 t e11]; exact AU_a11 t h
  by_cases e12 : (c.1 0 0) = 12
  · rw [stT_12 t e12]; exact AU_a12 t h
  by_cases e13 : (c.1 0 0) = 13
  · rw [stT_13 t e13]; exact AU_a13 t h
  by_cases e14 : (c.1 0 0) = 14
  · rw [stT_14 t e14]; exact AU_a14 t h
  by_cases e15 : (c.1 0 0) = 15
  · rw [stT_15 t e15]; exact AU_a15 t h
  by_cases e16 : (c.1 0 0) = 16
  · rw [stT_16 t e16]; exact AU_a16 t h
  by_cases e17 : (c.1 0 0) = 17
  · rw [stT_17 t e17]; exact AU_a17 t h
  unfold stT
  rw [if_neg e1, if_neg e2, if_neg e3, if_neg e4, if_neg e5, if_neg e6, if_neg e7, if_neg e8, if_neg e9, if_neg e10, if_neg e11, if_neg e12, if_neg e13, if_neg e14, if_neg e15, if_neg e16, if_neg e17]
  exact h
theorem AU_ait {n : Nat} {f : Nat → Nat} : ∀ (m : Nat) {c : aN}, AU c → AU (ait n f m c)
  | 0, _, h => h
  | m + 1, c, h => AU_ait m (by unfold stp; split; exact AU_stT _ h; exact h)
theorem AU_0 : AU aC0 := ⟨fun _ _ _ h => absurd h (by simp [aC0]), fun _ _ _ h => absurd h (by simp [aC0])⟩
/-- the last that is v, told of distinct names: the first -/
def lsF (g : Nat → Int64) (v : Int64) : Nat → Nat → Int32 → Int32
  | 0, _, o => o
  | k + 1, i, o => lsF g v k (i + 1) (if g i = v then nI i else o)
theorem lsF_no {g : Nat → Int64} {v : Int64} : ∀ k i o, (∀ j, i ≤ j → j < i + k → ¬ g j = v) → lsF g v k i o = o
  | 0, _, _, _ => rfl
  | k + 1, i, o, h => by rw [lsF, if_neg (h i (Nat.le_refl _) (by omega)), lsF_no k (i + 1) o (fun j a b => h j (by omega) (by omega))]
theorem lsF_yes {g : Nat → Int64} {v : Int64} {x : Nat} (hx : g x = v) : ∀ k i o, i ≤ x → x < i + k → (∀ j, x < j → j < i + k → ¬ g j = v) → lsF g v k i o = nI x
  | 0, i, o, h1, h2, _ => by omega
  | k + 1, i, o, h1, h2, h3 => by
    rw [lsF]
    by_cases e : x = i
    · rw [← e, if_pos hx]
      exact lsF_no k (x + 1) _ (fun j a b => h3 j (by omega) (by omega))
    · exact lsF_yes hx k (i + 1) _ (by omega) (by omega) (fun j a b => h3 j a (by omega))
theorem lsF_afd {g : Nat → Int64} {N : Nat → List Nat} {l : List Nat} {K : Nat} (hl : nmG l) (hN : ∀ k, nmG (N k)) (hg : ∀ k, k < K → g k = e27 (N k)) (hu : ∀ i j, i < j → j < K → ¬ N i = N j) : lsF g (e27 l) K 0 (-1) = (match afd N l 0 K with | none => -1 | some x => nI x) := by
  match h : afd N l 0 K with
  | none =>
    have := afd_none _ _ h
    exact lsF_no K 0 (-1) (fun j _ b => by rw [hg j (by omega), e27_inj (hN j) hl]; exact this j (by omega) (by omega))
  | some x =>
    have hb := afd_some _ _ _ h
    refine lsF_yes (by rw [hg x (by omega), hb.2.2]) K 0 (-1) (by omega) (by omega) (fun j a b => ?_)
    rw [hg j (by omega), e27_inj (hN j) hl]
    intro z
    exact hu x j a (by omega) (hb.2.2.trans z.symm)
