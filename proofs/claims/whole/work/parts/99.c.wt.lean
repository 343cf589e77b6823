/-! How many bytes a policy needs -/
def wEx : List Nat := [0, 0, 1, 8, 0, 5, 0, 0, 2, 0, 0, 1, 1, 4, 6, 5, 9, 0]
def wCr : List Nat := [0, 0, 0, 0, 2, 0, 1, 0, 0, 2, 2, 2, 2, 2, 2, 2, 2, 3]
def wMu : List Nat := [0, 0, 0, 0, 0, 0, 0, 0, 0, 1, 0, 1, 1, 1, 1, 1, 1, 1]
def Wt (c : aN) : Nat := 11 * (c.1 4 0) + 7 * (c.1 6 0) + 5 * (c.1 5 0) + 6 * (c.1 7 0) + 11 * (c.1 8 0)
def AW (c : aN) : Prop := c.1 2 0 = 0 → NE c ∧ c.1 10 0 ≤ 1 ∧ Wt c + wEx.getD (c.1 0 0) 0 ≤ c.1 1 0 + wCr.getD (c.1 0 0) 0 + wMu.getD (c.1 0 0) 0 * c.1 10 0
/-- a token's bytes, from a on -/
def TKb (t : aK) (a : Nat) : Prop := (¬ t.1 = 0 → a + 1 ≤ t.2.2.1) ∧ (t.1 = 3 → a + t.2.2.2.1.length ≤ t.2.2.1 ∧ 1 ≤ t.2.2.2.1.length)
theorem lx_lt {n : Nat} {f : Nat → Nat} {a : Nat} (h : ¬ lxK n f a = 0) : lxP n f a < lxE n f a := by
  unfold lxK at h
  unfold lxE
  by_cases h1 : n ≤ lxP n f a
  · rw [if_pos h1] at h; exact absurd rfl h
  · rw [if_neg h1]
    by_cases h2 : wdF (nI (f (lxP n f a))) = 0
    · rw [if_pos h2]; omega
    · rw [if_neg h2]; exact wen_gt h2 (by omega)
theorem TKb_tok {n : Nat} {f : Nat → Nat} (hn : n < 65536) {a : Nat} (ha : a ≤ n) : TKb (tok n f a) a := by
  have hle := lx_le n f ha
  refine ⟨fun h => ?_, fun h => ?_⟩
  · have := lx_lt (n := n) (f := f) (a := a) h
    show a + 1 ≤ lxE n f a
    omega
  · have h3 := lx_3 hn ha h
    show a + (nl n f (lxP n f a)).length ≤ lxE n f a ∧ 1 ≤ (nl n f (lxP n f a)).length
    rw [h3.2.2, seg_len]
    omega
theorem AW_wr (t : aK) (c : aN) : AW (wr t c) := fun z => by
  exfalso
  have z : (if t.1 = 5 then 1 else if t.1 = 0 then 3 else 2) = 0 := z
  split at z
  · cases z
  · split at z <;> cases z
theorem AW_a1 {c : aN} {t : aK} (hs : (c.1 0 0) = 1) (f0 : c.1 2 0 = 0) (hk : TKb t (c.1 1 0)) (h : AW c) : AW (a1 t c) := by
  obtain ⟨hN, hw, hW⟩ := h f0
  rw [hs] at hW
  have hW : 11 * (c.1 4 0) + 7 * (c.1 6 0) + 5 * (c.1 5 0) + 6 * (c.1 7 0) + 11 * (c.1 8 0) + 0 ≤ (c.1 1 0) + 0 + 0 * (c.1 10 0) := hW
  unfold a1
  split
  · split
    · exact fun z => absurd z (by show ¬ (4 = 0); decide)
    · exact fun _ => ⟨hN, hw, show 11 * (c.1 4 0) + 7 * (c.1 6 0) + 5 * (c.1 5 0) + 6 * (c.1 7 0) + 11 * (c.1 8 0) + 0 ≤ (c.1 1 0) + 0 + 0 * (c.1 10 0) by omega⟩
  · split
    · rename_i hx
      have k1 := hk.1 (fun z => absurd (hx.1.symm.trans z) (by decide))
      exact fun _ => ⟨hN, hw, show 11 * (c.1 4 0) + 7 * (c.1 6 0) + 5 * (c.1 5 0) + 6 * (c.1 7 0) + 11 * (c.1 8 0) + 1 ≤ t.2.2.1 + 0 + 0 * (c.1 10 0) by omega⟩
    · exact AW_wr t c
theorem AW_a2 {c : aN} {t : aK} (hs : (c.1 0 0) = 2) (f0 : c.1 2 0 = 0) (hk : TKb t (c.1 1 0)) (h : AW c) : AW (a2 t c) := by
  obtain ⟨hN, hw, hW⟩ := h f0
  rw [hs] at hW
  have hW : 11 * (c.1 4 0) + 7 * (c.1 6 0) + 5 * (c.1 5 0) + 6 * (c.1 7 0) + 11 * (c.1 8 0) + 1 ≤ (c.1 1 0) + 0 + 0 * (c.1 10 0) := hW
  unfold a2
  split
  · rename_i hx
    have k3 := hk.2 hx.1
    rw [hx.2] at k3
    have l0 : (jS 0).length = 4 := rfl
    exact fun _ => ⟨hN, hw, show 11 * (c.1 4 0) + 7 * (c.1 6 0) + 5 * (c.1 5 0) + 6 * (c.1 7 0) + 11 * (c.1 8 0) + 5 ≤ t.2.2.1 + 0 + 0 * (c.1 10 0) by omega⟩
  · split
    · rename_i hx
      have hx := And.intro hx.1.1 hx.1.2
      have k3 := hk.2 hx.1
      rw [hx.2] at k3
      have l0 : (jS 1).length = 7 := rfl
      exact fun _ => ⟨hN, hw, show 11 * (c.1 4 0) + 7 * (c.1 6 0) + 5 * (c.1 5 0) + 6 * (c.1 7 0) + 11 * (c.1 8 0) + 8 ≤ t.2.2.1 + 0 + 0 * (c.1 10 0) by omega⟩
    · exact AW_wr t c
theorem AW_a3 {c : aN} {t : aK} (hs : (c.1 0 0) = 3) (f0 : c.1 2 0 = 0) (hk : TKb t (c.1 1 0)) (h : AW c) : AW (a3 t c) := by
  obtain ⟨hN, hw, hW⟩ := h f0
  rw [hs] at hW
  have hW : 11 * (c.1 4 0) + 7 * (c.1 6 0) + 5 * (c.1 5 0) + 6 * (c.1 7 0) + 11 * (c.1 8 0) + 8 ≤ (c.1 1 0) + 0 + 0 * (c.1 10 0) := hW
  unfold a3
  split
  · rename_i hx
    have k3 := hk.2 hx.1.1
    have ne : NE (gt t (ahc c t.2.2.2.1) 4) := ⟨fun k hk1 => by
      have hk1 : k < (c.1 4 0) + 1 := hk1
      show 1 ≤ (if k = (c.1 4 0) then t.2.2.2.1 else c.2.1 0 (k)).length
      by_cases e : k = (c.1 4 0)
      · rw [if_pos e]; exact k3.2
      · rw [if_neg e]; exact hN.1 k (by omega), hN.2⟩
    exact fun _ => ⟨ne, show 0 ≤ 1 by omega, show 11 * ((c.1 4 0) + 1) + 7 * (c.1 6 0) + 5 * (c.1 5 0) + 6 * (c.1 7 0) + 11 * (c.1 8 0) + 0 ≤ t.2.2.1 + 2 + 0 * 0 by omega⟩
  · exact AW_wr t c
theorem AW_a5 {c : aN} {t : aK} (hs : (c.1 0 0) = 5) (f0 : c.1 2 0 = 0) (hk : TKb t (c.1 1 0)) (h : AW c) : AW (a5 t c) := by
  obtain ⟨hN, hw, hW⟩ := h f0
  rw [hs] at hW
  have hW : 11 * (c.1 4 0) + 7 * (c.1 6 0) + 5 * (c.1 5 0) + 6 * (c.1 7 0) + 11 * (c.1 8 0) + 5 ≤ (c.1 1 0) + 0 + 0 * (c.1 10 0) := hW
  unfold a5
  split
  · rename_i hx
    have k3 := hk.2 hx.1.1
    have ne : NE (gt t (ahn c t.2.2.2.1) 6) := ⟨hN.1, fun k hk1 => by
      have hk1 : k < (c.1 6 0) + 1 := hk1
      show 1 ≤ (if k = (c.1 6 0) then t.2.2.2.1 else c.2.1 1 (k)).length
      by_cases e : k = (c.1 6 0)
      · rw [if_pos e]; exact k3.2
      · rw [if_neg e]; exact hN.2 k (by omega)⟩
    exact fun _ => ⟨ne, show 1 ≤ 1 by omega, show 11 * (c.1 4 0) + 7 * ((c.1 6 0) + 1) + 5 * (c.1 5 0) + 6 * (c.1 7 0) + 11 * (c.1 8 0) + 0 ≤ t.2.2.1 + 1 + 0 * 1 by omega⟩
  · exact AW_wr t c
theorem AW_a4 {c : aN} {t : aK} (hs : (c.1 0 0) = 4) (f0 : c.1 2 0 = 0) (hk : TKb t (c.1 1 0)) (h : AW c) : AW (a4 t c) := by
  obtain ⟨hN, hw, hW⟩ := h f0
  rw [hs] at hW
  have hW : 11 * (c.1 4 0) + 7 * (c.1 6 0) + 5 * (c.1 5 0) + 6 * (c.1 7 0) + 11 * (c.1 8 0) + 0 ≤ (c.1 1 0) + 2 + 0 * (c.1 10 0) := hW
  unfold a4
  split
  · rename_i hx
    have k1 := hk.1 (fun z => absurd (hx.1.symm.trans z) (by decide))
    exact fun _ => ⟨hN, hw, show 11 * (c.1 4 0) + 7 * (c.1 6 0) + 5 * (c.1 5 0) + 6 * (c.1 7 0) + 11 * (c.1 8 0) + 0 ≤ t.2.2.1 + 1 + 0 * (c.1 10 0) by omega⟩
  · exact AW_wr t c
theorem AW_a6 {c : aN} {t : aK} (hs : (c.1 0 0) = 6) (f0 : c.1 2 0 = 0) (hk : TKb t (c.1 1 0)) (h : AW c) : AW (a6 t c) := by
  obtain ⟨hN, hw, hW⟩ := h f0
  rw [hs] at hW
  have hW : 11 * (c.1 4 0) + 7 * (c.1 6 0) + 5 * (c.1 5 0) + 6 * (c.1 7 0) + 11 * (c.1 8 0) + 0 ≤ (c.1 1 0) + 1 + 0 * (c.1 10 0) := hW
  unfold a6
  by_cases hx : t.1 = 2
  · rw [if_pos hx]
    have k1 := hk.1 (fun z => absurd (hx.symm.trans z) (by decide))
    exact fun _ => ⟨hN, hw, show 11 * (c.1 4 0) + 7 * (c.1 6 0) + 5 * (c.1 5 0) + 6 * (c.1 7 0) + 11 * (c.1 8 0) + 0 ≤ t.2.2.1 + 0 + 0 * (c.1 10 0) by omega⟩
  · rw [if_neg hx]
    by_cases hx : t.1 = 1 ∧ (if (c.1 10 0) = 0 then c.1 21 ((c.1 4 0) - 1) < 4 else c.1 22 ((c.1 6 0) - 1) < 8)
    · rw [if_pos hx]
      have k1 := hk.1 (fun z => absurd (hx.1.symm.trans z) (by decide))
      exact fun _ => ⟨hN, hw, show 11 * (c.1 4 0) + 7 * (c.1 6 0) + 5 * (c.1 5 0) + 6 * (c.1 7 0) + 11 * (c.1 8 0) + 0 ≤ t.2.2.1 + 0 + 0 * (c.1 10 0) by omega⟩
    · rw [if_neg hx]; exact AW_wr t c
theorem AW_a7 {c : aN} {t : aK} (hs : (c.1 0 0) = 7) (f0 : c.1 2 0 = 0) (hk : TKb t (c.1 1 0)) (h : AW c) : AW (a7 t c) := by
  obtain ⟨hN, hw, hW⟩ := h f0
  rw [hs] at hW
  have hW : 11 * (c.1 4 0) + 7 * (c.1 6 0) + 5 * (c.1 5 0) + 6 * (c.1 7 0) + 11 * (c.1 8 0) + 0 ≤ (c.1 1 0) + 0 + 0 * (c.1 10 0) := hW
  unfold a7
  split
  · split
    · rename_i hx
      have k3 := hk.2 hx.1
      rw [hx.2] at k3
      have l0 : (jS 15).length = 2 := rfl
      exact fun _ => ⟨hN, hw, show 11 * (c.1 4 0) + 7 * (c.1 6 0) + 5 * (c.1 5 0) + 6 * (c.1 7 0) + 11 * (c.1 8 0) + 2 ≤ t.2.2.1 + 0 + 0 * (c.1 10 0) by omega⟩
    · split
      · rename_i hx
        have k3 := hk.2 hx.1
        rw [hx.2] at k3
        have l0 : (jS 16).length = 4 := rfl
        exact fun _ => ⟨hN, hw, show 11 * (c.1 4 0) + 7 * (c.1 6 0) + 5 * (c.1 5 0) + 6 * (c.1 7 0) + 11 * (c.1 8 0) + 2 ≤ t.2.2.1 + 0 + 0 * (c.1 10 0) by omega⟩
      · exact AW_wr t c
  · split
    · rename_i hx
      have k3 := hk.2 hx.1
      rw [hx.2] at k3
      have l0 : (jS 14).length = 2 := rfl
      exact fun _ => ⟨hN, hw, show 11 * (c.1 4 0) + 7 * (c.1 6 0) + 5 * (c.1 5 0) + 6 * (c.1 7 0) + 11 * (c.1 8 0) + 2 ≤ t.2.2.1 + 0 + 0 * (c.1 10 0) by omega⟩
    · exact AW_wr t c
theorem AW_adc {c : aN} {t : aK} {m : Nat} (hN : NE c) (hw : (c.1 10 0) ≤ 1) (hW : 11 * (c.1 4 0) + 7 * (c.1 6 0) + 5 * (c.1 5 0) + 6 * (c.1 7 0) + 11 * (c.1 8 0) + 2 ≤ (c.1 1 0) + 0 + 0 * (c.1 10 0)) (k1 : (c.1 1 0) + 1 ≤ t.2.2.1) : AW (gt t (adc c m) 9) := by
  unfold adc
  by_cases w : (c.1 10 0) = 0
  · rw [if_pos w]; exact fun _ => ⟨hN, hw, show 11 * (c.1 4 0) + 7 * (c.1 6 0) + 5 * ((c.1 5 0) + 1) + 6 * (c.1 7 0) + 11 * (c.1 8 0) + 0 ≤ t.2.2.1 + 2 + 1 * (c.1 10 0) by omega⟩
  · rw [if_neg w]; exact fun _ => ⟨hN, hw, show 11 * (c.1 4 0) + 7 * (c.1 6 0) + 5 * (c.1 5 0) + 6 * ((c.1 7 0) + 1) + 11 * (c.1 8 0) + 0 ≤ t.2.2.1 + 2 + 1 * (c.1 10 0) by omega⟩
theorem AW_adt {c : aN} {t : aK} {m : Int32} (hN : NE c) (hw : (c.1 10 0) ≤ 1) (hW : 11 * (c.1 4 0) + 7 * (c.1 6 0) + 5 * (c.1 5 0) + 6 * (c.1 7 0) + 11 * (c.1 8 0) + 9 ≤ (c.1 1 0) + 2 + 1 * (c.1 10 0)) (k1 : (c.1 1 0) + 1 ≤ t.2.2.1) : AW (gt t (adt c m) 17) := by
  unfold adt
  by_cases w : (c.1 10 0) = 0
  · rw [if_pos w]; exact fun _ => ⟨hN, hw, show 11 * (c.1 4 0) + 7 * (c.1 6 0) + 5 * (c.1 5 0) + 6 * (c.1 7 0) + 11 * ((c.1 8 0) + 1) + 0 ≤ t.2.2.1 + 3 + 1 * (c.1 10 0) by omega⟩
  · rw [if_neg w]; exact fun _ => ⟨hN, hw, show 11 * (c.1 4 0) + 7 * (c.1 6 0) + 5 * (c.1 5 0) + 6 * (c.1 7 0) + 11 * ((c.1 8 0) + 1) + 0 ≤ t.2.2.1 + 3 + 1 * (c.1 10 0) by omega⟩
theorem AW_a8 {c : aN} {t : aK} (hs : (c.1 0 0) = 8) (f0 : c.1 2 0 = 0) (hk : TKb t (c.1 1 0)) (h : AW c) : AW (a8 t c) := by
  obtain ⟨hN, hw, hW⟩ := h f0
  rw [hs] at hW
  have hW : 11 * (c.1 4 0) + 7 * (c.1 6 0) + 5 * (c.1 5 0) + 6 * (c.1 7 0) + 11 * (c.1 8 0) + 2 ≤ (c.1 1 0) + 0 + 0 * (c.1 10 0) := hW
  unfold a8
  split
  · rename_i hx
    have k1 := hk.1 (fun z => absurd (hx.1.symm.trans z) (by decide))
    exact AW_adc hN hw hW k1
  · split
    · rename_i hx
      have k1 := hk.1 (fun z => absurd (hx.1.symm.trans z) (by decide))
      exact AW_adc hN hw hW k1
    · exact AW_wr t c
theorem AW_a9 {c : aN} {t : aK} (hs : (c.1 0 0) = 9) (f0 : c.1 2 0 = 0) (hk : TKb t (c.1 1 0)) (h : AW c) : AW (a9 t c) := by
  obtain ⟨hN, hw, hW⟩ := h f0
  rw [hs] at hW
  have hW : 11 * (c.1 4 0) + 7 * (c.1 6 0) + 5 * (c.1 5 0) + 6 * (c.1 7 0) + 11 * (c.1 8 0) + 0 ≤ (c.1 1 0) + 2 + 1 * (c.1 10 0) := hW
  unfold a9
  split
  · rename_i hx
    have k1 := hk.1 (fun z => absurd (hx.1.symm.trans z) (by decide))
    exact fun _ => ⟨hN, hw, show 11 * (c.1 4 0) + 7 * (c.1 6 0) + 5 * (c.1 5 0) + 6 * (c.1 7 0) + 11 * (c.1 8 0) + 1 ≤ t.2.2.1 + 2 + 1 * (c.1 10 0) by omega⟩
  · split
    · rename_i w
      split
      · rename_i hx
        have k1 := hk.1 (fun z => absurd (hx.symm.trans z) (by decide))
        exact fun _ => ⟨hN, hw, show 11 * (c.1 4 0) + 7 * (c.1 6 0) + 5 * (c.1 5 0) + 6 * (c.1 7 0) + 11 * (c.1 8 0) + 0 ≤ t.2.2.1 + 1 + 0 * (c.1 10 0) by omega⟩
      · exact AW_wr t c
    · split
      · rename_i hx
        have k1 := hk.1 (fun z => absurd (hx.1.symm.trans z) (by decide))
        exact fun _ => ⟨hN, hw, show 11 * (c.1 4 0) + 7 * (c.1 6 0) + 5 * (c.1 5 0) + 6 * (c.1 7 0) + 11 * (c.1 8 0) + 0 ≤ t.2.2.1 + 2 + 0 * (c.1 10 0) by omega⟩
      · exact AW_wr t c
theorem AW_a10 {c : aN} {t : aK} (hs : (c.1 0 0) = 10) (f0 : c.1 2 0 = 0) (hk : TKb t (c.1 1 0)) (h : AW c) : AW (a10 t c) := by
  obtain ⟨hN, hw, hW⟩ := h f0
  rw [hs] at hW
  have hW : 11 * (c.1 4 0) + 7 * (c.1 6 0) + 5 * (c.1 5 0) + 6 * (c.1 7 0) + 11 * (c.1 8 0) + 0 ≤ (c.1 1 0) + 2 + 0 * (c.1 10 0) := hW
  unfold a10
  split
  · rename_i hx
    have k1 := hk.1 (fun z => absurd (hx.symm.trans z) (by decide))
    exact fun _ => ⟨hN, hw, show 11 * (c.1 4 0) + 7 * (c.1 6 0) + 5 * (c.1 5 0) + 6 * (c.1 7 0) + 11 * (c.1 8 0) + 0 ≤ t.2.2.1 + 1 + 0 * (c.1 10 0) by omega⟩
  · exact AW_wr t c
theorem AW_a11 {c : aN} {t : aK} (hs : (c.1 0 0) = 11) (f0 : c.1 2 0 = 0) (hk : TKb t (c.1 1 0)) (h : AW c) : AW (a11 t c) := by
  obtain ⟨hN, hw, hW⟩ := h f0
  rw [hs] at hW
  have hW : 11 * (c.1 4 0) + 7 * (c.1 6 0) + 5 * (c.1 5 0) + 6 * (c.1 7 0) + 11 * (c.1 8 0) + 1 ≤ (c.1 1 0) + 2 + 1 * (c.1 10 0) := hW
  unfold a11
  split
  · rename_i hx
    have k3 := hk.2 hx.1
    rw [hx.2] at k3
    have l0 : (jS 18).length = 3 := rfl
    exact fun _ => ⟨hN, hw, show 11 * (c.1 4 0) + 7 * (c.1 6 0) + 5 * (c.1 5 0) + 6 * (c.1 7 0) + 11 * (c.1 8 0) + 1 ≤ t.2.2.1 + 2 + 1 * (c.1 10 0) by omega⟩
  · split
    · rename_i hx
      have k3 := hk.2 hx.1
      rw [hx.2] at k3
      have l0 : (jS 19).length = 3 := rfl
      exact fun _ => ⟨hN, hw, show 11 * (c.1 4 0) + 7 * (c.1 6 0) + 5 * (c.1 5 0) + 6 * (c.1 7 0) + 11 * (c.1 8 0) + 4 ≤ t.2.2.1 + 2 + 1 * (c.1 10 0) by omega⟩
    · split
      · rename_i hx
        have k3 := hk.2 hx.1
        rw [hx.2] at k3
        have l0 : (jS 20).length = 5 := rfl
        exact fun _ => ⟨hN, hw, show 11 * (c.1 4 0) + 7 * (c.1 6 0) + 5 * (c.1 5 0) + 6 * (c.1 7 0) + 11 * (c.1 8 0) + 6 ≤ t.2.2.1 + 2 + 1 * (c.1 10 0) by omega⟩
      · exact AW_wr t c
theorem AW_a12 {c : aN} {t : aK} (hs : (c.1 0 0) = 12) (f0 : c.1 2 0 = 0) (hk : TKb t (c.1 1 0)) (h : AW c) : AW (a12 t c) := by
  obtain ⟨hN, hw, hW⟩ := h f0
  rw [hs] at hW
  have hW : 11 * (c.1 4 0) + 7 * (c.1 6 0) + 5 * (c.1 5 0) + 6 * (c.1 7 0) + 11 * (c.1 8 0) + 1 ≤ (c.1 1 0) + 2 + 1 * (c.1 10 0) := hW
  unfold a12
  split
  · rename_i hx
    have k1 := hk.1 (fun z => absurd (hx.symm.trans z) (by decide))
    exact fun _ => ⟨hN, hw, show 11 * (c.1 4 0) + 7 * (c.1 6 0) + 5 * (c.1 5 0) + 6 * (c.1 7 0) + 11 * (c.1 8 0) + 1 ≤ t.2.2.1 + 2 + 1 * (c.1 10 0) by omega⟩
  · exact AW_wr t c
theorem AW_a13 {c : aN} {t : aK} (hs : (c.1 0 0) = 13) (f0 : c.1 2 0 = 0) (hk : TKb t (c.1 1 0)) (h : AW c) : AW (a13 t c) := by
  obtain ⟨hN, hw, hW⟩ := h f0
  rw [hs] at hW
  have hW : 11 * (c.1 4 0) + 7 * (c.1 6 0) + 5 * (c.1 5 0) + 6 * (c.1 7 0) + 11 * (c.1 8 0) + 4 ≤ (c.1 1 0) + 2 + 1 * (c.1 10 0) := hW
  unfold a13
  split
  · rename_i hx
    have k1 := hk.1 (fun z => absurd (hx.1.symm.trans z) (by decide))
    exact fun _ => ⟨hN, hw, show 11 * (c.1 4 0) + 7 * (c.1 6 0) + 5 * (c.1 5 0) + 6 * (c.1 7 0) + 11 * (c.1 8 0) + 5 ≤ t.2.2.1 + 2 + 1 * (c.1 10 0) by omega⟩
  · exact AW_wr t c
theorem AW_a14 {c : aN} {t : aK} (hs : (c.1 0 0) = 14) (f0 : c.1 2 0 = 0) (hk : TKb t (c.1 1 0)) (h : AW c) : AW (a14 t c) := by
  obtain ⟨hN, hw, hW⟩ := h f0
  rw [hs] at hW
  have hW : 11 * (c.1 4 0) + 7 * (c.1 6 0) + 5 * (c.1 5 0) + 6 * (c.1 7 0) + 11 * (c.1 8 0) + 6 ≤ (c.1 1 0) + 2 + 1 * (c.1 10 0) := hW
  unfold a14
  split
  · rename_i hx
    have k1 := hk.1 (fun z => absurd (hx.1.symm.trans z) (by decide))
    exact fun _ => ⟨hN, hw, show 11 * (c.1 4 0) + 7 * (c.1 6 0) + 5 * (c.1 5 0) + 6 * (c.1 7 0) + 11 * (c.1 8 0) + 5 ≤ t.2.2.1 + 2 + 1 * (c.1 10 0) by omega⟩
  · exact AW_wr t c
theorem AW_a15 {c : aN} {t : aK} (hs : (c.1 0 0) = 15) (f0 : c.1 2 0 = 0) (hk : TKb t (c.1 1 0)) (h : AW c) : AW (a15 t c) := by
  obtain ⟨hN, hw, hW⟩ := h f0
  rw [hs] at hW
  have hW : 11 * (c.1 4 0) + 7 * (c.1 6 0) + 5 * (c.1 5 0) + 6 * (c.1 7 0) + 11 * (c.1 8 0) + 5 ≤ (c.1 1 0) + 2 + 1 * (c.1 10 0) := hW
  unfold a15
  split
  · rename_i hx
    have k3 := hk.2 hx.1
    rw [hx.2] at k3
    have l0 : (jS 11).length = 4 := rfl
    exact fun _ => ⟨hN, hw, show 11 * (c.1 4 0) + 7 * (c.1 6 0) + 5 * (c.1 5 0) + 6 * (c.1 7 0) + 11 * (c.1 8 0) + 9 ≤ t.2.2.1 + 2 + 1 * (c.1 10 0) by omega⟩
  · split
    · rename_i hx
      have k3 := hk.2 hx.1
      rw [hx.2] at k3
      have l0 : (jS 12).length = 4 := rfl
      exact fun _ => ⟨hN, hw, show 11 * (c.1 4 0) + 7 * (c.1 6 0) + 5 * (c.1 5 0) + 6 * (c.1 7 0) + 11 * (c.1 8 0) + 9 ≤ t.2.2.1 + 2 + 1 * (c.1 10 0) by omega⟩
    · split
      · rename_i hx
        have k3 := hk.2 hx.1
        rw [hx.2] at k3
        have l0 : (jS 13).length = 4 := rfl
        exact fun _ => ⟨hN, hw, show 11 * (c.1 4 0) + 7 * (c.1 6 0) + 5 * (c.1 5 0) + 6 * (c.1 7 0) + 11 * (c.1 8 0) + 9 ≤ t.2.2.1 + 2 + 1 * (c.1 10 0) by omega⟩
      · exact AW_wr t c
theorem AW_a16 {c : aN} {t : aK} (hs : (c.1 0 0) = 16) (f0 : c.1 2 0 = 0) (hk : TKb t (c.1 1 0)) (h : AW c) : AW (a16 t c) := by
  obtain ⟨hN, hw, hW⟩ := h f0
  rw [hs] at hW
  have hW : 11 * (c.1 4 0) + 7 * (c.1 6 0) + 5 * (c.1 5 0) + 6 * (c.1 7 0) + 11 * (c.1 8 0) + 9 ≤ (c.1 1 0) + 2 + 1 * (c.1 10 0) := hW
  unfold a16
  split
  · rename_i hx
    have k1 := hk.1 (fun z => absurd (hx.symm.trans z) (by decide))
    exact AW_adt hN hw hW k1
  · exact AW_wr t c
theorem AW_a17 {c : aN} {t : aK} (hs : (c.1 0 0) = 17) (f0 : c.1 2 0 = 0) (hk : TKb t (c.1 1 0)) (h : AW c) : AW (a17 t c) := by
  obtain ⟨hN, hw, hW⟩ := h f0
  rw [hs] at hW
  have hW : 11 * (c.1 4 0) + 7 * (c.1 6 0) + 5 * (c.1 5 0) + 6 * (c.1 7 0) + 11 * (c.1 8 0) + 0 ≤ (c.1 1 0) + 3 + 1 * (c.1 10 0) := hW
  unfold a17
  split
  · rename_i hx
    have k1 := hk.1 (fun z => absurd (hx.symm.trans z) (by decide))
    by_cases w : 0 < (c.1 13 0) - 1
    · rw [if_pos w]
      exact fun _ => ⟨hN, hw, show 11 * (c.1 4 0) + 7 * (c.1 6 0) + 5 * (c.1 5 0) + 6 * (c.1 7 0) + 11 * (c.1 8 0) + 0 ≤ t.2.2.1 + 3 + 1 * (c.1 10 0) by omega⟩
    · rw [if_neg w]
      exact fun _ => ⟨hN, hw, show 11 * (c.1 4 0) + 7 * (c.1 6 0) + 5 * (c.1 5 0) + 6 * (c.1 7 0) + 11 * (c.1 8 0) + 0 ≤ t.2.2.1 + 2 + 1 * (c.1 10 0) by omega⟩
  · exact AW_wr t c
theorem AW_stT {c : aN} {t : aK} (f0 : c.1 2 0 = 0) (hk : TKb t (c.1 1 0)) (h : AW c) : AW (stT t c) := by
  by_cases e1 : (c.1 0 0) = 1
  · rw [stT_1 t e1]; exact AW_a1 e1 f0 hk h
  by_cases e2 : (c.1 0 0) = 2
  · rw [stT_2 t e2]; exact AW_a2 e2 f0 hk h
  by_cases e3 : (c.1 0 0) = 3
  · rw [stT_3 t e3]; exact AW_a3 e3 f0 hk h
  by_cases e4 : (c.1 0 0) = 4
  · rw [stT_4 t e4]; exact AW_a4 e4 f0 hk h
  by_cases e5 : (c.1 0 0) = 5
  · rw [stT_5 t e5]; exact AW_a5 e5 f0 hk h
  by_cases e6 : (c.1 0 0) = 6
  · rw [stT_6 t e6]; exact AW_a6 e6 f0 hk h
  by_cases e7 : (c.1 0 0) = 7
  · rw [stT_7 t e7]; exact AW_a7 e7 f0 hk h
  by_cases e8 : (c.1 0 0) = 8
  · rw [stT_8 t e8]; exact AW_a8 e8 f0 hk h
  by_cases e9 : (c.1 0 0) = 9
  · rw [stT_9 t e9]; exact AW_a9 e9 f0 hk h
  by_cases e10 : (c.1 0 0) = 10
  · rw [stT_10 t e10]; exact AW_a10 e10 f0 hk h
  by_cases e11 : (c.1 0 0) = 11
  · rw [stT_11 t e11]; exact AW_a11 e11 f0 hk h
  by_cases e12 : (c.1 0 0) = 12
  · rw [stT_12 t e12]; exact AW_a12 e12 f0 hk h
  by_cases e13 : (c.1 0 0) = 13
  · rw [stT_13 t e13]; exact AW_a13 e13 f0 hk h
  by_cases e14 : (c.1 0 0) = 14
  · rw [stT_14 t e14]; exact AW_a14 e14 f0 hk h
  by_cases e15 : (c.1 0 0) = 15
  · rw [stT_15 t e15]; exact AW_a15 e15 f0 hk h
  by_cases e16 : (c.1 0 0) = 16
  · rw [stT_16 t e16]; exact AW_a16 e16 f0 hk h
  by_cases e17 : (c.1 0 0) = 17
  · rw [stT_17 t e17]; exact AW_a17 e17 f0 hk h
  unfold stT
  rw [if_neg e1, if_neg e2, if_neg e3, if_neg e4, if_neg e5, if_neg e6, if_neg e7, if_neg e8, if_neg e9, if_neg e10, if_neg e11, if_neg e12, if_neg e13, if_neg e14, if_neg e15, if_neg e16, if_neg e17]
  exact h
theorem AW_ait {n : Nat} {f : Nat → Nat} (hn : n < 65536) : ∀ (m : Nat) {c : aN}, (c.1 1 0) ≤ n → AW c → AW (ait n f m c)
  | 0, _, _, h => h
  | m + 1, c, ha, h => AW_ait hn m (stp_AT ha).2 (by
    unfold stp
    split
    · rename_i z; exact AW_stT z.1 (TKb_tok hn ha) h
    · exact h)
theorem AW_0 : AW aC0 := fun _ => ⟨⟨fun _ h => absurd h (Nat.not_lt_zero _), fun _ h => absurd h (Nat.not_lt_zero _)⟩, Nat.zero_le _, Nat.le_refl _⟩
