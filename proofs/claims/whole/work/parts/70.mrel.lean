/-! THE MODEL's token against the machine's -/
theorem lxK_c (n : Nat) (f : Nat → Nat) (a : Nat) : lxK n f a = 0 ∨ lxK n f a = 1 ∨ lxK n f a = 2 ∨ lxK n f a = 3 ∨ lxK n f a = 4 ∨ lxK n f a = 5 := by
  unfold lxK
  split
  · exact Or.inl rfl
  · split
    · split
      · exact Or.inr (Or.inl rfl)
      · split
        · exact Or.inr (Or.inr (Or.inl rfl))
        · exact Or.inr (Or.inr (Or.inr (Or.inr (Or.inr rfl))))
    · unfold wkF
      have hk := fun p e => nk_cases f p e
      split
      · rcases hk (lxP n f a) (wen f (n - lxP n f a) (lxP n f a)) with e | ⟨e, -⟩ <;> rw [e] <;> decide
      · split
        · rcases hk (lxP n f a) (wen f (n - lxP n f a) (lxP n f a)) with e | ⟨e, -⟩ <;> rw [e] <;> decide
        · exact Or.inr (Or.inr (Or.inr (Or.inl rfl)))
/-- x has the token at a before it, and nothing is wrong yet -/
def LKA (n : Nat) (f : Nat → Nat) (a : Nat) (x : aX) : Prop := MX x n f ∧ a ≤ n ∧ x.1 24 = 0 ∧ ¬ lxK n f a = 5 ∧ x.1 19 = nI (lxE n f a) ∧ x.1 21 = nI (lxP n f a) ∧ x.1 20 = nI (tkc (lxK n f a)) ∧ (lxK n f a = 3 → x.2.1 22 = e27 (nl n f (lxP n f a))) ∧ (lxK n f a = 4 → x.2.1 23 = (tkV n f a).toInt64) ∧ x.1 25 = -1
section MRel
variable {n : Nat} {f : Nat → Nat} {a : Nat} {x y : aX}
theorem LKA.hf (h : LKA n f a x) : n < 65536 ∧ ∀ k, k < n → f k < 256 := ⟨by have := h.1.2.1; omega, fun k hk => (h.1.2.2 k hk).2⟩
theorem tk_0 (h : LKA n f a x) : x.1 20 = 0 ↔ lxK n f a = 1 := by
  rw [h.2.2.2.2.2.2.1]
  rcases lxK_c n f a with e | e | e | e | e | e <;> rw [e] <;> decide
theorem tk_1 (h : LKA n f a x) : x.1 20 = 1 ↔ lxK n f a = 2 := by
  rw [h.2.2.2.2.2.2.1]
  rcases lxK_c n f a with e | e | e | e | e | e <;> rw [e] <;> decide
theorem tk_2 (h : LKA n f a x) : x.1 20 = 2 ↔ lxK n f a = 3 := by
  rw [h.2.2.2.2.2.2.1]
  rcases lxK_c n f a with e | e | e | e | e | e <;> rw [e] <;> decide
theorem tk_3 (h : LKA n f a x) : x.1 20 = 3 ↔ lxK n f a = 4 := by
  have h5 := h.2.2.2.1
  rw [h.2.2.2.2.2.2.1]
  rcases lxK_c n f a with e | e | e | e | e | e
  · rw [e]; decide
  · rw [e]; decide
  · rw [e]; decide
  · rw [e]; decide
  · rw [e]; decide
  · exact absurd e h5
theorem tk_4 (h : LKA n f a x) : x.1 20 = 4 ↔ lxK n f a = 0 := by
  rw [h.2.2.2.2.2.2.1]
  rcases lxK_c n f a with e | e | e | e | e | e <;> rw [e] <;> decide
theorem jG12 : ∀ j, j < 49 → 37 ≤ j → (jS j).length ≤ 12 := by decide +kernel
/-- a word -/
theorem W_iff (h : LKA n f a x) {j : Nat} (h1 : j < 49) (h2 : 37 ≤ j) : mW x j = 0 ↔ ¬ ((tok n f a).1 = 3 ∧ (tok n f a).2.2.2.1 = jS j) := by
  have hh := h.hf
  have hle := lx_le n f h.2.1
  unfold mW
  by_cases e : lxK n f a = 3
  · rw [if_pos ((tk_2 h).mpr e), h.2.2.2.2.2.2.2.1 e]
    have hi := e27_inj (nl_G hh.1 hh.2 (p := lxP n f a) (by omega)) ⟨jG j h1 h2, jG12 j h1 h2⟩
    by_cases g : nl n f (lxP n f a) = jS j
    · rw [if_pos (hi.mpr g)]
      exact ⟨fun z => absurd z (by decide), fun z => absurd ⟨e, g⟩ z⟩
    · rw [if_neg (fun z => g (hi.mp z))]
      exact ⟨fun _ z => g z.2, fun _ => rfl⟩
  · rw [if_neg (fun z => e ((tk_2 h).mp z))]
    exact ⟨fun _ z => e z.1, fun _ => rfl⟩
theorem R_iff (h : LKA n f a x) : mR x = 0 ↔ ¬ ((tok n f a).1 = 3 ∧ (tok n f a).2.2.2.1 ∈ rsv) := by
  have hw : ∀ j, j < 49 → 37 ≤ j → (mW x j = 0 ↔ ¬ ((tok n f a).1 = 3 ∧ (tok n f a).2.2.2.1 = jS j)) := fun j h1 h2 => W_iff h h1 h2
  have es : rsv = [jS 37, jS 38, jS 39, jS 40, jS 41, jS 42, jS 43, jS 44, jS 45, jS 46, jS 47, jS 48] := by decide +kernel
  unfold mR
  rw [orF_0, es]
  constructor
  · intro g z
    have hz := z.2
    simp only [List.mem_cons, List.not_mem_nil, or_false] at hz
    have go : ∀ j, j < 49 → 37 ≤ j → mW x j = 0 → ¬ (tok n f a).2.2.2.1 = jS j := fun j h1 h2 e q => (hw j h1 h2).mp e ⟨z.1, q⟩
    rcases hz with e | e | e | e | e | e | e | e | e | e | e | e
    · exact go 37 (by decide) (by decide) (g _ (by simp)) e
    · exact go 38 (by decide) (by decide) (g _ (by simp)) e
    · exact go 39 (by decide) (by decide) (g _ (by simp)) e
    · exact go 40 (by decide) (by decide) (g _ (by simp)) e
    · exact go 41 (by decide) (by decide) (g _ (by simp)) e
    · exact go 42 (by decide) (by decide) (g _ (by simp)) e
    · exact go 43 (by decide) (by decide) (g _ (by simp)) e
    · exact go 44 (by decide) (by decide) (g _ (by simp)) e
    · exact go 45 (by decide) (by decide) (g _ (by simp)) e
    · exact go 46 (by decide) (by decide) (g _ (by simp)) e
    · exact go 47 (by decide) (by decide) (g _ (by simp)) e
    · exact go 48 (by decide) (by decide) (g _ (by simp)) e
  · intro g z hz
    simp only [List.mem_cons, List.not_mem_nil, or_false] at hz
    have go : ∀ j, j < 49 → 37 ≤ j → jS j ∈ [jS 37, jS 38, jS 39, jS 40, jS 41, jS 42, jS 43, jS 44, jS 45, jS 46, jS 47, jS 48] → mW x j = 0 := fun j h1 h2 q => (hw j h1 h2).mpr fun w => g ⟨w.1, by rw [w.2]; exact q⟩
    rcases hz with e | e | e | e | e | e | e | e | e | e | e | e <;> subst e
    · exact go 37 (by decide) (by decide) (by simp)
    · exact go 38 (by decide) (by decide) (by simp)
    · exact go 39 (by decide) (by decide) (by simp)
    · exact go 40 (by decide) (by decide) (by simp)
    · exact go 41 (by decide) (by decide) (by simp)
    · exact go 42 (by decide) (by decide) (by simp)
    · exact go 43 (by decide) (by decide) (by simp)
    · exact go 44 (by decide) (by decide) (by simp)
    · exact go 45 (by decide) (by decide) (by simp)
    · exact go 46 (by decide) (by decide) (by simp)
    · exact go 47 (by decide) (by decide) (by simp)
    · exact go 48 (by decide) (by decide) (by simp)
/-- a free name -/
theorem F_iff (h : LKA n f a x) : (x.1 20 = 2 ∧ mR x = 0) ↔ fre (tok n f a) := by
  rw [tk_2 h, R_iff h]
  exact ⟨fun g => ⟨g.1, fun z => g.2 ⟨g.1, z⟩⟩, fun g => ⟨g.1, fun z => g.2 z.2⟩⟩
theorem i64_lt (u v : Int32) : u.toInt64 < v.toInt64 ↔ u < v := by
  rw [Int64.lt_iff_toInt_lt, Int32.toInt_toInt64, Int32.toInt_toInt64, Int32.lt_iff_toInt_lt]
theorem i64_le (u v : Int32) : u.toInt64 ≤ v.toInt64 ↔ u ≤ v := by
  rw [Int64.le_iff_toInt_le, Int32.toInt_toInt64, Int32.toInt_toInt64, Int32.le_iff_toInt_le]
/-- behind a token comes the next -/
theorem NX_LKA {b : Nat} (hx : MX x n f) (hb : b ≤ n) (h0 : x.1 24 = 0) (h9 : x.1 25 = -1) (h : NX n f b x y) : (¬ lxK n f b = 5 → LKA n f b y) ∧ (lxK n f b = 5 → y.1 24 = 1 ∧ y.1 25 = nI (lxP n f b)) := by
  obtain ⟨h1, h2, h3, h4, h5, h6⟩ := h
  refine ⟨fun z => ?_, fun z => h5 h0 z⟩
  obtain ⟨g1, g2, g3, g4, g5, g6, g7⟩ := h6 h0 z
  refine ⟨⟨?_, hx.2.1, ?_⟩, hb, g1, z, g3, g4, g5, g6, g7, g2.trans h9⟩
  · rw [h2 18 (by decide) (by decide) (by decide) (by decide) (by decide)]; exact hx.1
  · rw [h1]; exact hx.2.2
end MRel
section MRel2
variable {n : Nat} {f : Nat → Nat} {c : aN}
/-- a broken token is wrong everywhere -/
theorem brk_stT {t : aK} (h5 : t.1 = 5) (h1 : 1 ≤ c.1 0 0) (h2 : c.1 0 0 ≤ 17) : stT t c = wr t c := by
  have n0 : ¬ t.1 = 0 := by rw [h5]; decide
  have n1 : ¬ t.1 = 1 := by rw [h5]; decide
  have n2 : ¬ t.1 = 2 := by rw [h5]; decide
  have n3 : ¬ t.1 = 3 := by rw [h5]; decide
  have n4 : ¬ t.1 = 4 := by rw [h5]; decide
  by_cases e1 : c.1 0 0 = 1
  · rw [stT_1 t e1]; unfold a1; rw [if_neg n0, if_neg (fun z => n1 z.1)]
  by_cases e2 : c.1 0 0 = 2
  · rw [stT_2 t e2]; unfold a2; rw [if_neg (fun z => n3 z.1), if_neg (fun z => n3 z.1.1)]
  by_cases e3 : c.1 0 0 = 3
  · rw [stT_3 t e3]; unfold a3; rw [if_neg (fun z => n3 z.1.1)]
  by_cases e4 : c.1 0 0 = 4
  · rw [stT_4 t e4]; unfold a4; rw [if_neg (fun z => n4 z.1)]
  by_cases e5 : c.1 0 0 = 5
  · rw [stT_5 t e5]; unfold a5; rw [if_neg (fun z => n3 z.1.1)]
  by_cases e6 : c.1 0 0 = 6
  · rw [stT_6 t e6]; unfold a6; rw [if_neg n2, if_neg (fun z => n1 z.1)]
  by_cases e7 : c.1 0 0 = 7
  · rw [stT_7 t e7]; unfold a7
    split
    · rw [if_neg (fun z => n3 z.1), if_neg (fun z => n3 z.1)]
    · rw [if_neg (fun z => n3 z.1)]
  by_cases e8 : c.1 0 0 = 8
  · rw [stT_8 t e8]; unfold a8; rw [if_neg (fun z => n3 z.1), if_neg (fun z => n4 z.1)]
  by_cases e9 : c.1 0 0 = 9
  · rw [stT_9 t e9]; unfold a9
    rw [if_neg (fun z => n1 z.1)]
    by_cases w : c.1 10 0 = 0
    · rw [if_pos w, if_neg n2]
    · rw [if_neg w, if_neg (fun z => n3 z.1)]
  by_cases e10 : c.1 0 0 = 10
  · rw [stT_10 t e10]; unfold a10; rw [if_neg n2]
  by_cases e11 : c.1 0 0 = 11
  · rw [stT_11 t e11]; unfold a11; rw [if_neg (fun z => n3 z.1), if_neg (fun z => n3 z.1), if_neg (fun z => n3 z.1)]
  by_cases e12 : c.1 0 0 = 12
  · rw [stT_12 t e12]; unfold a12; rw [if_neg n1]
  by_cases e13 : c.1 0 0 = 13
  · rw [stT_13 t e13]; unfold a13; rw [if_neg (fun z => n4 z.1)]
  by_cases e14 : c.1 0 0 = 14
  · rw [stT_14 t e14]; unfold a14; rw [if_neg (fun z => n3 z.1)]
  by_cases e15 : c.1 0 0 = 15
  · rw [stT_15 t e15]; unfold a15; rw [if_neg (fun z => n3 z.1), if_neg (fun z => n3 z.1), if_neg (fun z => n3 z.1)]
  by_cases e16 : c.1 0 0 = 16
  · rw [stT_16 t e16]; unfold a16; rw [if_neg n4]
  by_cases e17 : c.1 0 0 = 17
  · rw [stT_17 t e17]; unfold a17; rw [if_neg n2]
  omega
/-- from c the machine comes to the fault that y tells -/
def BAD (n : Nat) (f : Nat → Nat) (c : aN) (y : aX) : Prop := ∃ d, aRc n f c d ∧ ¬ d.1 2 0 = 0 ∧ d.1 2 0 < 8 ∧ y.1 24 = nI (d.1 2 0) ∧ y.1 25 = nI (d.1 3 0)
theorem BAD.ne {y : aX} (h : BAD n f c y) : ¬ y.1 24 = 0 := by
  obtain ⟨d, -, h2, h3, h4, -⟩ := h
  rw [h4]; exact nI_ne0 (by omega) (by omega)
theorem BAD.of {d : aN} {y : aX} (h : BAD n f d y) (g : aRc n f c d) : BAD n f c y := by
  obtain ⟨e, h1, h2⟩ := h
  exact ⟨e, g.trans h1, h2⟩
theorem BAD.eq {y z : aX} (h : BAD n f c y) (e1 : z.1 24 = y.1 24) (e2 : z.1 25 = y.1 25) : BAD n f c z := by
  obtain ⟨d, h1, h2, h3, h4, h5⟩ := h
  exact ⟨d, h1, h2, h3, e1.trans h4, e2.trans h5⟩
theorem stp_run (h0 : c.1 2 0 = 0) (h1 : 1 ≤ c.1 0 0) : stp n f c = stT (tok n f (c.1 1 0)) c := by unfold stp; rw [if_pos ⟨h0, by omega⟩]
/-- behind next, something is broken -/
theorem BAD_brk {y : aX} (h0 : c.1 2 0 = 0) (h1 : 1 ≤ c.1 0 0) (h2 : c.1 0 0 ≤ 17) (h5 : lxK n f (c.1 1 0) = 5) (e1 : y.1 24 = 1) (e2 : y.1 25 = nI (lxP n f (c.1 1 0))) : BAD n f c y := by
  refine ⟨wr (tok n f (c.1 1 0)) c, ?_, ?_, ?_, ?_, ?_⟩
  · have := aRc.step (n := n) (f := f) (c := c) aRc.rf
    rw [stp_run h0 h1, brk_stT h5 h1 h2] at this; exact this
  · show ¬ (if (tok n f (c.1 1 0)).1 = 5 then 1 else if (tok n f (c.1 1 0)).1 = 0 then 3 else 2) = 0
    rw [if_pos (show (tok n f (c.1 1 0)).1 = 5 from h5)]; decide
  · show (if (tok n f (c.1 1 0)).1 = 5 then 1 else if (tok n f (c.1 1 0)).1 = 0 then 3 else 2) < 8
    rw [if_pos (show (tok n f (c.1 1 0)).1 = 5 from h5)]; decide
  · show y.1 24 = nI (if (tok n f (c.1 1 0)).1 = 5 then 1 else if (tok n f (c.1 1 0)).1 = 0 then 3 else 2)
    rw [if_pos (show (tok n f (c.1 1 0)).1 = 5 from h5), e1]; rfl
  · exact e2
/-- a token that must not come -/
theorem BAD_must {x : aX} (h : LKA n f (c.1 1 0) x) (h0 : c.1 2 0 = 0) (h1 : 1 ≤ c.1 0 0) (hw : stT (tok n f (c.1 1 0)) c = wr (tok n f (c.1 1 0)) c) : BAD n f c (muX x 0) := by
  have h5 : ¬ (tok n f (c.1 1 0)).1 = 5 := h.2.2.2.1
  have e : muX x 0 = sI (sI x 24 (if x.1 20 = 4 then 3 else 2)) 25 (if x.1 20 = 4 then x.1 18 else x.1 21) := by
    unfold muX; rw [if_pos rfl, if_pos h.2.2.1]
  rw [e]
  refine ⟨wr (tok n f (c.1 1 0)) c, ?_, ?_, ?_, ?_, ?_⟩
  · have := aRc.step (n := n) (f := f) (c := c) aRc.rf
    rw [stp_run h0 h1, hw] at this; exact this
  · show ¬ (if (tok n f (c.1 1 0)).1 = 5 then 1 else if (tok n f (c.1 1 0)).1 = 0 then 3 else 2) = 0
    rw [if_neg h5]; split <;> decide
  · show (if (tok n f (c.1 1 0)).1 = 5 then 1 else if (tok n f (c.1 1 0)).1 = 0 then 3 else 2) < 8
    rw [if_neg h5]; split <;> decide
  · show (if x.1 20 = 4 then (3 : Int32) else 2) = nI (if (tok n f (c.1 1 0)).1 = 5 then 1 else if (tok n f (c.1 1 0)).1 = 0 then 3 else 2)
    rw [if_neg h5]
    by_cases z : lxK n f (c.1 1 0) = 0
    · rw [if_pos ((tk_4 h).mpr z), if_pos (show (tok n f (c.1 1 0)).1 = 0 from z)]; rfl
    · rw [if_neg (fun g => z ((tk_4 h).mp g)), if_neg (show ¬ (tok n f (c.1 1 0)).1 = 0 from z)]; rfl
  · show (if x.1 20 = 4 then x.1 18 else x.1 21) = nI (lxP n f (c.1 1 0))
    by_cases z : lxK n f (c.1 1 0) = 0
    · rw [if_pos ((tk_4 h).mpr z), h.1.1]
      have hle := lx_le n f h.2.1
      have : n ≤ lxP n f (c.1 1 0) := by
        by_cases g : n ≤ lxP n f (c.1 1 0)
        · exact g
        · unfold lxK at z
          rw [if_neg g] at z
          split at z
          · split at z
            · exact absurd z (by decide)
            · split at z <;> exact absurd z (by decide)
          · unfold wkF at z
            rcases nk_cases f (lxP n f (c.1 1 0)) (wen f (n - lxP n f (c.1 1 0)) (lxP n f (c.1 1 0))) with e | ⟨e, -⟩ <;> rw [e] at z <;> (split at z; exact absurd z (by decide); split at z <;> exact absurd z (by decide))
      congr 1; omega
    · rw [if_neg (fun g => z ((tk_4 h).mp g))]; exact h.2.2.2.2.2.1
end MRel2
