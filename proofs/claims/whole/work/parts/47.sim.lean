/-! The class's reader steps as the machine does -/
def shF (c : aN) (g : Nat) : Int32 := shp (nI (c.1 36 (g))) (nI (c.1 37 (g))) (nI (c.1 38 (g))) (nI (c.1 39 (g)))
def clR (q : aP) (tp : Nat → Int32) (c : aN) (row call fst many : Nat) : Prop := q.2.2 8 row = nI call ∧ q.2.2 10 row = nI many ∧ ∀ i, i < many → q.2.2 11 (row * 4 + i) = shF c (fst + i) ∧ q.2.2 12 (row * 4 + i) = c.2.2 (fst + i) ∧ tp (row * 4 + i) = nI (c.1 40 (fst + i))
def rwR (c : aN) (r : Nat) : Nat := c.1 23 (r) * 4 + c.1 24 (r)
def rwW (c : aN) (r : Nat) : Nat := 24 + c.1 29 (r) * 8 + c.1 30 (r)
def crw (c : aN) : Nat := if (c.1 10 0) = 0 then rwR c ((c.1 5 0) - 1) else rwW c ((c.1 7 0) - 1)
def RA (c : aN) (q : aP) (tp : Nat → Int32) : Prop := PI q ∧ q.1 = ((c.1 4 0), (c.1 6 0), (c.1 8 0)) ∧ (∀ k, k < (c.1 4 0) → q.2.1 k = e32 (c.2.1 0 (k)) ∧ q.2.2 5 k = nI (c.1 20 (k)) ∧ q.2.2 6 k = 0 ∧ q.2.2 4 k = nI (c.1 21 (k))) ∧ (∀ k, k < (c.1 6 0) → q.2.1 (6 + k) = e32 (c.2.1 1 (k)) ∧ q.2.2 4 (6 + k) = nI (c.1 22 (k))) ∧ (∀ r, r < (c.1 5 0) → clR q tp c (rwR c r) (c.1 25 (r)) (c.1 27 (r)) (c.1 28 (r)) ∧ q.2.2 9 (rwR c r) = nI (c.1 26 (r))) ∧ (∀ r, r < (c.1 7 0) → clR q tp c (rwW c r) (c.1 31 (r)) (c.1 32 (r)) (c.1 33 (r)))
def RG (c : aN) (gp : Nat → Int32) (s : Nat) : Prop := ∀ r, r < (c.1 7 0) → (r + 1 < (c.1 7 0) ∨ ¬ (s = 9 ∨ 11 ≤ s ∧ s ≤ 17)) → gp (rwW c r) = nI (c.1 35 (r))
def RV (tp gp : Nat → Int32) : Prop := (∀ x, ∃ pl : Nat, pl < 65536 ∧ tp x = nI pl) ∧ (∀ x, ∃ pl : Nat, pl < 65536 ∧ gp x = nI pl)
def RR (c : aN) (rf : Nat → Int32) (s : Nat) : Prop := rf 4 = nI (c.1 2 0) ∧ ((c.1 2 0) = 0 → rf 5 = -1) ∧ (¬ (c.1 2 0) = 0 → rf 5 = nI (c.1 3 0)) ∧ (s = 4 ∨ 6 ≤ s ∧ s ≤ 17 → rf 6 = nI (c.1 10 0)) ∧ (s = 9 ∨ 11 ≤ s ∧ s ≤ 17 → rf 7 = nI (crw c)) ∧ (s = 8 → (c.1 10 0) = 0 → rf 8 = nI (c.1 11 0)) ∧ (11 ≤ s ∧ s ≤ 16 → rf 9 = nI (c.1 12 0)) ∧ (s = 17 → rf 10 = nI (c.1 13 0) ∧ 1 ≤ (c.1 13 0)) ∧ (s = 15 ∨ s = 16 → rf 11 = nI (c.1 14 0) ∧ rf 12 = nI (c.1 15 0) ∧ rf 13 = nI (c.1 16 0)) ∧ (s = 16 → rf 14 = nI (c.1 17 0))
def RCl (c : aN) (q : aP) (rf tp gp : Nat → Int32) : Prop := RA c q tp ∧ RG c gp (c.1 0 0) ∧ RV tp gp ∧ RR c rf (c.1 0 0)
def RY (t : aK) (c c' : aN) (y : Int32 × aP × (Nat → Int32) × (Nat → Int32) × (Nat → Int32)) : Prop := (y.1 = -1 ∧ c' = wr t c ∧ PI y.2.1 ∧ RV y.2.2.2.1 y.2.2.2.2) ∨ (y.1 = nI (c'.1 0 0) ∧ RCl c' y.2.1 y.2.2.1 y.2.2.2.1 y.2.2.2.2)
theorem RY_of {t : aK} {c c' c2 : aN} {y y2 : Int32 × aP × (Nat → Int32) × (Nat → Int32) × (Nat → Int32)} (h1 : y = y2) (h2 : c' = c2) (h : RY t c c2 y2) : RY t c c' y := by rw [h1, h2]; exact h
theorem ik1 {x y : Int32} (h : x = y) : ¬ (if x = y then (1 : Int32) else 0) = 0 := by rw [if_pos h]; decide
theorem ik0 {x y : Int32} (h : ¬ x = y) : (if x = y then (1 : Int32) else 0) = 0 := if_neg h
section Sim
variable {n : Nat} {f : Nat → Nat} {c : aN} {q : aP} {rf tp gp : Nat → Int32} {k : aT}
theorem cah_1 (h : RA c q tp) (g : (c.1 6 0) < 24) : ¬ cah q 1 = 0 := by
  have e : q.1.2.1 = (c.1 6 0) := by rw [h.2.1]
  rw [cah, if_neg (by decide), e, if_pos (show nI (c.1 6 0) < 24 from nI_lt (b := 24) g (by decide))]; decide
theorem cah_1n (h : RA c q tp) (g : ¬ (c.1 6 0) < 24) : cah q 1 = 0 := by
  have e : q.1.2.1 = (c.1 6 0) := by rw [h.2.1]
  have e2 := h.1.2.1
  rw [cah, if_neg (by decide), e, if_neg (show ¬ nI (c.1 6 0) < 24 from nI_nlt (b := 24) (by omega) (by omega))]
theorem cah_0 (h : RA c q tp) (g : (c.1 6 0) = 0 ∧ (c.1 4 0) < 6) : ¬ cah q 0 = 0 := by
  have e : q.1.2.1 = (c.1 6 0) := by rw [h.2.1]
  have e3 : q.1.1 = (c.1 4 0) := by rw [h.2.1]
  rw [cah, if_pos rfl, e, g.1, if_pos (show nI 0 = (0 : Int32) from rfl), e3, if_pos (show nI (c.1 4 0) < 6 from nI_lt (b := 6) g.2 (by decide))]; decide
theorem cah_0n (h : RA c q tp) (g : ¬ ((c.1 6 0) = 0 ∧ (c.1 4 0) < 6)) : cah q 0 = 0 := by
  have e : q.1.2.1 = (c.1 6 0) := by rw [h.2.1]
  have e3 : q.1.1 = (c.1 4 0) := by rw [h.2.1]
  have e2 := h.1.2.1
  have e4 := h.1.1
  rw [cah, if_pos rfl, e, e3]
  by_cases z : (c.1 6 0) = 0
  · rw [if_pos (by rw [z]; rfl), if_neg (show ¬ nI (c.1 4 0) < 6 from nI_nlt (b := 6) (by omega) (by omega))]
  · rw [if_neg (nI_ne0 (by omega) (by omega))]
theorem cac_e0 (hA : AI c) (h : RA c q tp) (w : (c.1 10 0) = 0) (l : 1 ≤ (c.1 4 0)) (h6 : rf 6 = nI (c.1 10 0)) : cac q (rf 6) = if c.1 21 ((c.1 4 0) - 1) < 4 then 1 else 0 := by
  have e3 : q.1.1 = (c.1 4 0) := by rw [h.2.1]
  have g1 := h.1.1
  have hb := hA.1.2.2.1 ((c.1 4 0) - 1) (by omega)
  have hr := (h.2.2.1 ((c.1 4 0) - 1) (by omega)).2.2.2
  rw [h6, w, cac, show nI 0 = (0 : Int32) from rfl, show hcnt q 0 = ((c.1 4 0) - 1) + 1 from by rw [hcnt, if_pos rfl]; omega, nI_pred, hrow_c h.1 (by omega), if_neg (nI_m1 (by omega)), if_pos rfl, nI_clamp (by omega), hr]
  by_cases z : c.1 21 ((c.1 4 0) - 1) < 4
  · rw [if_pos z, if_pos (show nI (c.1 21 ((c.1 4 0) - 1)) < 4 from nI_lt (b := 4) z (by decide))]
  · rw [if_neg z, if_neg (show ¬ nI (c.1 21 ((c.1 4 0) - 1)) < 4 from nI_nlt (b := 4) (by omega) (by omega))]
theorem cac_e1 (hA : AI c) (h : RA c q tp) (w : (c.1 10 0) = 1) (l : 1 ≤ (c.1 6 0)) (h6 : rf 6 = nI (c.1 10 0)) : cac q (rf 6) = if c.1 22 ((c.1 6 0) - 1) < 8 then 1 else 0 := by
  have e : q.1.2.1 = (c.1 6 0) := by rw [h.2.1]
  have g2 := h.1.2.1
  have hb := hA.1.2.2.2 ((c.1 6 0) - 1) (by omega)
  have hr := (h.2.2.2.1 ((c.1 6 0) - 1) (by omega)).2
  rw [h6, w, cac, show nI 1 = (1 : Int32) from rfl, show hcnt q 1 = ((c.1 6 0) - 1) + 1 from by rw [hcnt, if_neg (by decide)]; omega, nI_pred, hrow_n (by decide) h.1 (by omega), if_neg (nI_m1 (by omega)), if_neg (by decide), nI_clamp (by omega), hr]
  by_cases z : c.1 22 ((c.1 6 0) - 1) < 8
  · rw [if_pos z, if_pos (show nI (c.1 22 ((c.1 6 0) - 1)) < 8 from nI_lt (b := 8) z (by decide))]
  · rw [if_neg z, if_neg (show ¬ nI (c.1 22 ((c.1 6 0) - 1)) < 8 from nI_nlt (b := 8) (by omega) (by omega))]
theorem cac_1 (hA : AI c) (h : RA c q tp) (hw : ((c.1 10 0) = 0 ∧ 1 ≤ (c.1 4 0)) ∨ ((c.1 10 0) = 1 ∧ 1 ≤ (c.1 6 0))) (h6 : rf 6 = nI (c.1 10 0)) (z : if (c.1 10 0) = 0 then c.1 21 ((c.1 4 0) - 1) < 4 else c.1 22 ((c.1 6 0) - 1) < 8) : ¬ cac q (rf 6) = 0 := by
  rcases hw with ⟨w, l⟩ | ⟨w, l⟩
  · rw [if_pos w] at z; rw [cac_e0 hA h w l h6, if_pos z]; decide
  · rw [if_neg (by omega)] at z; rw [cac_e1 hA h w l h6, if_pos z]; decide
theorem cac_0 (hA : AI c) (h : RA c q tp) (hw : ((c.1 10 0) = 0 ∧ 1 ≤ (c.1 4 0)) ∨ ((c.1 10 0) = 1 ∧ 1 ≤ (c.1 6 0))) (h6 : rf 6 = nI (c.1 10 0)) (z : ¬ if (c.1 10 0) = 0 then c.1 21 ((c.1 4 0) - 1) < 4 else c.1 22 ((c.1 6 0) - 1) < 8) : cac q (rf 6) = 0 := by
  rcases hw with ⟨w, l⟩ | ⟨w, l⟩
  · rw [if_pos w] at z; rw [cac_e0 hA h w l h6, if_neg z]
  · rw [if_neg (by omega)] at z; rw [cac_e1 hA h w l h6, if_neg z]
theorem RCl_gt {c : aN} {q : aP} {rf tp gp : Nat → Int32} (t : aK) (s : Nat) (h1 : RA c q tp) (h2 : RG c gp s) (h3 : RV tp gp) (h4 : RR c rf s) : RCl (gt t c s) q rf tp gp := ⟨h1, h2, h3, h4⟩
theorem fr_1 (hn : n < 65536) (hf : ∀ k, k < n → f k < 256) (ha : (c.1 1 0) ≤ n) (hk : TKR n f (c.1 1 0) k) (h : fre (tok n f (c.1 1 0))) : ¬ frF n f k = 0 := by rw [L_fr hn hf ha hk, if_pos h]; decide
theorem fr_0 (hn : n < 65536) (hf : ∀ k, k < n → f k < 256) (ha : (c.1 1 0) ≤ n) (hk : TKR n f (c.1 1 0) k) (h : ¬ fre (tok n f (c.1 1 0))) : frF n f k = 0 := by rw [L_fr hn hf ha hk, if_neg h]
theorem RG_w {s s2 : Nat} (h : RG c gp s) (g : ¬ (s2 = 9 ∨ 11 ≤ s2 ∧ s2 ≤ 17) → ¬ (s = 9 ∨ 11 ≤ s ∧ s ≤ 17)) : RG c gp s2 := fun r hr e => h r hr (e.imp id g)
theorem sim_1 (hn : n < 65536) (hf : ∀ k, k < n → f k < 256) (hA : AI c) (hJ : AJ n c) (hR : RCl c q rf tp gp) (h0 : (c.1 2 0) = 0) (hs : (c.1 0 0) = 1) (hk : TKR n f (c.1 1 0) k) : RY (tok n f (c.1 1 0)) c (stT (tok n f (c.1 1 0)) c) (tkTop n f k q rf tp gp) := by
  rw [stT_1 _ hs]
  have ha : (c.1 1 0) ≤ n := hJ.1.1
  have hle := lx_le n f ha
  obtain ⟨hRA, hRG, hRV, hRR⟩ := hR
  rw [hs] at hRG hRR
  have hQ5 : Q5c c 1 := by have := hA.2.2.2.2.1; unfold Q5 at this; rw [hs] at this; exact this
  have hkd := L_kd hk
  have hpl := L_pl hk

  by_cases k0 : (tok n f (c.1 1 0)).1 = 0
  · by_cases z : (c.1 6 0) = 0
    · refine RY_of (y2 := (0, q, upd (upd rf 4 4) 5 (nI k.2.2.1), tp, gp)) (c2 := ((xN (xN (xN c.1 2 (0) (4)) 3 (0) ((tok n f (c.1 1 0)).2.1)) 0 (0) (0)), c.2.1, c.2.2)) (by unfold tkTop; rw [if_neg (ik1 (hkd.trans k0)), if_pos (by rw [hcnt, if_neg (by decide), hRA.2.1]; exact congrArg nI z)]) (by unfold a1; rw [if_pos k0, if_pos z]) ?_
      refine Or.inr ⟨rfl, hRA, (RG_w hRG (by show ¬ (0 = 9 ∨ 11 ≤ 0 ∧ 0 ≤ 17) → _; omega)), hRV, rfl, fun e => absurd e (show ¬ (4 = 0) by decide), fun _ => ?_, fun e => absurd e (show ¬ (0 = 4 ∨ 6 ≤ 0 ∧ 0 ≤ 17) by decide), fun e => absurd e (show ¬ (0 = 9 ∨ 11 ≤ 0 ∧ 0 ≤ 17) by decide), fun e => absurd e (show ¬ (0 = 8) by decide), fun e => absurd e (show ¬ (11 ≤ 0 ∧ 0 ≤ 16) by decide), fun e => absurd e (show ¬ (0 = 17) by decide), fun e => absurd e (show ¬ (0 = 15 ∨ 0 = 16) by decide), fun e => absurd e (show ¬ (0 = 16) by decide)⟩
      show nI k.2.2.1 = nI (tok n f (c.1 1 0)).2.1
      rw [hpl]
    · refine RY_of (y2 := (0, q, rf, tp, gp)) (c2 := ((xN c.1 0 (0) (0)), c.2.1, c.2.2)) (by unfold tkTop; rw [if_neg (ik1 (hkd.trans k0)), if_neg (by rw [hcnt, if_neg (by decide), hRA.2.1]; have := hA.1.2.1; exact nI_ne0 (show 0 < (c.1 6 0) by omega) (show (c.1 6 0) < 2 ^ 31 by omega))]) (by unfold a1; rw [if_pos k0, if_neg z]) ?_
      exact Or.inr ⟨rfl, hRA, (RG_w hRG (by show ¬ (0 = 9 ∨ 11 ≤ 0 ∧ 0 ≤ 17) → _; omega)), hRV, hRR.1, hRR.2.1, hRR.2.2.1, fun e => absurd e (show ¬ (0 = 4 ∨ 6 ≤ 0 ∧ 0 ≤ 17) by decide), fun e => absurd e (show ¬ (0 = 9 ∨ 11 ≤ 0 ∧ 0 ≤ 17) by decide), fun e => absurd e (show ¬ (0 = 8) by decide), fun e => absurd e (show ¬ (11 ≤ 0 ∧ 0 ≤ 16) by decide), fun e => absurd e (show ¬ (0 = 17) by decide), fun e => absurd e (show ¬ (0 = 15 ∨ 0 = 16) by decide), fun e => absurd e (show ¬ (0 = 16) by decide)⟩
  · have k0n : ¬ k.2.1 = 0 := fun e => k0 (hkd.symm.trans e)
    by_cases k1 : (tok n f (c.1 1 0)).1 = 1
    · by_cases z : (c.1 6 0) < 24
      · refine RY_of (y2 := (nI 2, q, rf, tp, gp)) (c2 := gt (tok n f (c.1 1 0)) c 2) (by unfold tkTop; rw [if_pos (ik0 k0n), if_neg (ik1 (hkd.trans k1)), if_neg (cah_1 hRA z)]; rfl) (by unfold a1; rw [if_neg k0, if_pos ⟨k1, z⟩]) ?_
        exact Or.inr ⟨rfl, RCl_gt (tok n f (c.1 1 0)) 2 (show RA c (q) (tp) from hRA) (show RG c (gp) 2 from (show RG c gp 2 from RG_w hRG (by omega))) hRV (show RR c (rf) 2 from ⟨hRR.1, hRR.2.1, hRR.2.2.1, fun e => absurd e (by omega), fun e => absurd e (by omega), fun e => absurd e (by omega), fun e => absurd e (by omega), fun e => absurd e (by omega), fun e => absurd e (by omega), fun e => absurd e (by omega)⟩)⟩
      · skip
        refine RY_of (y2 := (-1, q, rf, tp, gp)) (c2 := wr (tok n f (c.1 1 0)) c) (by unfold tkTop; rw [if_pos (ik0 k0n), if_neg (ik1 (hkd.trans k1)), if_pos (cah_1n hRA z)]) (by unfold a1; rw [if_neg k0, if_neg (fun e => z e.2)]) ?_
        exact Or.inl ⟨rfl, rfl, hRA.1, hRV⟩
    · have k1n : ¬ k.2.1 = 1 := fun e => k1 (hkd.symm.trans e)
      refine RY_of (y2 := (-1, q, rf, tp, gp)) (c2 := wr (tok n f (c.1 1 0)) c) (by unfold tkTop; rw [if_pos (ik0 k0n), if_pos (ik0 k1n)]) (by unfold a1; rw [if_neg k0, if_neg (fun e => k1 e.1)]) ?_
      exact Or.inl ⟨rfl, rfl, hRA.1, hRV⟩
theorem sim_2 (hn : n < 65536) (hf : ∀ k, k < n → f k < 256) (hA : AI c) (hJ : AJ n c) (hR : RCl c q rf tp gp) (h0 : (c.1 2 0) = 0) (hs : (c.1 0 0) = 2) (hk : TKR n f (c.1 1 0) k) : RY (tok n f (c.1 1 0)) c (stT (tok n f (c.1 1 0)) c) (tkHW n f k q rf tp gp) := by
  rw [stT_2 _ hs]
  have ha : (c.1 1 0) ≤ n := hJ.1.1
  have hle := lx_le n f ha
  obtain ⟨hRA, hRG, hRV, hRR⟩ := hR
  rw [hs] at hRG hRR
  have hQ5 : Q5c c 2 := by have := hA.2.2.2.2.1; unfold Q5 at this; rw [hs] at this; exact this
  have hkd := L_kd hk
  have hpl := L_pl hk

  by_cases w1 : (tok n f (c.1 1 0)).1 = 3 ∧ (tok n f (c.1 1 0)).2.2.2.1 = jS 0
  · skip
    refine RY_of (y2 := (nI 5, q, rf, tp, gp)) (c2 := gt (tok n f (c.1 1 0)) c 5) (by unfold tkHW; rw [if_neg (fun e => (L_isw0 hn hf ha hk (j := 0) (by decide)).mp e w1)]; rfl) (by unfold a2; rw [if_pos w1]) ?_
    exact Or.inr ⟨rfl, RCl_gt (tok n f (c.1 1 0)) 5 (show RA c (q) (tp) from hRA) (show RG c (gp) 5 from (show RG c gp 5 from RG_w hRG (by omega))) hRV (show RR c (rf) 5 from ⟨hRR.1, hRR.2.1, hRR.2.2.1, fun e => absurd e (by omega), fun e => absurd e (by omega), fun e => absurd e (by omega), fun e => absurd e (by omega), fun e => absurd e (by omega), fun e => absurd e (by omega), fun e => absurd e (by omega)⟩)⟩
  · by_cases w2 : (tok n f (c.1 1 0)).1 = 3 ∧ (tok n f (c.1 1 0)).2.2.2.1 = jS 1
    · by_cases z : (c.1 6 0) = 0 ∧ (c.1 4 0) < 6
      · skip
        refine RY_of (y2 := (nI 3, q, rf, tp, gp)) (c2 := gt (tok n f (c.1 1 0)) c 3) (by unfold tkHW; rw [if_pos ((L_isw0 hn hf ha hk (j := 0) (by decide)).mpr w1), if_neg (fun e => (L_isw0 hn hf ha hk (j := 1) (by decide)).mp e w2), if_neg (cah_0 hRA z)]; rfl) (by unfold a2; rw [if_neg w1, if_pos ⟨w2, z⟩]) ?_
        exact Or.inr ⟨rfl, RCl_gt (tok n f (c.1 1 0)) 3 (show RA c (q) (tp) from hRA) (show RG c (gp) 3 from (show RG c gp 3 from RG_w hRG (by omega))) hRV (show RR c (rf) 3 from ⟨hRR.1, hRR.2.1, hRR.2.2.1, fun e => absurd e (by omega), fun e => absurd e (by omega), fun e => absurd e (by omega), fun e => absurd e (by omega), fun e => absurd e (by omega), fun e => absurd e (by omega), fun e => absurd e (by omega)⟩)⟩
      · skip
        refine RY_of (y2 := (-1, q, rf, tp, gp)) (c2 := wr (tok n f (c.1 1 0)) c) (by unfold tkHW; rw [if_pos ((L_isw0 hn hf ha hk (j := 0) (by decide)).mpr w1), if_neg (fun e => (L_isw0 hn hf ha hk (j := 1) (by decide)).mp e w2), if_pos (cah_0n hRA z)]) (by unfold a2; rw [if_neg w1, if_neg (fun e => z e.2)]) ?_
        exact Or.inl ⟨rfl, rfl, hRA.1, hRV⟩
    · skip
      refine RY_of (y2 := (-1, q, rf, tp, gp)) (c2 := wr (tok n f (c.1 1 0)) c) (by unfold tkHW; rw [if_pos ((L_isw0 hn hf ha hk (j := 0) (by decide)).mpr w1), if_pos ((L_isw0 hn hf ha hk (j := 1) (by decide)).mpr w2)]) (by unfold a2; rw [if_neg w1, if_neg (fun e => w2 e.1)]) ?_
      exact Or.inl ⟨rfl, rfl, hRA.1, hRV⟩
theorem sim_6 (hn : n < 65536) (hf : ∀ k, k < n → f k < 256) (hA : AI c) (hJ : AJ n c) (hR : RCl c q rf tp gp) (h0 : (c.1 2 0) = 0) (hs : (c.1 0 0) = 6) (hk : TKR n f (c.1 1 0) k) : RY (tok n f (c.1 1 0)) c (stT (tok n f (c.1 1 0)) c) (tkCC n f k q rf tp gp) := by
  rw [stT_6 _ hs]
  have ha : (c.1 1 0) ≤ n := hJ.1.1
  have hle := lx_le n f ha
  obtain ⟨hRA, hRG, hRV, hRR⟩ := hR
  rw [hs] at hRG hRR
  have hQ5 : Q5c c 6 := by have := hA.2.2.2.2.1; unfold Q5 at this; rw [hs] at this; exact this
  have hkd := L_kd hk
  have hpl := L_pl hk

  have hw : ((c.1 10 0) = 0 ∧ 1 ≤ (c.1 4 0)) ∨ ((c.1 10 0) = 1 ∧ 1 ≤ (c.1 6 0)) := by unfold Q5c at hQ5; omega
  have h6 := hRR.2.2.2.1 (by omega)
  by_cases k2 : (tok n f (c.1 1 0)).1 = 2
  · skip
    refine RY_of (y2 := (nI 1, q, rf, tp, gp)) (c2 := gt (tok n f (c.1 1 0)) c 1) (by unfold tkCC; rw [if_neg (ik1 (hkd.trans k2))]; rfl) (by unfold a6; rw [if_pos k2]) ?_
    exact Or.inr ⟨rfl, RCl_gt (tok n f (c.1 1 0)) 1 (show RA c (q) (tp) from hRA) (show RG c (gp) 1 from (show RG c gp 1 from RG_w hRG (by omega))) hRV (show RR c (rf) 1 from ⟨hRR.1, hRR.2.1, hRR.2.2.1, fun e => absurd e (by omega), fun e => absurd e (by omega), fun e => absurd e (by omega), fun e => absurd e (by omega), fun e => absurd e (by omega), fun e => absurd e (by omega), fun e => absurd e (by omega)⟩)⟩
  · have k2n : ¬ k.2.1 = 2 := fun e => k2 (hkd.symm.trans e)
    by_cases k1 : (tok n f (c.1 1 0)).1 = 1
    · by_cases z : (if (c.1 10 0) = 0 then c.1 21 ((c.1 4 0) - 1) < 4 else c.1 22 ((c.1 6 0) - 1) < 8)
      · skip
        refine RY_of (y2 := (nI 7, q, rf, tp, gp)) (c2 := gt (tok n f (c.1 1 0)) c 7) (by unfold tkCC; rw [if_pos (ik0 k2n), if_neg (ik1 (hkd.trans k1)), if_neg (cac_1 hA hRA hw h6 z)]; rfl) (by unfold a6; rw [if_neg k2, if_pos ⟨k1, z⟩]) ?_
        exact Or.inr ⟨rfl, RCl_gt (tok n f (c.1 1 0)) 7 (show RA c (q) (tp) from hRA) (show RG c (gp) 7 from (show RG c gp 7 from RG_w hRG (by omega))) hRV (show RR c (rf) 7 from ⟨hRR.1, hRR.2.1, hRR.2.2.1, fun _ => hRR.2.2.2.1 (by omega), fun e => absurd e (by omega), fun e => absurd e (by omega), fun e => absurd e (by omega), fun e => absurd e (by omega), fun e => absurd e (by omega), fun e => absurd e (by omega)⟩)⟩
      · skip
        refine RY_of (y2 := (-1, q, rf, tp, gp)) (c2 := wr (tok n f (c.1 1 0)) c) (by unfold tkCC; rw [if_pos (ik0 k2n), if_neg (ik1 (hkd.trans k1)), if_pos (cac_0 hA hRA hw h6 z)]) (by unfold a6; rw [if_neg k2, if_neg (fun e => z e.2)]) ?_
        exact Or.inl ⟨rfl, rfl, hRA.1, hRV⟩
    · have k1n : ¬ k.2.1 = 1 := fun e => k1 (hkd.symm.trans e)
      refine RY_of (y2 := (-1, q, rf, tp, gp)) (c2 := wr (tok n f (c.1 1 0)) c) (by unfold tkCC; rw [if_pos (ik0 k2n), if_pos (ik0 k1n)]) (by unfold a6; rw [if_neg k2, if_neg (fun e => k1 e.1)]) ?_
      exact Or.inl ⟨rfl, rfl, hRA.1, hRV⟩
theorem sim_7 (hn : n < 65536) (hf : ∀ k, k < n → f k < 256) (hA : AI c) (hJ : AJ n c) (hR : RCl c q rf tp gp) (h0 : (c.1 2 0) = 0) (hs : (c.1 0 0) = 7) (hk : TKR n f (c.1 1 0) k) : RY (tok n f (c.1 1 0)) c (stT (tok n f (c.1 1 0)) c) (tkCW n f k q rf tp gp) := by
  rw [stT_7 _ hs]
  have ha : (c.1 1 0) ≤ n := hJ.1.1
  have hle := lx_le n f ha
  obtain ⟨hRA, hRG, hRV, hRR⟩ := hR
  rw [hs] at hRG hRR
  have hQ5 : Q5c c 7 := by have := hA.2.2.2.2.1; unfold Q5 at this; rw [hs] at this; exact this
  have hkd := L_kd hk
  have hpl := L_pl hk

  have h6 : rf 6 = nI (c.1 10 0) := hRR.2.2.2.1 (by omega)
  have hw : (c.1 10 0) = 0 ∨ (c.1 10 0) = 1 := by unfold Q5c at hQ5; omega
  by_cases w0 : (c.1 10 0) = 0
  · have e6 : rf 6 = 0 := by rw [h6, w0]; rfl
    by_cases w1 : (tok n f (c.1 1 0)).1 = 3 ∧ (tok n f (c.1 1 0)).2.2.2.1 = jS 15
    · skip
      refine RY_of (y2 := (nI 8, q, upd rf 8 1, tp, gp)) (c2 := gt (tok n f (c.1 1 0)) ((xN c.1 11 (0) (1)), c.2.1, c.2.2) 8) (by unfold tkCW; rw [if_pos e6, if_neg (fun e => (L_isw0 hn hf ha hk (j := 15) (by decide)).mp e w1)]; rfl) (by unfold a7; rw [if_pos w0, if_pos w1]) ?_
      exact Or.inr ⟨rfl, RCl_gt (tok n f (c.1 1 0)) 8 (show RA ((xN c.1 11 (0) (1)), c.2.1, c.2.2) (q) (tp) from hRA) (show RG ((xN c.1 11 (0) (1)), c.2.1, c.2.2) (gp) 8 from (show RG c gp 8 from RG_w hRG (by omega))) hRV (show RR ((xN c.1 11 (0) (1)), c.2.1, c.2.2) (upd rf 8 1) 8 from ⟨hRR.1, hRR.2.1, hRR.2.2.1, fun _ => hRR.2.2.2.1 (by omega), fun e => absurd e (by omega), fun _ _ => rfl, fun e => absurd e (by omega), fun e => absurd e (by omega), fun e => absurd e (by omega), fun e => absurd e (by omega)⟩)⟩
    · by_cases w2 : (tok n f (c.1 1 0)).1 = 3 ∧ (tok n f (c.1 1 0)).2.2.2.1 = jS 16
      · skip
        refine RY_of (y2 := (nI 8, q, upd rf 8 0, tp, gp)) (c2 := gt (tok n f (c.1 1 0)) ((xN c.1 11 (0) (0)), c.2.1, c.2.2) 8) (by unfold tkCW; rw [if_pos e6, if_pos ((L_isw0 hn hf ha hk (j := 15) (by decide)).mpr w1), if_neg (fun e => (L_isw0 hn hf ha hk (j := 16) (by decide)).mp e w2)]; rfl) (by unfold a7; rw [if_pos w0, if_neg w1, if_pos w2]) ?_
        exact Or.inr ⟨rfl, RCl_gt (tok n f (c.1 1 0)) 8 (show RA ((xN c.1 11 (0) (0)), c.2.1, c.2.2) (q) (tp) from hRA) (show RG ((xN c.1 11 (0) (0)), c.2.1, c.2.2) (gp) 8 from (show RG c gp 8 from RG_w hRG (by omega))) hRV (show RR ((xN c.1 11 (0) (0)), c.2.1, c.2.2) (upd rf 8 0) 8 from ⟨hRR.1, hRR.2.1, hRR.2.2.1, fun _ => hRR.2.2.2.1 (by omega), fun e => absurd e (by omega), fun _ _ => rfl, fun e => absurd e (by omega), fun e => absurd e (by omega), fun e => absurd e (by omega), fun e => absurd e (by omega)⟩)⟩
      · skip
        refine RY_of (y2 := (-1, q, upd rf 8 0, tp, gp)) (c2 := wr (tok n f (c.1 1 0)) c) (by unfold tkCW; rw [if_pos e6, if_pos ((L_isw0 hn hf ha hk (j := 15) (by decide)).mpr w1), if_pos ((L_isw0 hn hf ha hk (j := 16) (by decide)).mpr w2)]) (by unfold a7; rw [if_pos w0, if_neg w1, if_neg w2]) ?_
        exact Or.inl ⟨rfl, rfl, hRA.1, hRV⟩
  · have e6 : ¬ rf 6 = 0 := by rw [h6]; exact nI_ne0 (by omega) (by omega)
    by_cases w1 : (tok n f (c.1 1 0)).1 = 3 ∧ (tok n f (c.1 1 0)).2.2.2.1 = jS 14
    · skip
      refine RY_of (y2 := (nI 8, q, upd rf 8 (-1), tp, gp)) (c2 := gt (tok n f (c.1 1 0)) c 8) (by unfold tkCW; rw [if_neg e6, if_neg (fun e => (L_isw0 hn hf ha hk (j := 14) (by decide)).mp e w1)]; rfl) (by unfold a7; rw [if_neg w0, if_pos w1]) ?_
      exact Or.inr ⟨rfl, RCl_gt (tok n f (c.1 1 0)) 8 (show RA c (q) (tp) from hRA) (show RG c (gp) 8 from (show RG c gp 8 from RG_w hRG (by omega))) hRV (show RR c (upd rf 8 (-1)) 8 from ⟨hRR.1, hRR.2.1, hRR.2.2.1, fun _ => hRR.2.2.2.1 (by omega), fun e => absurd e (by omega), fun _ e => absurd e w0, fun e => absurd e (by omega), fun e => absurd e (by omega), fun e => absurd e (by omega), fun e => absurd e (by omega)⟩)⟩
    · skip
      refine RY_of (y2 := (-1, q, upd rf 8 (-1), tp, gp)) (c2 := wr (tok n f (c.1 1 0)) c) (by unfold tkCW; rw [if_neg e6, if_pos ((L_isw0 hn hf ha hk (j := 14) (by decide)).mpr w1)]) (by unfold a7; rw [if_neg w0, if_neg w1]) ?_
      exact Or.inl ⟨rfl, rfl, hRA.1, hRV⟩
theorem sim_11 (hn : n < 65536) (hf : ∀ k, k < n → f k < 256) (hA : AI c) (hJ : AJ n c) (hR : RCl c q rf tp gp) (h0 : (c.1 2 0) = 0) (hs : (c.1 0 0) = 11) (hk : TKR n f (c.1 1 0) k) : RY (tok n f (c.1 1 0)) c (stT (tok n f (c.1 1 0)) c) (tkTW n f k q rf tp gp) := by
  rw [stT_11 _ hs]
  have ha : (c.1 1 0) ≤ n := hJ.1.1
  have hle := lx_le n f ha
  obtain ⟨hRA, hRG, hRV, hRR⟩ := hR
  rw [hs] at hRG hRR
  have hQ5 : Q5c c 11 := by have := hA.2.2.2.2.1; unfold Q5 at this; rw [hs] at this; exact this
  have hkd := L_kd hk
  have hpl := L_pl hk

  have h9 : rf 9 = nI (c.1 12 0) := hRR.2.2.2.2.2.2.1 (by omega)
  by_cases w1 : (tok n f (c.1 1 0)).1 = 3 ∧ (tok n f (c.1 1 0)).2.2.2.1 = jS 18
  · skip
    refine RY_of (y2 := (nI 12, q, upd rf 9 (rf 9 + 1), tp, gp)) (c2 := gt (tok n f (c.1 1 0)) ((xN c.1 12 (0) ((c.1 12 0) + 1)), c.2.1, c.2.2) 12) (by unfold tkTW; rw [if_neg (fun e => (L_isw0 hn hf ha hk (j := 18) (by decide)).mp e w1)]; rfl) (by unfold a11; rw [if_pos w1]) ?_
    exact Or.inr ⟨rfl, RCl_gt (tok n f (c.1 1 0)) 12 (show RA ((xN c.1 12 (0) ((c.1 12 0) + 1)), c.2.1, c.2.2) (q) (tp) from hRA) (show RG ((xN c.1 12 (0) ((c.1 12 0) + 1)), c.2.1, c.2.2) (gp) 12 from (show RG c gp 12 from RG_w hRG (by omega))) hRV (show RR ((xN c.1 12 (0) ((c.1 12 0) + 1)), c.2.1, c.2.2) (upd rf 9 (rf 9 + 1)) 12 from ⟨hRR.1, hRR.2.1, hRR.2.2.1, fun _ => hRR.2.2.2.1 (by omega), fun _ => hRR.2.2.2.2.1 (by omega), fun e => absurd e (by omega), fun _ => show rf 9 + 1 = nI ((c.1 12 0) + 1) from by rw [h9]; exact nI_1 _, fun e => absurd e (by omega), fun e => absurd e (by omega), fun e => absurd e (by omega)⟩)⟩
  · by_cases w2 : (tok n f (c.1 1 0)).1 = 3 ∧ (tok n f (c.1 1 0)).2.2.2.1 = jS 19
    · skip
      refine RY_of (y2 := (nI 13, q, rf, tp, gp)) (c2 := gt (tok n f (c.1 1 0)) c 13) (by unfold tkTW; rw [if_pos ((L_isw0 hn hf ha hk (j := 18) (by decide)).mpr w1), if_neg (fun e => (L_isw0 hn hf ha hk (j := 19) (by decide)).mp e w2)]; rfl) (by unfold a11; rw [if_neg w1, if_pos w2]) ?_
      exact Or.inr ⟨rfl, RCl_gt (tok n f (c.1 1 0)) 13 (show RA c (q) (tp) from hRA) (show RG c (gp) 13 from (show RG c gp 13 from RG_w hRG (by omega))) hRV (show RR c (rf) 13 from ⟨hRR.1, hRR.2.1, hRR.2.2.1, fun _ => hRR.2.2.2.1 (by omega), fun _ => hRR.2.2.2.2.1 (by omega), fun e => absurd e (by omega), fun _ => hRR.2.2.2.2.2.2.1 (by omega), fun e => absurd e (by omega), fun e => absurd e (by omega), fun e => absurd e (by omega)⟩)⟩
    · by_cases w3 : (tok n f (c.1 1 0)).1 = 3 ∧ (tok n f (c.1 1 0)).2.2.2.1 = jS 20
      · skip
        refine RY_of (y2 := (nI 14, q, rf, tp, gp)) (c2 := gt (tok n f (c.1 1 0)) c 14) (by unfold tkTW; rw [if_pos ((L_isw0 hn hf ha hk (j := 18) (by decide)).mpr w1), if_pos ((L_isw0 hn hf ha hk (j := 19) (by decide)).mpr w2), if_neg (fun e => (L_isw0 hn hf ha hk (j := 20) (by decide)).mp e w3)]; rfl) (by unfold a11; rw [if_neg w1, if_neg w2, if_pos w3]) ?_
        exact Or.inr ⟨rfl, RCl_gt (tok n f (c.1 1 0)) 14 (show RA c (q) (tp) from hRA) (show RG c (gp) 14 from (show RG c gp 14 from RG_w hRG (by omega))) hRV (show RR c (rf) 14 from ⟨hRR.1, hRR.2.1, hRR.2.2.1, fun _ => hRR.2.2.2.1 (by omega), fun _ => hRR.2.2.2.2.1 (by omega), fun e => absurd e (by omega), fun _ => hRR.2.2.2.2.2.2.1 (by omega), fun e => absurd e (by omega), fun e => absurd e (by omega), fun e => absurd e (by omega)⟩)⟩
      · skip
        refine RY_of (y2 := (-1, q, rf, tp, gp)) (c2 := wr (tok n f (c.1 1 0)) c) (by unfold tkTW; rw [if_pos ((L_isw0 hn hf ha hk (j := 18) (by decide)).mpr w1), if_pos ((L_isw0 hn hf ha hk (j := 19) (by decide)).mpr w2), if_pos ((L_isw0 hn hf ha hk (j := 20) (by decide)).mpr w3)]) (by unfold a11; rw [if_neg w1, if_neg w2, if_neg w3]) ?_
        exact Or.inl ⟨rfl, rfl, hRA.1, hRV⟩
theorem sim_13 (hn : n < 65536) (hf : ∀ k, k < n → f k < 256) (hA : AI c) (hJ : AJ n c) (hR : RCl c q rf tp gp) (h0 : (c.1 2 0) = 0) (hs : (c.1 0 0) = 13) (hk : TKR n f (c.1 1 0) k) : RY (tok n f (c.1 1 0)) c (stT (tok n f (c.1 1 0)) c) (tkAr n f k q rf tp gp) := by
  rw [stT_13 _ hs]
  have ha : (c.1 1 0) ≤ n := hJ.1.1
  have hle := lx_le n f ha
  obtain ⟨hRA, hRG, hRV, hRR⟩ := hR
  rw [hs] at hRG hRR
  have hQ5 : Q5c c 13 := by have := hA.2.2.2.2.1; unfold Q5 at this; rw [hs] at this; exact this
  have hkd := L_kd hk
  have hpl := L_pl hk

  by_cases w1 : (tok n f (c.1 1 0)).1 = 4 ∧ 0 ≤ (tok n f (c.1 1 0)).2.2.2.2 ∧ (tok n f (c.1 1 0)).2.2.2.2 ≤ 2
  · obtain ⟨v, hv, ev⟩ := nI_of2 (x := (tok n f (c.1 1 0)).2.2.2.2) (M := 2) (n := 2) rfl (fun g => absurd (Int32.lt_of_le_of_lt w1.2.1 g) (by decide)) w1.2.2
    refine RY_of (y2 := (nI 15, q, upd (upd (upd rf 11 0) 12 k.2.2.2.2) 13 (nI k.2.2.1), tp, gp)) (c2 := gt (tok n f (c.1 1 0)) (alk ((xN (xN (xN c.1 14 (0) (0)) 15 (0) ((tok n f (c.1 1 0)).2.2.2.2.toNatClampNeg)) 16 (0) ((tok n f (c.1 1 0)).2.1)), c.2.1, c.2.2) 2 (c.1 8 0) (acl c) (tok n f (c.1 1 0)).2.1) 15) (by unfold tkAr; rw [L_num hk 0 2, if_pos w1, if_neg (by decide)]; rfl) (by unfold a13; rw [if_pos w1]) ?_
    exact Or.inr ⟨rfl, RCl_gt (tok n f (c.1 1 0)) 15 (show RA (alk ((xN (xN (xN c.1 14 (0) (0)) 15 (0) ((tok n f (c.1 1 0)).2.2.2.2.toNatClampNeg)) 16 (0) ((tok n f (c.1 1 0)).2.1)), c.2.1, c.2.2) 2 (c.1 8 0) (acl c) (tok n f (c.1 1 0)).2.1) (q) (tp) from hRA) (show RG (alk ((xN (xN (xN c.1 14 (0) (0)) 15 (0) ((tok n f (c.1 1 0)).2.2.2.2.toNatClampNeg)) 16 (0) ((tok n f (c.1 1 0)).2.1)), c.2.1, c.2.2) 2 (c.1 8 0) (acl c) (tok n f (c.1 1 0)).2.1) (gp) 15 from (show RG c gp 15 from RG_w hRG (by omega))) hRV (show RR (alk ((xN (xN (xN c.1 14 (0) (0)) 15 (0) ((tok n f (c.1 1 0)).2.2.2.2.toNatClampNeg)) 16 (0) ((tok n f (c.1 1 0)).2.1)), c.2.1, c.2.2) 2 (c.1 8 0) (acl c) (tok n f (c.1 1 0)).2.1) (upd (upd (upd rf 11 0) 12 k.2.2.2.2) 13 (nI k.2.2.1)) 15 from ⟨hRR.1, hRR.2.1, hRR.2.2.1, fun _ => hRR.2.2.2.1 (by omega), fun _ => hRR.2.2.2.2.1 (by omega), fun e => absurd e (by omega), fun _ => hRR.2.2.2.2.2.2.1 (by omega), fun e => absurd e (by omega), fun _ => ⟨rfl, show k.2.2.2.2 = nI ((tok n f (c.1 1 0)).2.2.2.2.toNatClampNeg) from by rw [L_nu hk w1.1, ev, nI_clamp (by omega)], show nI k.2.2.1 = nI (tok n f (c.1 1 0)).2.1 from by rw [hpl]⟩, fun e => absurd e (by omega)⟩)⟩
  · skip
    refine RY_of (y2 := (-1, q, rf, tp, gp)) (c2 := wr (tok n f (c.1 1 0)) c) (by unfold tkAr; rw [L_num hk 0 2, if_neg w1, if_pos rfl]) (by unfold a13; rw [if_neg w1]) ?_
    exact Or.inl ⟨rfl, rfl, hRA.1, hRV⟩
theorem sim_14 (hn : n < 65536) (hf : ∀ k, k < n → f k < 256) (hA : AI c) (hJ : AJ n c) (hR : RCl c q rf tp gp) (h0 : (c.1 2 0) = 0) (hs : (c.1 0 0) = 14) (hk : TKR n f (c.1 1 0) k) : RY (tok n f (c.1 1 0)) c (stT (tok n f (c.1 1 0)) c) (tkCo n f k q rf tp gp) := by
  rw [stT_14 _ hs]
  have ha : (c.1 1 0) ≤ n := hJ.1.1
  have hle := lx_le n f ha
  obtain ⟨hRA, hRG, hRV, hRR⟩ := hR
  rw [hs] at hRG hRR
  have hQ5 : Q5c c 14 := by have := hA.2.2.2.2.1; unfold Q5 at this; rw [hs] at this; exact this
  have hkd := L_kd hk
  have hpl := L_pl hk

  by_cases w1 : fre (tok n f (c.1 1 0))
  · skip
    refine RY_of (y2 := (nI 15, q, upd (upd (upd rf 11 1) 12 0) 13 (nI k.2.2.1), tp, gp)) (c2 := gt (tok n f (c.1 1 0)) (alk ((xN (xN (xN c.1 14 (0) (1)) 15 (0) (0)) 16 (0) ((tok n f (c.1 1 0)).2.1)), (xL c.2.1 4 (0) ((tok n f (c.1 1 0)).2.2.2.1)), c.2.2) 0 (c.1 8 0) (acl c) (tok n f (c.1 1 0)).2.1) 15) (by unfold tkCo; rw [if_neg (fr_1 hn hf ha hk w1)]; rfl) (by unfold a14; rw [if_pos w1]) ?_
    exact Or.inr ⟨rfl, RCl_gt (tok n f (c.1 1 0)) 15 (show RA (alk ((xN (xN (xN c.1 14 (0) (1)) 15 (0) (0)) 16 (0) ((tok n f (c.1 1 0)).2.1)), (xL c.2.1 4 (0) ((tok n f (c.1 1 0)).2.2.2.1)), c.2.2) 0 (c.1 8 0) (acl c) (tok n f (c.1 1 0)).2.1) (q) (tp) from hRA) (show RG (alk ((xN (xN (xN c.1 14 (0) (1)) 15 (0) (0)) 16 (0) ((tok n f (c.1 1 0)).2.1)), (xL c.2.1 4 (0) ((tok n f (c.1 1 0)).2.2.2.1)), c.2.2) 0 (c.1 8 0) (acl c) (tok n f (c.1 1 0)).2.1) (gp) 15 from (show RG c gp 15 from RG_w hRG (by omega))) hRV (show RR (alk ((xN (xN (xN c.1 14 (0) (1)) 15 (0) (0)) 16 (0) ((tok n f (c.1 1 0)).2.1)), (xL c.2.1 4 (0) ((tok n f (c.1 1 0)).2.2.2.1)), c.2.2) 0 (c.1 8 0) (acl c) (tok n f (c.1 1 0)).2.1) (upd (upd (upd rf 11 1) 12 0) 13 (nI k.2.2.1)) 15 from ⟨hRR.1, hRR.2.1, hRR.2.2.1, fun _ => hRR.2.2.2.1 (by omega), fun _ => hRR.2.2.2.2.1 (by omega), fun e => absurd e (by omega), fun _ => hRR.2.2.2.2.2.2.1 (by omega), fun e => absurd e (by omega), fun _ => ⟨rfl, rfl, show nI k.2.2.1 = nI (tok n f (c.1 1 0)).2.1 from by rw [hpl]⟩, fun e => absurd e (by omega)⟩)⟩
  · skip
    refine RY_of (y2 := (-1, q, rf, tp, gp)) (c2 := wr (tok n f (c.1 1 0)) c) (by unfold tkCo; rw [if_pos (fr_0 hn hf ha hk w1)]) (by unfold a14; rw [if_neg w1]) ?_
    exact Or.inl ⟨rfl, rfl, hRA.1, hRV⟩
theorem sim_15 (hn : n < 65536) (hf : ∀ k, k < n → f k < 256) (hA : AI c) (hJ : AJ n c) (hR : RCl c q rf tp gp) (h0 : (c.1 2 0) = 0) (hs : (c.1 0 0) = 15) (hk : TKR n f (c.1 1 0) k) : RY (tok n f (c.1 1 0)) c (stT (tok n f (c.1 1 0)) c) (tkOp n f k q rf tp gp) := by
  rw [stT_15 _ hs]
  have ha : (c.1 1 0) ≤ n := hJ.1.1
  have hle := lx_le n f ha
  obtain ⟨hRA, hRG, hRV, hRR⟩ := hR
  rw [hs] at hRG hRR
  have hQ5 : Q5c c 15 := by have := hA.2.2.2.2.1; unfold Q5 at this; rw [hs] at this; exact this
  have hkd := L_kd hk
  have hpl := L_pl hk

  by_cases w1 : (tok n f (c.1 1 0)).1 = 3 ∧ (tok n f (c.1 1 0)).2.2.2.1 = jS 11
  · have eo : opF n f k = 0 := by unfold opF; rw [if_neg (fun e => (L_isw0 hn hf ha hk (j := 11) (by decide)).mp e w1)]
    refine RY_of (y2 := (nI 16, q, upd rf 14 0, tp, gp)) (c2 := gt (tok n f (c.1 1 0)) ((xN c.1 17 (0) (0)), c.2.1, c.2.2) 16) (by unfold tkOp; rw [eo, if_neg (by decide)]; rfl) (by unfold a15; rw [if_pos w1]) ?_
    exact Or.inr ⟨rfl, RCl_gt (tok n f (c.1 1 0)) 16 (show RA ((xN c.1 17 (0) (0)), c.2.1, c.2.2) (q) (tp) from hRA) (show RG ((xN c.1 17 (0) (0)), c.2.1, c.2.2) (gp) 16 from (show RG c gp 16 from RG_w hRG (by omega))) hRV (show RR ((xN c.1 17 (0) (0)), c.2.1, c.2.2) (upd rf 14 0) 16 from ⟨hRR.1, hRR.2.1, hRR.2.2.1, fun _ => hRR.2.2.2.1 (by omega), fun _ => hRR.2.2.2.2.1 (by omega), fun e => absurd e (by omega), fun _ => hRR.2.2.2.2.2.2.1 (by omega), fun e => absurd e (by omega), fun _ => hRR.2.2.2.2.2.2.2.2.1 (by omega), fun _ => rfl⟩)⟩
  · by_cases w2 : (tok n f (c.1 1 0)).1 = 3 ∧ (tok n f (c.1 1 0)).2.2.2.1 = jS 12
    · have eo : opF n f k = 1 := by unfold opF; rw [if_pos ((L_isw0 hn hf ha hk (j := 11) (by decide)).mpr w1), if_neg (fun e => (L_isw0 hn hf ha hk (j := 12) (by decide)).mp e w2)]
      refine RY_of (y2 := (nI 16, q, upd rf 14 1, tp, gp)) (c2 := gt (tok n f (c.1 1 0)) ((xN c.1 17 (0) (1)), c.2.1, c.2.2) 16) (by unfold tkOp; rw [eo, if_neg (by decide)]; rfl) (by unfold a15; rw [if_neg w1, if_pos w2]) ?_
      exact Or.inr ⟨rfl, RCl_gt (tok n f (c.1 1 0)) 16 (show RA ((xN c.1 17 (0) (1)), c.2.1, c.2.2) (q) (tp) from hRA) (show RG ((xN c.1 17 (0) (1)), c.2.1, c.2.2) (gp) 16 from (show RG c gp 16 from RG_w hRG (by omega))) hRV (show RR ((xN c.1 17 (0) (1)), c.2.1, c.2.2) (upd rf 14 1) 16 from ⟨hRR.1, hRR.2.1, hRR.2.2.1, fun _ => hRR.2.2.2.1 (by omega), fun _ => hRR.2.2.2.2.1 (by omega), fun e => absurd e (by omega), fun _ => hRR.2.2.2.2.2.2.1 (by omega), fun e => absurd e (by omega), fun _ => hRR.2.2.2.2.2.2.2.2.1 (by omega), fun _ => rfl⟩)⟩
    · by_cases w3 : (tok n f (c.1 1 0)).1 = 3 ∧ (tok n f (c.1 1 0)).2.2.2.1 = jS 13
      · have eo : opF n f k = 2 := by unfold opF; rw [if_pos ((L_isw0 hn hf ha hk (j := 11) (by decide)).mpr w1), if_pos ((L_isw0 hn hf ha hk (j := 12) (by decide)).mpr w2), if_neg (fun e => (L_isw0 hn hf ha hk (j := 13) (by decide)).mp e w3)]
        refine RY_of (y2 := (nI 16, q, upd rf 14 2, tp, gp)) (c2 := gt (tok n f (c.1 1 0)) ((xN c.1 17 (0) (2)), c.2.1, c.2.2) 16) (by unfold tkOp; rw [eo, if_neg (by decide)]; rfl) (by unfold a15; rw [if_neg w1, if_neg w2, if_pos w3]) ?_
        exact Or.inr ⟨rfl, RCl_gt (tok n f (c.1 1 0)) 16 (show RA ((xN c.1 17 (0) (2)), c.2.1, c.2.2) (q) (tp) from hRA) (show RG ((xN c.1 17 (0) (2)), c.2.1, c.2.2) (gp) 16 from (show RG c gp 16 from RG_w hRG (by omega))) hRV (show RR ((xN c.1 17 (0) (2)), c.2.1, c.2.2) (upd rf 14 2) 16 from ⟨hRR.1, hRR.2.1, hRR.2.2.1, fun _ => hRR.2.2.2.1 (by omega), fun _ => hRR.2.2.2.2.1 (by omega), fun e => absurd e (by omega), fun _ => hRR.2.2.2.2.2.2.1 (by omega), fun e => absurd e (by omega), fun _ => hRR.2.2.2.2.2.2.2.2.1 (by omega), fun _ => rfl⟩)⟩
      · have eo : opF n f k = -1 := by unfold opF; rw [if_pos ((L_isw0 hn hf ha hk (j := 11) (by decide)).mpr w1), if_pos ((L_isw0 hn hf ha hk (j := 12) (by decide)).mpr w2), if_pos ((L_isw0 hn hf ha hk (j := 13) (by decide)).mpr w3)]
        refine RY_of (y2 := (-1, q, upd rf 14 (-1), tp, gp)) (c2 := wr (tok n f (c.1 1 0)) c) (by unfold tkOp; rw [eo, if_pos rfl]) (by unfold a15; rw [if_neg w1, if_neg w2, if_neg w3]) ?_
        exact Or.inl ⟨rfl, rfl, hRA.1, hRV⟩
theorem sim_17 (hn : n < 65536) (hf : ∀ k, k < n → f k < 256) (hA : AI c) (hJ : AJ n c) (hR : RCl c q rf tp gp) (h0 : (c.1 2 0) = 0) (hs : (c.1 0 0) = 17) (hk : TKR n f (c.1 1 0) k) : RY (tok n f (c.1 1 0)) c (stT (tok n f (c.1 1 0)) c) (tkTC n f k q rf tp gp) := by
  rw [stT_17 _ hs]
  have ha : (c.1 1 0) ≤ n := hJ.1.1
  have hle := lx_le n f ha
  obtain ⟨hRA, hRG, hRV, hRR⟩ := hR
  rw [hs] at hRG hRR
  have hQ5 : Q5c c 17 := by have := hA.2.2.2.2.1; unfold Q5 at this; rw [hs] at this; exact this
  have hkd := L_kd hk
  have hpl := L_pl hk

  obtain ⟨h10, hcl⟩ := hRR.2.2.2.2.2.2.2.1 rfl
  have hno := hJ.1.2.2.1
  have e1 : rf 10 - 1 = nI ((c.1 13 0) - 1) := by rw [h10, show (c.1 13 0) = ((c.1 13 0) - 1) + 1 by omega, nI_pred, Nat.add_sub_cancel]
  by_cases k2 : (tok n f (c.1 1 0)).1 = 2
  · by_cases z : 0 < (c.1 13 0) - 1
    · skip
      refine RY_of (y2 := (nI 17, q, upd rf 10 (nI ((c.1 13 0) - 1)), tp, gp)) (c2 := gt (tok n f (c.1 1 0)) ((xN c.1 13 (0) ((c.1 13 0) - 1)), c.2.1, c.2.2) 17) (by unfold tkTC; rw [if_neg (ik1 (hkd.trans k2)), e1, if_pos (show (0 : Int32) < nI ((c.1 13 0) - 1) from nI_lt (a := 0) z (by omega))]; rfl) (by unfold a17; rw [if_pos k2, if_pos z]) ?_
      exact Or.inr ⟨rfl, RCl_gt (tok n f (c.1 1 0)) 17 (show RA ((xN c.1 13 (0) ((c.1 13 0) - 1)), c.2.1, c.2.2) (q) (tp) from hRA) (show RG ((xN c.1 13 (0) ((c.1 13 0) - 1)), c.2.1, c.2.2) (gp) 17 from (show RG c gp 17 from RG_w hRG (by omega))) hRV (show RR ((xN c.1 13 (0) ((c.1 13 0) - 1)), c.2.1, c.2.2) (upd rf 10 (nI ((c.1 13 0) - 1))) 17 from ⟨hRR.1, hRR.2.1, hRR.2.2.1, fun _ => hRR.2.2.2.1 (by omega), fun _ => hRR.2.2.2.2.1 (by omega), fun e => absurd e (by omega), fun e => absurd e (by omega), fun _ => ⟨rfl, z⟩, fun e => absurd e (by omega), fun e => absurd e (by omega)⟩)⟩
    · skip
      refine RY_of (y2 := (nI 9, q, upd rf 10 (nI ((c.1 13 0) - 1)), tp, gp)) (c2 := gt (tok n f (c.1 1 0)) ((xN c.1 13 (0) ((c.1 13 0) - 1)), c.2.1, c.2.2) 9) (by unfold tkTC; rw [if_neg (ik1 (hkd.trans k2)), e1, if_neg (show ¬ (0 : Int32) < nI ((c.1 13 0) - 1) from nI_nlt (a := 0) (by omega) (by decide))]; rfl) (by unfold a17; rw [if_pos k2, if_neg z]) ?_
      exact Or.inr ⟨rfl, RCl_gt (tok n f (c.1 1 0)) 9 (show RA ((xN c.1 13 (0) ((c.1 13 0) - 1)), c.2.1, c.2.2) (q) (tp) from hRA) (show RG ((xN c.1 13 (0) ((c.1 13 0) - 1)), c.2.1, c.2.2) (gp) 9 from (show RG c gp 9 from RG_w hRG (by omega))) hRV (show RR ((xN c.1 13 (0) ((c.1 13 0) - 1)), c.2.1, c.2.2) (upd rf 10 (nI ((c.1 13 0) - 1))) 9 from ⟨hRR.1, hRR.2.1, hRR.2.2.1, fun _ => hRR.2.2.2.1 (by omega), fun _ => hRR.2.2.2.2.1 (by omega), fun e => absurd e (by omega), fun e => absurd e (by omega), fun e => absurd e (by omega), fun e => absurd e (by omega), fun e => absurd e (by omega)⟩)⟩
  · have k2n : ¬ k.2.1 = 2 := fun e => k2 (hkd.symm.trans e)
    refine RY_of (y2 := (-1, q, rf, tp, gp)) (c2 := wr (tok n f (c.1 1 0)) c) (by unfold tkTC; rw [if_pos (ik0 k2n)]) (by unfold a17; rw [if_neg k2]) ?_
    exact Or.inl ⟨rfl, rfl, hRA.1, hRV⟩
end Sim
