/-! Linking: the class's loops over clauses are the machine's over looks -/
def LS2 (c0 c : aN) (S : Nat → Int32) : Prop := (∀ r, r < (c0.1 5 0) → ∀ i, i < c0.1 28 (r) → S (rwR c0 r * 4 + i) = shF c (c0.1 27 (r) + i)) ∧ (∀ r, r < (c0.1 7 0) → ∀ i, i < c0.1 33 (r) → S (rwW c0 r * 4 + i) = shF c (c0.1 32 (r) + i))
def LR (c0 c : aN) (S rf : Nat → Int32) : Prop := LK0 c0 c ∧ (c.1 2 0 = 0 → rf 4 = 0 ∧ rf 5 = -1 ∧ LS2 c0 c S) ∧ (¬ c.1 2 0 = 0 → rf 4 = nI (c.1 2 0) ∧ rf 5 = nI (c.1 3 0)) ∧ c.1 2 0 < 8
/-- what is known of a policy that has been read, before it is linked -/
def RD (n : Nat) (f : Nat → Nat) (c0 : aN) (q : aP) (tp gp : Nat → Int32) : Prop := n < 65536 ∧ (∀ k, k < n → f k < 256) ∧ RA c0 q tp ∧ AI c0 ∧ AJ n c0 ∧ E1 c0 ∧ E2 c0 ∧ E3c c0 0 ∧ AMc n f c0 0 ∧ RG c0 gp 0
theorem xN_ne {N : Nat → Nat → Nat} {i k v a : Nat} (h : ¬ a = i) : xN N i k v a = N a := if_neg h
section Link2
variable {n : Nat} {f : Nat → Nat} {c0 c : aN} {q : aP} {rf tp gp S Gl : Nat → Int32}
theorem LK0_tLk (hK : LK0 c0 c) {l g call : Nat} (h : tLk c0 l g call) : tLk c l g call := by
  obtain ⟨k1, -, -⟩ := hK
  unfold tLk
  rw [k1 41 (by decide) (by decide) (by decide) (by decide), k1 42 (by decide) (by decide) (by decide) (by decide), k1 43 (by decide) (by decide) (by decide) (by decide), k1 44 (by decide) (by decide) (by decide) (by decide), k1 36 (by decide) (by decide) (by decide) (by decide), k1 40 (by decide) (by decide) (by decide) (by decide)]
  exact h
theorem LK0_lfl (hK : LK0 c0 c) (e p : Nat) : LK0 c0 (lfl c e p) := by
  obtain ⟨k1, k2, k3⟩ := hK
  refine ⟨fun a h1 h2 h3 h4 => ?_, k2, k3⟩
  show xN (xN c.1 2 0 e) 3 0 p a = c0.1 a
  rw [xN_ne h4, xN_ne h3]; exact k1 a h1 h2 h3 h4
theorem LK0_tw (hK : LK0 c0 c) {g j : Nat} (hj : j < 6) (hg : c.1 36 g = 1) : LK0 c0 (xN c.1 37 g j, c.2) := by
  obtain ⟨k1, k2, k3⟩ := hK
  refine ⟨fun a h1 h2 h3 h4 => ?_, k2, fun g2 => ?_⟩
  · show xN c.1 37 g j a = c0.1 a
    rw [xN_ne h1]; exact k1 a h1 h2 h3 h4
  · show (if g2 = g then j else c.1 37 g2) ≤ 7 ∧ (¬ c.1 36 g2 = 1 → (if g2 = g then j else c.1 37 g2) ≤ 2)
    by_cases e : g2 = g
    · rw [if_pos e, e]; exact ⟨by omega, fun z => absurd hg z⟩
    · rw [if_neg e]; exact k3 g2
theorem LR_test (hR : RD n f c0 q tp gp) (h : LR c0 c S rf) (h0 : c.1 2 0 = 0) {x g l call : Nat} (hX : XG c0 x g) (hl : tLk c0 l g call) (hcall : call ≤ 16) (hnm : c0.1 36 (g) = 1 → c0.2.1 2 (g) = nl n f (c0.1 40 (g))) (htp : tp x = nI (c0.1 40 (g))) (hSx : LS2 c0 c S → S x = shF c g) : LR c0 (lnk1 c l) (lkI n f q tp (argN (nI call)) x S rf).1 (lkI n f q tp (argN (nI call)) x S rf).2 := by
  obtain ⟨hn, hf, hRA, hA, hJ, hE1, hE2, hE3, hM, hG⟩ := hR
  obtain ⟨hK, h1, h2, h3⟩ := h
  obtain ⟨h4, h5, hS⟩ := h1 h0
  have e36 : c.1 36 = c0.1 36 := hK.1 36 (by decide) (by decide) (by decide) (by decide)
  have e40 : c.1 40 = c0.1 40 := hK.1 40 (by decide) (by decide) (by decide) (by decide)
  rcases lkI_sim hn hf hRA hA hJ hK (rf := rf) h0 (hSx hS) (LK0_tLk hK hl) (by rw [e40]; exact htp) hcall (by rw [e36, e40, hK.2.1]; exact hnm) with ⟨g0, g1, g2 | ⟨gc, j, gj, g2, g3⟩⟩ | ⟨⟨e, p, g0, g1, g2⟩, g3⟩
  · rw [g2.2, g2.1, g1]; exact ⟨hK, h1, h2, h3⟩
  · rw [g2, g1, g3]
    refine ⟨LK0_tw hK gj gc, fun _ => ⟨h4, h5, fun r hr i hi => ?_, fun r hr i hi => ?_⟩, h2, h3⟩
    · have hx := hX.1 r hr i hi
      by_cases e : c0.1 27 (r) + i = g
      · rw [hx.mpr e, pk_us, e]
        show _ = shp (nI (c.1 36 g)) (nI (if g = g then j else c.1 37 g)) (nI (c.1 38 g)) (nI (c.1 39 g))
        rw [if_pos rfl, gc]
      · rw [pk_un (fun z => e (hx.mp z)), hS.1 r hr i hi]
        show _ = shp (nI (c.1 36 (c0.1 27 (r) + i))) (nI (if c0.1 27 (r) + i = g then j else c.1 37 (c0.1 27 (r) + i))) (nI (c.1 38 (c0.1 27 (r) + i))) (nI (c.1 39 (c0.1 27 (r) + i)))
        rw [if_neg e]; rfl
    · have hx := hX.2 r hr i hi
      by_cases e : c0.1 32 (r) + i = g
      · rw [hx.mpr e, pk_us, e]
        show _ = shp (nI (c.1 36 g)) (nI (if g = g then j else c.1 37 g)) (nI (c.1 38 g)) (nI (c.1 39 g))
        rw [if_pos rfl, gc]
      · rw [pk_un (fun z => e (hx.mp z)), hS.2 r hr i hi]
        show _ = shp (nI (c.1 36 (c0.1 32 (r) + i))) (nI (if c0.1 32 (r) + i = g then j else c.1 37 (c0.1 32 (r) + i))) (nI (c.1 38 (c0.1 32 (r) + i))) (nI (c.1 39 (c0.1 32 (r) + i)))
        rw [if_neg e]; rfl
  · rw [g3, g0]
    refine ⟨LK0_lfl hK e p, fun z => absurd (show e = 0 from z) (by omega), fun _ => ⟨rfl, rfl⟩, g2⟩
theorem lkT_sim0 (hR : RD n f c0 q tp gp) {r : Nat} (hr : r < (c0.1 5 0)) : ∀ (m i : Nat) (c : aN) (S rf : Nat → Int32), i + m = c0.1 28 (r) → LR c0 c S rf → LR c0 (lnkF m (c0.1 27 (r) + i) c) (lkT n f q tp (argN (nI (c0.1 25 (r)))) (rwR c0 r) m i S rf).1 (lkT n f q tp (argN (nI (c0.1 25 (r)))) (rwR c0 r) m i S rf).2
  | 0, i, c, S, rf, _, h => h
  | m + 1, i, c, S, rf, him, h => by
    obtain ⟨hn, hf, hRA, hA, hJ, hE1, hE2, hE3, hM, hG⟩ := id hR
    have g := hA.2.1 r hr
    rw [lnkF, lkT]
    by_cases h0 : c.1 2 0 = 0
    · have h4 := (h.2.1 h0).1
      rw [if_pos h0, if_pos h4]
      have hl := hE3.2.1 r hr i (by omega)
      have h1 := LR_test hR h h0 (XG_R hA hE1 hE2 hr (show i < c0.1 28 (r) by omega)) hl (by have := hJ.2.1 r; omega) (fun e => hM.1 _ (by omega) e) ((hRA.2.2.2.2.1 r hr).1.2.2 i (by omega)).2.2 (fun hS => hS.1 r hr i (by omega))
      have h2 := lkT_sim0 hR hr m (i + 1) _ _ _ (by omega) h1
      rw [show c0.1 27 (r) + (i + 1) = c0.1 27 (r) + i + 1 by omega] at h2
      exact h2
    · have h4 : ¬ rf 4 = 0 := by
        rw [(h.2.2.1 h0).1]; exact nI_ne0 (by omega) (by have := h.2.2.2; omega)
      rw [if_neg h0, if_neg h4]; exact h
theorem lkT_sim1 (hR : RD n f c0 q tp gp) {r : Nat} (hr : r < (c0.1 7 0)) : ∀ (m i : Nat) (c : aN) (S rf : Nat → Int32), i + m = c0.1 33 (r) → LR c0 c S rf → LR c0 (lnkF m (c0.1 32 (r) + i + r) c) (lkT n f q tp (argN (nI (c0.1 31 (r)))) (rwW c0 r) m i S rf).1 (lkT n f q tp (argN (nI (c0.1 31 (r)))) (rwW c0 r) m i S rf).2
  | 0, i, c, S, rf, _, h => h
  | m + 1, i, c, S, rf, him, h => by
    obtain ⟨hn, hf, hRA, hA, hJ, hE1, hE2, hE3, hM, hG⟩ := id hR
    have g := hA.2.2.1 r hr
    rw [lnkF, lkT]
    by_cases h0 : c.1 2 0 = 0
    · have h4 := (h.2.1 h0).1
      rw [if_pos h0, if_pos h4]
      have hl := hE3.2.2.1 r hr i (by omega)
      have h1 := LR_test hR h h0 (XG_W hA hE1 hE2 hr (show i < c0.1 33 (r) by omega)) hl (by have := hJ.2.1 r; omega) (fun e => hM.1 _ (by omega) e) ((hRA.2.2.2.2.2 r hr).2.2 i (by omega)).2.2 (fun hS => hS.2 r hr i (by omega))
      have h2 := lkT_sim1 hR hr m (i + 1) _ _ _ (by omega) h1
      rw [show c0.1 32 (r) + (i + 1) + r = c0.1 32 (r) + i + r + 1 by omega] at h2
      exact h2
    · have h4 : ¬ rf 4 = 0 := by
        rw [(h.2.2.1 h0).1]; exact nI_ne0 (by omega) (by have := h.2.2.2; omega)
      rw [if_neg h0, if_neg h4]; exact h
/-- goals, d ways on -/
def LGo (c0 c : aN) (Gl : Nat → Int32) (d : Nat) : Prop := (∀ r, r < (c0.1 5 0) → Gl (rwR c0 r) = nI (c0.1 26 (r))) ∧ (c.1 2 0 = 0 → ∀ r, r < d → Gl (rwW c0 r) = nI (c.1 34 r))
/-- looks ahead of rule r, of way r -/
def pR (c0 : aN) (r : Nat) : Nat := if r < (c0.1 5 0) then c0.1 27 (r) else eR c0
def pW (c0 : aN) (r : Nat) : Nat := (if r < (c0.1 7 0) then c0.1 32 (r) else (c0.1 8 0)) + r
theorem pR_s (hE : E2 c0) {r : Nat} (h : r < (c0.1 5 0)) : pR c0 (r + 1) = pR c0 r + c0.1 28 (r) := by
  unfold pR
  rw [if_pos h]
  by_cases e : r + 1 < (c0.1 5 0)
  · rw [if_pos e]; exact hE.1 r e
  · rw [if_neg e]; unfold eR; rw [if_neg (by omega), show (c0.1 5 0) - 1 = r by omega]
theorem pW_s (hE : E2 c0) {r : Nat} (h : r < (c0.1 7 0)) : pW c0 (r + 1) = pW c0 r + c0.1 33 (r) + 1 := by
  unfold pW
  rw [if_pos h]
  by_cases e : r + 1 < (c0.1 7 0)
  · rw [if_pos e, hE.2.2.1 r e]; omega
  · rw [if_neg e]
    have := hE.2.2.2.2
    unfold eW at this
    rw [if_neg (by omega), show (c0.1 7 0) - 1 = r by omega] at this
    omega
theorem pR_0 (hE : E2 c0) : pR c0 0 = 0 := by
  unfold pR
  by_cases e : 0 < (c0.1 5 0)
  · rw [if_pos e]; exact hE.2.1 e
  · rw [if_neg e]; unfold eR; rw [if_pos (by omega)]
theorem pRW (hE : E2 c0) : pR c0 (c0.1 5 0) = pW c0 0 := by
  unfold pR pW
  rw [if_neg (by omega)]
  by_cases e : 0 < (c0.1 7 0)
  · rw [if_pos e]; have := hE.2.2.2.1 e; omega
  · rw [if_neg e]; have := hE.2.2.2.2; unfold eW at this; rw [if_pos (by omega)] at this; omega
def LAr (c0 : aN) (r : Nat) (L : (Nat → Int32) × (Nat → Int32) × (Nat → Int32)) : Prop := LR c0 (lnkF (pR c0 r) 0 c0) L.1 L.2.2 ∧ LGo c0 (lnkF (pR c0 r) 0 c0) L.2.1 0
def LAw (c0 : aN) (r : Nat) (L : (Nat → Int32) × (Nat → Int32) × (Nat → Int32)) : Prop := LR c0 (lnkF (pW c0 r) 0 c0) L.1 L.2.2 ∧ LGo c0 (lnkF (pW c0 r) 0 c0) L.2.1 r
theorem lnkF_34 : ∀ (m l : Nat) (c : aN), (∀ i, i < m → ¬ c.1 41 (l + i) = 1 ∧ (c.1 41 (l + i) = 2 ∨ c.1 41 (l + i) = 0)) → (lnkF m l c).1 2 0 = 0 → c.1 2 0 = 0 ∧ (lnkF m l c).1 34 = c.1 34
  | 0, l, c, _, h => ⟨h, rfl⟩
  | m + 1, l, c, hw, h => by
    rw [lnkF] at h ⊢
    by_cases h0 : c.1 2 0 = 0
    · rw [if_pos h0] at h ⊢
      have e41 : (lnk1 c l).1 41 = c.1 41 ∧ (lnk1 c l).1 34 = c.1 34 := by
        have hl := (hw 0 (by omega)).2
        rw [Nat.add_zero] at hl
        unfold lnk1
        rcases hl with e | e
        · rw [if_pos e]
          split <;> exact ⟨rfl, rfl⟩
        · rw [if_neg (by rw [e]; decide), if_pos e]
          split <;> exact ⟨rfl, rfl⟩
      have := lnkF_34 m (l + 1) (lnk1 c l) (fun i hi => by rw [e41.1, show l + 1 + i = l + (i + 1) by omega]; exact hw (i + 1) (by omega)) h
      exact ⟨h0, this.2.trans e41.2⟩
    · rw [if_neg h0] at h; exact absurd h h0
theorem LAr_s (hR : RD n f c0 q tp gp) {r : Nat} (hr : r < (c0.1 5 0)) {L : (Nat → Int32) × (Nat → Int32) × (Nat → Int32)} (h : LAr c0 r L) : LAr c0 (r + 1) (lkC n f q tp gp 0 (rwR c0 r) (c0.1 28 (r)) L) := by
  obtain ⟨hn, hf, hRA, hA, hJ, hE1, hE2, hE3, hM, hG⟩ := id hR
  have h1 := lkT_sim0 hR hr (c0.1 28 (r)) 0 _ _ _ (by omega) h.1
  have ep : pR c0 r = c0.1 27 (r) := by unfold pR; rw [if_pos hr]
  rw [Nat.add_zero] at h1
  have ec : lnkF (pR c0 (r + 1)) 0 c0 = lnkF (c0.1 28 (r)) (c0.1 27 (r)) (lnkF (pR c0 r) 0 c0) := by
    rw [pR_s hE2 hr, lnkF_add, Nat.zero_add, ep]
  unfold LAr lkC
  rw [ec, if_pos rfl, (hRA.2.2.2.2.1 r hr).1.1]
  exact ⟨h1, h.2.1, fun _ r hr => absurd hr (by omega)⟩
theorem LAr_bad {r r2 : Nat} {L : (Nat → Int32) × (Nat → Int32) × (Nat → Int32)} (h : LAr c0 r L) (h4 : ¬ L.2.2 4 = 0) (hle : pR c0 r ≤ pR c0 r2) : LAr c0 r2 L := by
  have hb : ¬ (lnkF (pR c0 r) 0 c0).1 2 0 = 0 := fun e => h4 (h.1.2.1 e).1
  have ec : lnkF (pR c0 r2) 0 c0 = lnkF (pR c0 r) 0 c0 := by
    obtain ⟨j, hj⟩ := Nat.exists_eq_add_of_le hle
    rw [hj, lnkF_add, lnkF_bad hb]
  unfold LAr
  rw [ec]; exact h
theorem LAw_bad {r r2 : Nat} {L : (Nat → Int32) × (Nat → Int32) × (Nat → Int32)} (h : LAw c0 r L) (h4 : ¬ L.2.2 4 = 0) (hle : pW c0 r ≤ pW c0 r2) : LAw c0 r2 L := by
  have hb : ¬ (lnkF (pW c0 r) 0 c0).1 2 0 = 0 := fun e => h4 (h.1.2.1 e).1
  have ec : lnkF (pW c0 r2) 0 c0 = lnkF (pW c0 r) 0 c0 := by
    obtain ⟨j, hj⟩ := Nat.exists_eq_add_of_le hle
    rw [hj, lnkF_add, lnkF_bad hb]
  unfold LAw
  rw [ec]; exact ⟨h.1, h.2.1, fun e => absurd e hb⟩
set_option maxHeartbeats 1000000 in
theorem LAw_s (hR : RD n f c0 q tp gp) {r : Nat} (hr : r < (c0.1 7 0)) {L : (Nat → Int32) × (Nat → Int32) × (Nat → Int32)} (h : LAw c0 r L) : LAw c0 (r + 1) (lkC n f q tp gp 1 (rwW c0 r) (c0.1 33 (r)) L) := by
  obtain ⟨hn, hf, hRA, hA, hJ, hE1, hE2, hE3, hM, hG⟩ := id hR
  have h1 := lkT_sim1 hR hr (c0.1 33 (r)) 0 _ _ _ (by omega) h.1
  have ep : pW c0 r = c0.1 32 (r) + r := by unfold pW; rw [if_pos hr]
  rw [Nat.add_zero] at h1
  have ec : lnkF (pW c0 (r + 1)) 0 c0 = lnkF 1 (c0.1 32 (r) + c0.1 33 (r) + r) (lnkF (c0.1 33 (r)) (c0.1 32 (r) + r) (lnkF (pW c0 r) 0 c0)) := by
    rw [pW_s hE2 hr, Nat.add_assoc, lnkF_add, Nat.zero_add, lnkF_add, ep, show c0.1 32 (r) + r + c0.1 33 (r) = c0.1 32 (r) + c0.1 33 (r) + r by omega]
  have efin : fin c0 0 = (c0.1 7 0) := by unfold fin; simp
  have hgl := hE3.2.2.2.1 r (by omega)
  have hgn := hM.2.1 r (by omega)
  have hgg := hG r hr (Or.inr (by omega))
  have hq8 := (hRA.2.2.2.2.2 r hr).1
  have bq : c0.1 35 (r) < 65536 := by have := hJ.2.1 r; omega
  unfold LAw lkC
  rw [ec, if_neg (show ¬ (1 : Int32) = 0 by decide), hq8]
  generalize hc1 : lnkF (c0.1 33 (r)) (c0.1 32 (r) + r) (lnkF (pW c0 r) 0 c0) = c1 at h1 ⊢
  generalize hT1 : lkT n f q tp (argN (nI (c0.1 31 (r)))) (rwW c0 r) (c0.1 33 (r)) 0 L.1 L.2.2 = T1 at h1 ⊢
  have hgood : c1.1 2 0 = 0 → (lnkF (pW c0 r) 0 c0).1 2 0 = 0 ∧ c1.1 34 = (lnkF (pW c0 r) 0 c0).1 34 := by
    intro z
    rw [← hc1] at z ⊢
    have e41 : (lnkF (pW c0 r) 0 c0).1 41 = c0.1 41 := h.1.1.1 41 (by decide) (by decide) (by decide) (by decide)
    refine lnkF_34 _ _ _ (fun i hi => ?_) z
    have := (hE3.2.2.1 r hr i hi).1
    rw [e41, show c0.1 32 (r) + r + i = c0.1 32 (r) + i + r by omega, this]
    split <;> simp
  by_cases h0 : c1.1 2 0 = 0
  · obtain ⟨h4, h5, hS⟩ := h1.2.1 h0
    rw [if_pos h4, lnkF_1 h0]
    have k1 := h1.1.1
    have e41 : c1.1 41 = c0.1 41 := k1 41 (by decide) (by decide) (by decide) (by decide)
    have e42 : c1.1 42 = c0.1 42 := k1 42 (by decide) (by decide) (by decide) (by decide)
    have e44 : c1.1 44 = c0.1 44 := k1 44 (by decide) (by decide) (by decide) (by decide)
    have e6 : c1.1 6 = c0.1 6 := k1 6 (by decide) (by decide) (by decide) (by decide)
    have ef := fnd_1 hRA hJ.2.2 (nl_G hn hf bq)
    have el : lnk1 c1 (c0.1 32 (r) + c0.1 33 (r) + r) = (match afd (c0.2.1 1) (nl n f (c0.1 35 (r))) 0 (c0.1 6 0) with | none => lfl c1 5 (c0.1 35 (r)) | some x => (xN c1.1 34 r x, c1.2.1, c1.2.2)) := by
      unfold lnk1
      rw [if_neg (by rw [e41, hgl.1]; decide), if_neg (by rw [e41, hgl.1]; decide), e42, hgl.2.1, e44, hgl.2.2, h1.1.2.1, hgn, e6]
      rfl
    rw [el, hgg, nI_clamp (by omega), nm32_e hn hf bq, ef]
    match hm : afd (c0.2.1 1) (nl n f (c0.1 35 (r))) 0 (c0.1 6 0) with
    | none =>
      refine ⟨⟨LK0_lfl h1.1 5 _, fun z => absurd (show 5 = 0 from z) (by decide), fun _ => ?_, show 5 < 8 by decide⟩, ?_, fun z => absurd (show 5 = 0 from z) (by decide)⟩
      · show (if (-1 : Int32) = -1 then upd (upd T1.2 4 5) 5 (nI (c0.1 35 (r))) else T1.2) 4 = nI 5 ∧ (if (-1 : Int32) = -1 then upd (upd T1.2 4 5) 5 (nI (c0.1 35 (r))) else T1.2) 5 = nI (c0.1 35 (r))
        rw [if_pos rfl]; exact ⟨rfl, rfl⟩
      · intro r2 hr2
        have h24 := rwR_24 hA hr2
        show upd L.2.1 (rwW c0 r) (-1) (rwR c0 r2) = _
        rw [pk_un (by unfold rwW; omega)]; exact h.2.1 r2 hr2
    | some j =>
      have hjb := afd_some _ _ _ hm
      have h24 := hA.1.2.1
      have hne : ¬ nI j = -1 := nI_m1 (by omega)
      refine ⟨⟨?_, fun _ => ⟨?_, ?_, ?_⟩, fun z => absurd h0 z, h1.2.2.2⟩, ?_, fun _ r2 hr2 => ?_⟩
      · obtain ⟨k1, k2, k3⟩ := h1.1
        refine ⟨fun a g1 g2 g3 g4 => ?_, k2, k3⟩
        show xN c1.1 34 r j a = c0.1 a
        rw [xN_ne g2]; exact k1 a g1 g2 g3 g4
      · show (if nI j = -1 then upd (upd T1.2 4 5) 5 (nI (c0.1 35 (r))) else T1.2) 4 = 0
        rw [if_neg hne]; exact h4
      · show (if nI j = -1 then upd (upd T1.2 4 5) 5 (nI (c0.1 35 (r))) else T1.2) 5 = -1
        rw [if_neg hne]; exact h5
      · exact hS
      · intro r2 hr2
        have h24 := rwR_24 hA hr2
        show upd L.2.1 (rwW c0 r) (nI j) (rwR c0 r2) = _
        rw [pk_un (by unfold rwW; omega)]; exact h.2.1 r2 hr2
      · show upd L.2.1 (rwW c0 r) (nI j) (rwW c0 r2) = nI (if r2 = r then j else c1.1 34 r2)
        by_cases e : r2 = r
        · rw [if_pos e, e, pk_us]
        · have hne2 : rwW c0 r2 ≠ rwW c0 r := fun z => e (rwW_inj hA hE1 (by omega) hr z)
          rw [if_neg e, pk_un hne2, (hgood h0).2]
          exact h.2.2 (hgood h0).1 r2 (by omega)
  · have h4 : ¬ T1.2 4 = 0 := by
      rw [(h1.2.2.1 h0).1]; exact nI_ne0 (by omega) (by have := h1.2.2.2; omega)
    rw [if_neg h4, lnkF_bad h0]
    exact ⟨h1, h.2.1, fun z => absurd z h0⟩
end Link2
