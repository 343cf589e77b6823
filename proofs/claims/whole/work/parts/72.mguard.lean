/-! THE MODEL's readGuard: its closes -/
/-- registers of the tokens alone have changed -/
def PT (x y : aX) : Prop := y.2.2 = x.2.2 ∧ ∀ k, ¬ k = 19 → ¬ k = 20 → ¬ k = 21 → ¬ k = 24 → ¬ k = 25 → y.1 k = x.1 k
theorem PT.rf {x : aX} : PT x x := ⟨rfl, fun _ _ _ _ _ _ => rfl⟩
theorem PT.trans {x y z : aX} (h : PT x y) (g : PT y z) : PT x z := ⟨g.1.trans h.1, fun k a b c d e => (g.2 k a b c d e).trans (h.2 k a b c d e)⟩
theorem NX.pt {n : Nat} {f : Nat → Nat} {a : Nat} {x y : aX} (h : NX n f a x y) : PT x y := ⟨h.1, h.2.1⟩
theorem PT.mx {n : Nat} {f : Nat → Nat} {x y : aX} (h : PT x y) (g : MX x n f) : MX y n f := ⟨(h.2 18 (by decide) (by decide) (by decide) (by decide) (by decide)).trans g.1, g.2.1, by rw [h.1]; exact g.2.2⟩
theorem PT.mu (x : aX) : PT x (muX x 0) := by
  unfold muX
  rw [if_pos rfl]
  by_cases e : x.1 24 = 0
  · rw [if_pos e]
    exact ⟨rfl, fun k a b c d e => by simp [sI, upd, a, b, c, d, e]⟩
  · rw [if_neg e]; exact PT.rf
/-- the machine's registers alone have changed -/
def SM (c d : aN) : Prop := (∀ a, ¬ a = 0 → ¬ a = 1 → ¬ a = 11 → ¬ a = 12 → ¬ a = 13 → ¬ a = 17 → d.1 a = c.1 a) ∧ d.2 = c.2
theorem SM.rf {c : aN} : SM c c := ⟨fun _ _ _ _ _ _ _ => rfl, rfl⟩
theorem SM.trans {c d e : aN} (h : SM c d) (g : SM d e) : SM c e := ⟨fun a h1 h2 h3 h4 h5 h6 => (g.1 a h1 h2 h3 h4 h5 h6).trans (h.1 a h1 h2 h3 h4 h5 h6), g.2.trans h.2⟩
/-- behind a step of the machine: its token, or it is broken -/
theorem step_LKA {n : Nat} {f : Nat → Nat} {c d : aN} {x y : aX} (hx : LKA n f (c.1 1 0) x) (h0 : (c.1 2 0) = 0) (h1 : 1 ≤ (c.1 0 0)) (hd : stT (tok n f (c.1 1 0)) c = d) (hd0 : d.1 2 0 = 0) (hd1 : 1 ≤ d.1 0 0) (hd2 : d.1 0 0 ≤ 17) (hda : d.1 1 0 = lxE n f (c.1 1 0)) (hy : NX n f (lxE n f (c.1 1 0)) x y) : aRc n f c d ∧ (LKA n f (d.1 1 0) y ∨ (BAD n f c y ∧ MX y n f)) := by
  have hr : aRc n f c d := by
    have := aRc.step (n := n) (f := f) (c := c) aRc.rf
    rw [stp_run h0 h1, hd] at this; exact this
  have hle := lx_le n f hx.2.1
  have hN := NX_LKA hx.1 (b := lxE n f (c.1 1 0)) hle.2.2.2 hx.2.2.1 hx.2.2.2.2.2.2.2.2.2 hy
  refine ⟨hr, ?_⟩
  rw [hda]
  by_cases z : lxK n f (lxE n f (c.1 1 0)) = 5
  · obtain ⟨e1, e2⟩ := hN.2 z
    exact Or.inr ⟨BAD.of (BAD_brk (c := d) hd0 hd1 hd2 (by rw [hda]; exact z) e1 (by rw [hda]; exact e2)) hr, hy.pt.mx hx.1⟩
  · exact Or.inl (hN.1 z)
section ModM8
variable {G : aG} {σ0 : aS} {K : Option Value → aS → Prop} {m n : Nat} {f : Nat → Nat} {x : aX}
set_option maxHeartbeats 1000000 in
set_option maxRecDepth 100000 in
theorem lp_M_closeB {t : Nat} (ht : t < 65536) (h0 : ¬ x.1 24 = 0) (hK : K none (mk σ0 m x)) : ∀ (k i : Nat), i + k = t + 1 → a_J G m_M_readGuard 7 149 395 [(0, .ref m), (2, .int (nI t)), (3, .int (nI i))] [] (mk σ0 m x) K := by
  intro k
  induction k with
  | zero =>
    intro i hi
    refine a_iload_n d_M_readGuard_395 rfl rfl ?_
    refine a_iload_n d_M_readGuard_396 rfl rfl ?_
    refine a_icmp_gt (tgt := 411) d_M_readGuard_397 (by decide) (fun c_1 => ?_) (fun n9 => absurd (nI_lt (by omega) (by omega)) n9)
    exact a_return d_M_readGuard_411 rfl hK
  | succ k ih =>
    intro i hi
    refine a_iload_n d_M_readGuard_395 rfl rfl ?_
    refine a_iload_n d_M_readGuard_396 rfl rfl ?_
    refine a_icmp_gt (tgt := 411) d_M_readGuard_397 (by decide) (fun n9 => absurd n9 (nI_nlt (by omega) (by omega))) (fun c_1 => ?_)
    refine a_aload_n d_M_readGuard_400 rfl rfl ?_
    refine a_iconst (v := 1) d_M_readGuard_401 (by decide) ?_
    apply a_callV (ci := 7) 3 70 [_] _ d_M_readGuard_402 l_M_279 ⟨im_M_expect, se_M_expect⟩ rfl rfl rfl rfl (Nat.le_of_ble_eq_true rfl) ⟨Nat.le_of_ble_eq_true rfl, Nat.le_of_ble_eq_true rfl⟩
    · (exact mk_O)
    refine sp_M_expectB h0 ?_
    refine a_iinc (c0 := 1) d_M_readGuard_405 rfl (by decide) (by decide) ?_
    refine a_goto (tgt := 395) d_M_readGuard_408 (by decide) ?_
    rw [nI_1]
    exact a_lvk (ih (i + 1) (by omega)) ⟨rfl, rfl, rfl, trivial⟩

set_option maxHeartbeats 1000000 in
set_option maxRecDepth 100000 in
theorem lp_M_close {t : Nat} (ht : t < 65536) : ∀ (k i : Nat) (c : aN) {x : aX}, i + k = t + 1 → LKA n f (c.1 1 0) x → (c.1 2 0) = 0 → (c.1 0 0) = (if k = 0 then 9 else 17) → (c.1 13 0) = k → (∀ y, PT x y → ((∃ d, aRc n f c d ∧ d.1 2 0 = 0 ∧ d.1 0 0 = 9 ∧ LKA n f (d.1 1 0) y ∧ SM c d) ∨ (BAD n f c y ∧ MX y n f)) → K none (mk σ0 m y)) → a_J G m_M_readGuard 7 149 395 [(0, .ref m), (2, .int (nI t)), (3, .int (nI i))] [] (mk σ0 m x) K := by
  intro k
  induction k with
  | zero =>
    intro i c x hi hx h0 hs hcl hK
    refine a_iload_n d_M_readGuard_395 rfl rfl ?_
    refine a_iload_n d_M_readGuard_396 rfl rfl ?_
    refine a_icmp_gt (tgt := 411) d_M_readGuard_397 (by decide) (fun c_1 => ?_) (fun n9 => absurd (nI_lt (by omega) (by omega)) n9)
    exact a_return d_M_readGuard_411 rfl (hK x PT.rf (Or.inl ⟨c, aRc.rf, h0, by rw [hs, if_pos rfl], hx, SM.rf⟩))
  | succ k ih =>
    intro i c x hi hx h0 hs hcl hK
    have hle := lx_le n f hx.2.1
    have hs17 : (c.1 0 0) = 17 := by rw [hs, if_neg (by omega)]
    have h17 : stT (tok n f (c.1 1 0)) c = a17 (tok n f (c.1 1 0)) c := stT_17 _ hs17
    refine a_iload_n d_M_readGuard_395 rfl rfl ?_
    refine a_iload_n d_M_readGuard_396 rfl rfl ?_
    refine a_icmp_gt (tgt := 411) d_M_readGuard_397 (by decide) (fun n9 => absurd n9 (nI_nlt (by omega) (by omega))) (fun c_1 => ?_)
    refine a_aload_n d_M_readGuard_400 rfl rfl ?_
    refine a_iconst (v := 1) d_M_readGuard_401 (by decide) ?_
    apply a_callV (ci := 7) 3 70 [_] _ d_M_readGuard_402 l_M_279 ⟨im_M_expect, se_M_expect⟩ rfl rfl rfl rfl (Nat.le_of_ble_eq_true rfl) ⟨Nat.le_of_ble_eq_true rfl, Nat.le_of_ble_eq_true rfl⟩
    · (exact mk_O)
    by_cases k2 : lxK n f (c.1 1 0) = 2
    · have hd : stT (tok n f (c.1 1 0)) c = (gt (tok n f (c.1 1 0)) ((xN c.1 13 (0) ((c.1 13 0) - 1)), c.2.1, c.2.2) (if 0 < (c.1 13 0) - 1 then 17 else 9)) := by rw [h17]; unfold a17; rw [if_pos (show (tok n f (c.1 1 0)).1 = 2 from k2)]
      refine sp_M_expectT hx.1 hx.2.2.2.2.1 hle.2.2.2 hx.2.2.1 ((tk_1 hx).mpr k2) (fun y hy => ?_)
      obtain ⟨hr, hl⟩ := step_LKA hx h0 (by omega) hd h0 (by show 1 ≤ (if 0 < (c.1 13 0) - 1 then 17 else 9); split <;> omega) (by show (if 0 < (c.1 13 0) - 1 then 17 else 9) ≤ 17; split <;> omega) rfl hy
      have hSM : SM c (gt (tok n f (c.1 1 0)) ((xN c.1 13 (0) ((c.1 13 0) - 1)), c.2.1, c.2.2) (if 0 < (c.1 13 0) - 1 then 17 else 9)) := ⟨fun a g1 g2 g3 g4 g5 g6 => by show xN (xN (xN c.1 13 0 ((c.1 13 0) - 1)) 0 0 _) 1 0 _ a = c.1 a; rw [xN_ne g2, xN_ne g1, xN_ne g5], rfl⟩
      refine a_iinc (c0 := 1) d_M_readGuard_405 rfl (by decide) (by decide) ?_
      refine a_goto (tgt := 395) d_M_readGuard_408 (by decide) ?_
      rw [nI_1]
      refine a_lvk (l := [(0, .ref m), (2, .int (nI t)), (3, .int (nI (i + 1)))]) ?_ ⟨rfl, rfl, rfl, trivial⟩
      rcases hl with hl | ⟨hl1, hl2⟩
      · refine ih (i + 1) (gt (tok n f (c.1 1 0)) ((xN c.1 13 (0) ((c.1 13 0) - 1)), c.2.1, c.2.2) (if 0 < (c.1 13 0) - 1 then 17 else 9)) (by omega) hl h0 ?_ (show (c.1 13 0) - 1 = k by omega) (fun z hz hp => hK z (hy.pt.trans hz) ?_)
        · show (if 0 < (c.1 13 0) - 1 then 17 else 9) = (if k = 0 then 9 else 17)
          rw [hcl, Nat.add_sub_cancel]
          by_cases e : k = 0
          · rw [if_pos e, if_neg (by omega)]
          · rw [if_neg e, if_pos (by omega)]
        · rcases hp with ⟨d, q1, q2, q3, q4, q5⟩ | ⟨q1, q2⟩
          · exact Or.inl ⟨d, hr.trans q1, q2, q3, q4, hSM.trans q5⟩
          · exact Or.inr ⟨q1.of hr, q2⟩
      · exact lp_M_closeB ht hl1.ne (hK y hy.pt (Or.inr ⟨hl1, hl2⟩)) k (i + 1) (by omega)
    · have hd : stT (tok n f (c.1 1 0)) c = wr (tok n f (c.1 1 0)) c := by rw [h17]; unfold a17; rw [if_neg (show ¬ (tok n f (c.1 1 0)).1 = 2 from k2)]
      refine sp_M_expectF (fun z => k2 ((tk_1 hx).mp z)) ?_
      refine a_iinc (c0 := 1) d_M_readGuard_405 rfl (by decide) (by decide) ?_
      refine a_goto (tgt := 395) d_M_readGuard_408 (by decide) ?_
      rw [nI_1]
      refine a_lvk (l := [(0, .ref m), (2, .int (nI t)), (3, .int (nI (i + 1)))]) ?_ ⟨rfl, rfl, rfl, trivial⟩
      exact lp_M_closeB ht (mu_ne x) (hK _ (PT.mu x) (Or.inr ⟨BAD_must hx h0 (by omega) hd, (PT.mu x).mx hx.1⟩)) k (i + 1) (by omega)

end ModM8
