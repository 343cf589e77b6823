/-! READER: readInto, whole -/
def RXF (c : aN) (q : aP) (rf tp gp : Nat → Int32) : Prop := PI q ∧ RV tp gp ∧ rf 4 = nI (c.1 2 0) ∧ rf 5 = (if (c.1 2 0) = 0 then -1 else nI (c.1 3 0)) ∧ ((c.1 2 0) = 0 → PC c q ∧ ∀ k, k < (c.1 4 0) → q.2.2 6 k = 0)
section ModR7
variable {G : aG} {σ σ0 τ : aS} {K : Option Value → aS → Prop} {r b p p0 cap n : Nat} {f : Nat → Nat} {k k' : aT} {q q' : aP} {rf rf' tp tp' gp gp' : Nat → Int32} {c : aN}
theorem rs_in (hR : RO σ r p0 rf tp gp) (hT : TO σ (r + 1) b k) (hP : PO σ p q) (hd : p + 11 ≤ r) : a_upd σ r (.inr (4, [.ref (r + 1), .ref (r + 2), .ref (r + 3), .ref p, .int (rf 4), .int (rf 5), .int (rf 6), .int (rf 7), .int (rf 8), .int (rf 9), .int (rf 10), .int (rf 11), .int (rf 12), .int (rf 13), .int (rf 14)])) = rs σ r b p k q rf tp gp := by
  obtain ⟨h0, h1, h2, h3, h4, h5, h6, h7, h8, h9, h10, -⟩ := hP
  refine aS_ext rfl rfl fun a => ?_
  dsimp only [rs, a_upd]
  by_cases e0 : a = r
  · rw [if_pos e0, if_pos e0]
  · rw [if_neg e0, if_neg e0]
    by_cases e1 : a = r + 1
    · rw [if_pos e1, e1]; exact hT
    · rw [if_neg e1]
      by_cases e2 : a = r + 2
      · rw [if_pos e2, e2]; exact hR.2.1
      · rw [if_neg e2]
        by_cases e3 : a = r + 3
        · rw [if_pos e3, e3]; exact hR.2.2
        · rw [if_neg e3]
          by_cases ha : p ≤ a ∧ a < p + 11
          · rw [if_pos ha]
            obtain ⟨i, hi, rfl⟩ : ∃ i, i < 11 ∧ a = p + i := ⟨a - p, by omega, by omega⟩
            rw [show p + i - p = i by omega]
            match i, hi with
            | 0, _ => exact h0
            | 1, _ => exact h1
            | 2, _ => exact h2
            | 3, _ => exact h3
            | 4, _ => exact h4
            | 5, _ => exact h5
            | 6, _ => exact h6
            | 7, _ => exact h7
            | 8, _ => exact h8
            | 9, _ => exact h9
            | 10, _ => exact h10
          · rw [if_neg ha]
set_option maxHeartbeats 1000000 in
set_option maxRecDepth 100000 in
theorem sp_R_begin (hR : RO σ r p0 rf tp gp) (hT : TO σ (r + 1) b k) (hP : PO σ p q) (hd : p + 11 ≤ r) (hK : K none (rs σ r b p (0, 0, 0, 0, 0) ((0, 0, 0), q.2) (upd (upd rf 4 0) 5 (-1)) tp gp)) : a_C G m_R_begin 1 20 [.ref r, .ref p] σ K := by
  refine a_enter rfl (Nat.le_of_ble_eq_true rfl) ?_
  refine a_aload_n d_R_begin_0 rfl rfl ?_
  refine a_aload_n d_R_begin_1 rfl rfl ?_
  apply a_putfield d_R_begin_2 p_R_29
  · exact hR.1
  · first | rfl | exact Or.inl ⟨_, rfl⟩ | simp [narrow]
  · first | rfl | decide
  · exact Nat.le_of_ble_eq_true rfl
  rw [show (List.set [.ref (r + 1), .ref (r + 2), .ref (r + 3), .ref p0, .int (rf 4), .int (rf 5), .int (rf 6), .int (rf 7), .int (rf 8), .int (rf 9), .int (rf 10), .int (rf 11), .int (rf 12), .int (rf 13), .int (rf 14)] 3 (Value.ref p)) = [.ref (r + 1), .ref (r + 2), .ref (r + 3), .ref p, .int (rf 4), .int (rf 5), .int (rf 6), .int (rf 7), .int (rf 8), .int (rf 9), .int (rf 10), .int (rf 11), .int (rf 12), .int (rf 13), .int (rf 14)] from rfl, rs_in hR hT hP hd]
  refine a_aload_n d_R_begin_5 rfl rfl ?_
  apply a_getfield d_R_begin_6 f_R_29
  · first | exact rsR | exact rsT | exact rsTp | exact rsGp | exact rsP0 hd
  · rfl
  apply a_callV (ci := 2) 0 0 [] _ d_R_begin_9 l_R_68 ⟨im_P_clear, se_P_clear⟩ rfl rfl rfl rfl (Nat.le_of_ble_eq_true rfl) ⟨Nat.le_of_ble_eq_true rfl, Nat.le_of_ble_eq_true rfl⟩
  · (first | exact rsR | exact rsT | exact rsTp | exact rsGp | exact rsP0 hd)
  refine sp_P_clear (rsP hd hP.2.2.2.2.2.2.2.2.2.2.2) (fun τ hf2 hP2 => ?_)
  obtain rfl := rs_P hd hf2 hP2
  refine a_aload_n d_R_begin_12 rfl rfl ?_
  apply a_getfield d_R_begin_13 f_R_14
  · first | exact rsR | exact rsT | exact rsTp | exact rsGp | exact rsP0 hd
  · rfl
  apply a_callV (ci := 5) 0 0 [] _ d_R_begin_16 l_R_71 ⟨im_T_restart, se_T_restart⟩ rfl rfl rfl rfl (Nat.le_of_ble_eq_true rfl) ⟨Nat.le_of_ble_eq_true rfl, Nat.le_of_ble_eq_true rfl⟩
  · (first | exact rsR | exact rsT | exact rsTp | exact rsGp | exact rsP0 hd)
  refine sp_T_restart rsT (fun τ hf2 hT2 => ?_)
  obtain rfl := rs_T hf2 hT2
  refine a_aload_n d_R_begin_19 rfl rfl ?_
  refine a_iconst (v := 0) d_R_begin_20 (by decide) ?_
  refine a_putR (upd rf 4 0) d_R_begin_21 p_R_33 rfl rfl rfl (by decide) ?_
  refine a_aload_n d_R_begin_24 rfl rfl ?_
  refine a_iconst (v := (-1)) d_R_begin_25 (by decide) ?_
  refine a_putR (upd (upd rf 4 0) 5 (-1)) d_R_begin_26 p_R_37 rfl rfl rfl (by decide) ?_
  exact a_return d_R_begin_29 rfl hK

theorem lkK_bad (w : Int32) {L : (Nat → Int32) × (Nat → Int32) × (Nat → Int32)} (h : ¬ L.2.2 4 = 0) : ∀ m k, lkK n f q tp gp w m k L = L
  | 0, _ => rfl
  | m + 1, k => by rw [lkK, if_neg h]
theorem RCl_0 (hq : PI q) (hV : RV tp gp) : RCl aC0 ((0, 0, 0), q.2) (upd (upd rf 4 0) 5 (-1)) tp gp := by
  refine ⟨⟨PI_keep hq (by decide) (by decide) rfl rfl, rfl, fun _ h => absurd h (by simp [aC0]), fun _ h => absurd h (by simp [aC0]), fun _ h => absurd h (by simp [aC0]), fun _ h => absurd h (by simp [aC0])⟩, fun _ h => absurd h (by simp [aC0]), hV, show RR aC0 _ 1 from ⟨rfl, fun _ => rfl, fun e => absurd rfl e, fun e => absurd e (by omega), fun e => absurd e (by omega), fun e => absurd e (by omega), fun e => absurd e (by omega), fun e => absurd e (by omega), fun e => absurd e (by omega), fun e => absurd e (by omega)⟩⟩
/-- the rows behind the links -/
theorem PC_of (hR : RD n f c q tp gp) {d : aN} {L : (Nat → Int32) × (Nat → Int32) × (Nat → Int32)} (h : LR c d L.1 L.2.2) (hg : LGo c d L.2.1 (c.1 7 0)) (h0 : d.1 2 0 = 0) : PC d (lq q L.1 L.2.1) := by
  obtain ⟨hn, hf, hRA, hA, hJ, hE1, hE2, hE3, hM, hG⟩ := id hR
  obtain ⟨hK, h1, -, -⟩ := h
  obtain ⟨-, -, hS⟩ := h1 h0
  have k := hK.1
  have e4 : d.1 4 = c.1 4 := k 4 (by decide) (by decide) (by decide) (by decide)
  have e5 : d.1 5 = c.1 5 := k 5 (by decide) (by decide) (by decide) (by decide)
  have e6 : d.1 6 = c.1 6 := k 6 (by decide) (by decide) (by decide) (by decide)
  have e7 : d.1 7 = c.1 7 := k 7 (by decide) (by decide) (by decide) (by decide)
  have e8 : d.1 8 = c.1 8 := k 8 (by decide) (by decide) (by decide) (by decide)
  have e20 : d.1 20 = c.1 20 := k 20 (by decide) (by decide) (by decide) (by decide)
  have e21 : d.1 21 = c.1 21 := k 21 (by decide) (by decide) (by decide) (by decide)
  have e22 : d.1 22 = c.1 22 := k 22 (by decide) (by decide) (by decide) (by decide)
  have e23 : d.1 23 = c.1 23 := k 23 (by decide) (by decide) (by decide) (by decide)
  have e24 : d.1 24 = c.1 24 := k 24 (by decide) (by decide) (by decide) (by decide)
  have e25 : d.1 25 = c.1 25 := k 25 (by decide) (by decide) (by decide) (by decide)
  have e26 : d.1 26 = c.1 26 := k 26 (by decide) (by decide) (by decide) (by decide)
  have e27 : d.1 27 = c.1 27 := k 27 (by decide) (by decide) (by decide) (by decide)
  have e28 : d.1 28 = c.1 28 := k 28 (by decide) (by decide) (by decide) (by decide)
  have e29 : d.1 29 = c.1 29 := k 29 (by decide) (by decide) (by decide) (by decide)
  have e30 : d.1 30 = c.1 30 := k 30 (by decide) (by decide) (by decide) (by decide)
  have e31 : d.1 31 = c.1 31 := k 31 (by decide) (by decide) (by decide) (by decide)
  have e32' : d.1 32 = c.1 32 := k 32 (by decide) (by decide) (by decide) (by decide)
  have e33 : d.1 33 = c.1 33 := k 33 (by decide) (by decide) (by decide) (by decide)
  have eR : ∀ r, rwR d r = rwR c r := fun r => by unfold rwR; rw [e23, e24]
  have eW : ∀ r, rwW d r = rwW c r := fun r => by unfold rwW; rw [e29, e30]
  unfold PC
  rw [e4, e5, e6, e7, e8, e20, e21, e22, e25, e26, e27, e28, e31, e32', e33, hK.2.1]
  refine ⟨hRA.1, hRA.2.1, fun k hk => ⟨(hRA.2.2.1 k hk).1, (hRA.2.2.1 k hk).2.1, (hRA.2.2.1 k hk).2.2.2⟩, hRA.2.2.2.1, fun r hr => ?_, fun r hr => ?_⟩
  · rw [eR]
    have g := hRA.2.2.2.2.1 r hr
    exact ⟨⟨g.1.1, g.1.2.1, fun i hi => ⟨hS.1 r hr i hi, by rw [hK.2.1]; exact (g.1.2.2 i hi).2.1⟩⟩, hg.1 r hr⟩
  · rw [eW]
    have g := hRA.2.2.2.2.2 r hr
    exact ⟨⟨g.1, g.2.1, fun i hi => ⟨hS.2 r hr i hi, by rw [hK.2.1]; exact (g.2.2 i hi).2.1⟩⟩, hg.2 h0 r hr⟩
theorem FA_s {n : Nat} {f : Nat → Nat} {c : aN} (h : AI c) (hFI : FI c) (hb : (c.1 2 0) ≤ 4) : (stp n f c).1 2 0 ≤ 4 ∧ FI (stp n f c) := by
  unfold stp
  by_cases h0 : (c.1 2 0) = 0 ∧ ¬ (c.1 0 0) = 0
  · rw [if_pos h0]
    have hST : (c.1 0 0) ≤ 17 := hFI.resolve_right (fun e => e h0.1)
    rcases SR_stT (c := c) (tok n f (c.1 1 0)) hST h0.2 with ⟨X, s, e1, e2, e3, e4, e5⟩ | e | ⟨e1, e2⟩
    · rw [e1]; exact ⟨by show X.1 2 0 ≤ 4; omega, FI_gt _ e4⟩
    · rw [e]
      refine ⟨?_, FI_wr _⟩
      show (if (tok n f (c.1 1 0)).1 = 5 then 1 else if (tok n f (c.1 1 0)).1 = 0 then 3 else 2) ≤ 4
      split
      · decide
      · split <;> decide
    · exact ⟨by omega, Or.inl (by omega)⟩
  · rw [if_neg h0]; exact ⟨hb, hFI⟩
theorem FA_i {n : Nat} {f : Nat → Nat} : ∀ (m : Nat) {c : aN}, AI c → FI c → (c.1 2 0) ≤ 4 → (ait n f m c).1 2 0 ≤ 4
  | 0, _, _, _, h => h
  | m + 1, _, g, h, hb => FA_i m (AI_stp g) (FA_s g h hb).2 (FA_s g h hb).1
theorem FA_b {n : Nat} {f : Nat → Nat} {c : aN} (h : aRc n f aC0 c) : (c.1 2 0) ≤ 4 := by
  obtain ⟨m, rfl⟩ := h
  exact FA_i m AI_0 (Or.inl (by decide)) (by decide)
set_option maxHeartbeats 1000000 in
set_option maxRecDepth 100000 in
theorem sp_R_readInto (hR : RO σ r p0 rf tp gp) (hT : TO σ (r + 1) b k) (hP : PO σ p q) (hB : BY σ b cap n f) (hd : b + 2 ≤ p ∧ p + 11 ≤ r) (hcap : n ≤ 4096) (hV : RV tp gp) (hK : ∀ (c : aN) (k : aT) (q : aP) (rf tp gp : Nat → Int32), RDN n f c → RXF c q rf tp gp → K (some (.int (nI (c.1 2 0)))) (rs σ r b p k q rf tp gp)) : a_C G m_R_readInto 8 172 [.ref r, .ref p] σ K := by
  refine a_enter rfl (Nat.le_of_ble_eq_true rfl) ?_
  refine a_aload_n d_R_readInto_0 rfl rfl ?_
  refine a_aload_n d_R_readInto_1 rfl rfl ?_
  apply a_callV (ci := 4) 1 20 [_] _ d_R_readInto_2 l_R_43 ⟨im_R_begin, se_R_begin⟩ rfl rfl rfl rfl (Nat.le_of_ble_eq_true rfl) ⟨Nat.le_of_ble_eq_true rfl, Nat.le_of_ble_eq_true rfl⟩
  · (first | exact hR.1 | exact rsR | exact rsT | exact rsTp | exact rsGp | exact rsP0 hd.2)
  refine sp_R_begin hR hT hP hd.2 ?_
  refine a_iconst (v := 1) d_R_readInto_5 (by decide) ?_
  refine a_istore_n d_R_readInto_6 rfl (by decide) ?_
  refine a_iconst (v := 0) d_R_readInto_7 (by decide) ?_
  refine a_istore_n d_R_readInto_8 rfl (by decide) ?_
  refine a_lvk (l := [(0, .ref r), (2, .int (nI (aC0.1 0 0))), (3, .int (nI 0))]) (lp_R_read hd hB hcap ?_ 4097 0 aC0 _ _ _ _ _ (by omega) AI_0 (AJ_0 n) (Or.inl (by decide)) aRc.rf rfl (RCl_0 hP.2.2.2.2.2.2.2.2.2.2.2 hV) rfl (by decide) (Nat.zero_le _)) ⟨rfl, rfl, rfl, trivial⟩
  intro c2 k2 q2 rf2 tp2 gp2 hA2 hJ2 hRc hStop hX
  have hn : n < 65536 := by omega
  have hf : ∀ k, k < n → f k < 256 := fun k hk => hB.lt hk
  have hq2 : PI q2 := by rcases hX with h | h; exact h.2.1; exact h.2.2.1.1
  have hV2 : RV tp2 gp2 := by rcases hX with h | h; exact h.2.2.1; exact h.2.2.2.2.1
  have hFAb := FA_b hRc
  refine a_aload_n d_R_readInto_66 rfl rfl ?_
  refine a_iconst (v := 0) d_R_readInto_67 (by decide) ?_
  apply a_callV (ci := 4) 4 98 [_] _ d_R_readInto_68 l_R_64 ⟨im_R_linkHeads, se_R_linkHeads⟩ rfl rfl rfl rfl (Nat.le_of_ble_eq_true rfl) ⟨Nat.le_of_ble_eq_true rfl, Nat.le_of_ble_eq_true rfl⟩
  · (first | exact rsR | exact rsT | exact rsTp | exact rsGp | exact rsP0 hd.2)
  rw [← lq_self (q := q2)]
  refine sp_R_linkHeads0 hd hB hq2 hV2.1 hV2.2 ?_
  refine a_aload_n d_R_readInto_71 rfl rfl ?_
  refine a_iconst (v := 1) d_R_readInto_72 (by decide) ?_
  apply a_callV (ci := 4) 4 98 [_] _ d_R_readInto_73 l_R_64 ⟨im_R_linkHeads, se_R_linkHeads⟩ rfl rfl rfl rfl (Nat.le_of_ble_eq_true rfl) ⟨Nat.le_of_ble_eq_true rfl, Nat.le_of_ble_eq_true rfl⟩
  · (first | exact rsR | exact rsT | exact rsTp | exact rsGp | exact rsP0 hd.2)
  refine sp_R_linkHeads1 hd hB hq2 hV2.1 hV2.2 ?_
  refine a_aload_n d_R_readInto_76 rfl rfl ?_
  apply a_getfield d_R_readInto_77 f_R_33
  · first | exact rsR | exact rsT | exact rsTp | exact rsGp | exact rsP0 hd.2
  · rfl
  refine a_ireturn d_R_readInto_80 rfl rfl ?_
  rcases hX with ⟨x0, xP, xV, x4, x5⟩ | ⟨x0, xs, xR⟩
  · have hnz : ¬ rf2 4 = 0 := by
      rw [x4]; refine nI_ne0 (by omega) ?_
      have := hFAb; omega
    rw [lkK_bad (q := q2) 0 (L := (q2.2.2 11, q2.2.2 9, rf2)) hnz, lkK_bad (q := q2) 1 (L := (q2.2.2 11, q2.2.2 9, rf2)) hnz]
    show K (some (.int (rf2 4))) (rs σ r b p k2 (lq q2 (q2.2.2 11) (q2.2.2 9)) rf2 tp2 gp2)
    rw [lq_self]
    have hd1 : RDN n f c2 := ⟨c2, hRc, hStop, by unfold aEnd; rw [if_neg x0]⟩
    have := hK c2 k2 q2 rf2 tp2 gp2 hd1 ⟨xP, xV, x4, by rw [if_neg x0]; exact x5, fun z => absurd z x0⟩
    rw [x4]; exact this
  · have hAL := (by obtain ⟨m, e⟩ := hRc; rw [← e]; exact AL_ait m AI_0 AL_0 : AL c2)
    have hAM := (by obtain ⟨m, e⟩ := hRc; rw [← e]; exact AM_ait m AI_0 (AM_0 n f) : AM n f c2)
    have hE3 : E3c c2 0 := by have := hAL.2.2 x0; unfold E3 at this; rw [xs] at this; exact this
    have hAMc : AMc n f c2 0 := by have := hAM x0; rw [xs] at this; exact this
    obtain ⟨xRA, xRG, xRV, xRR⟩ := xR
    rw [xs] at xRG
    have hRD : RD n f c2 q2 tp2 gp2 := ⟨hn, hf, xRA, hA2, hJ2, hAL.1, hAL.2.1, hE3, hAMc, xRG⟩
    have h4 : rf2 4 = 0 := by rw [xRR.1, x0]; rfl
    have h5 : rf2 5 = -1 := xRR.2.1 x0
    have hLA := lk_sim hRD x0 h4 h5
    have eC : hcnt q2 0 = c2.1 4 0 := by rw [hcnt, if_pos rfl, xRA.2.1]
    have eN : hcnt q2 1 = c2.1 6 0 := by rw [hcnt, if_neg (by decide), xRA.2.1]
    rw [eC, eN]
    have eNL : pW c2 (c2.1 7 0) = c2.1 9 0 := by
      unfold pW
      rw [if_neg (by omega)]
      have := hE3.1
      have ef : fin c2 0 = c2.1 7 0 := by unfold fin; simp
      rw [ef] at this
      simp at this
      omega
    have hd1 : RDN n f (lnkF (c2.1 9 0) 0 c2) := ⟨c2, hRc, hStop, by unfold aEnd; rw [if_pos x0]⟩
    unfold LAw at hLA
    rw [eNL] at hLA
    generalize lkK n f q2 tp2 gp2 1 (c2.1 6 0) 0 (lkK n f q2 tp2 gp2 0 (c2.1 4 0) 0 (q2.2.2 11, q2.2.2 9, rf2)) = Lf at hLA ⊢
    have hKx := fun z => hK (lnkF (c2.1 9 0) 0 c2) k2 (lq q2 Lf.1 Lf.2.1) Lf.2.2 tp2 gp2 hd1 z
    obtain ⟨l1, l2⟩ := hLA
    have l1' := l1
    obtain ⟨m1, m2, m3, m4⟩ := l1'
    by_cases z : (lnkF (c2.1 9 0) 0 c2).1 2 0 = 0
    · have m2 := m2 z
      have e4 : (lnkF (c2.1 9 0) 0 c2).1 4 = c2.1 4 := m1.1 4 (by decide) (by decide) (by decide) (by decide)
      have := hKx ⟨xRA.1, xRV, by rw [m2.1, z]; rfl, by rw [if_pos z]; exact m2.2.1, fun _ => ⟨PC_of hRD l1 l2 z, fun k hk => by rw [e4] at hk; exact (xRA.2.2.1 k hk).2.2.1⟩⟩
      rw [z] at this
      show K (some (.int (Lf.2.2 4))) (rs σ r b p k2 (lq q2 Lf.1 Lf.2.1) Lf.2.2 tp2 gp2)
      rw [m2.1]; exact this
    · have m3 := m3 z
      have := hKx ⟨xRA.1, xRV, m3.1, by rw [if_neg z]; exact m3.2, fun y => absurd y z⟩
      show K (some (.int (Lf.2.2 4))) (rs σ r b p k2 (lq q2 Lf.1 Lf.2.1) Lf.2.2 tp2 gp2)
      rw [m3.1]; exact this

end ModR7
