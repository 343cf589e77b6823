/-! The steps that build, against the machine -/
section Sim4
variable {n : Nat} {f : Nat → Nat} {c : aN} {q : aP} {rf tp gp : Nat → Int32} {k : aT}
theorem crw_lt (hA : AI c) (hi : ((c.1 10 0) = 0 → 1 ≤ (c.1 5 0)) ∧ (¬ (c.1 10 0) = 0 → 1 ≤ (c.1 7 0))) : crw c < 216 := by
  have g1 := hA.1.1
  have g2 := hA.1.2.1
  unfold crw
  by_cases hw : (c.1 10 0) = 0
  · rw [if_pos hw]
    have h := hA.2.1 ((c.1 5 0) - 1) (by have := hi.1 hw; omega)
    have h2 := hA.1.2.2.1 _ h.1
    unfold rwR; omega
  · rw [if_neg hw]
    have h := hA.2.2.1 ((c.1 7 0) - 1) (by have := hi.2 hw; omega)
    have h2 := hA.1.2.2.2 _ h.1
    unfold rwW; omega
theorem cm_e (h : RA c q tp) (hi : ((c.1 10 0) = 0 → 1 ≤ (c.1 5 0)) ∧ (¬ (c.1 10 0) = 0 → 1 ≤ (c.1 7 0))) : q.2.2 10 (crw c) = nI (acm c) := by
  unfold crw acm
  by_cases hw : (c.1 10 0) = 0
  · rw [if_pos hw, if_pos hw]
    exact (h.2.2.2.2.1 ((c.1 5 0) - 1) (by have := hi.1 hw; omega)).1.2.1
  · rw [if_neg hw, if_neg hw]
    exact (h.2.2.2.2.2 ((c.1 7 0) - 1) (by have := hi.2 hw; omega)).2.1
theorem acm_le (hA : AI c) (hi : ((c.1 10 0) = 0 → 1 ≤ (c.1 5 0)) ∧ (¬ (c.1 10 0) = 0 → 1 ≤ (c.1 7 0))) : acm c ≤ 4 := by
  unfold acm
  by_cases hw : (c.1 10 0) = 0
  · rw [if_pos hw]; exact (hA.2.1 ((c.1 5 0) - 1) (by have := hi.1 hw; omega)).2.2.1
  · rw [if_neg hw]; exact (hA.2.2.1 ((c.1 7 0) - 1) (by have := hi.2 hw; omega)).2.2.1
theorem cat_e (hA : AI c) (h : RA c q tp) (hi : ((c.1 10 0) = 0 → 1 ≤ (c.1 5 0)) ∧ (¬ (c.1 10 0) = 0 → 1 ≤ (c.1 7 0))) : cat q (nI (crw c)) = if acm c < 4 then 1 else 0 := by
  have h1 := crw_lt hA hi
  have h2 := acm_le hA hi
  rw [cat, if_neg (nI_pos (by omega)), if_pos (show nI (crw c) < 216 from nI_lt (b := 216) h1 (by decide)), nI_clamp (by omega), cm_e h hi]
  by_cases z : acm c < 4
  · rw [if_pos z, if_pos (show nI (acm c) < 4 from nI_lt (b := 4) z (by decide))]
  · rw [if_neg z, if_neg (show ¬ nI (acm c) < 4 from nI_nlt (b := 4) (by omega) (by omega))]
theorem RV_tp (h : RV tp gp) {x pl : Nat} (hp : pl < 65536) : RV (upd tp x (nI pl)) gp := ⟨fun y => by
  unfold upd
  split
  · exact ⟨pl, hp, rfl⟩
  · exact h.1 y, h.2⟩
theorem RV_gp (h : RV tp gp) {x pl : Nat} (hp : pl < 65536) : RV tp (upd gp x (nI pl)) := ⟨h.1, fun y => by
  unfold upd
  split
  · exact ⟨pl, hp, rfl⟩
  · exact h.2 y⟩
theorem crw_adc0 {kk cc m : Nat} (hw : (c.1 10 0) = 0) (hk : (c.1 4 0) = kk + 1) (hc : c.1 21 (kk) = cc) : crw (adc c m) = kk * 4 + cc := by
  unfold crw
  rw [adc0_WY hw, if_pos hw, adc0_NR hw, Nat.add_sub_cancel]
  unfold rwR
  rw [adc0_RO hw, adc0_RX hw, if_pos rfl, if_pos rfl, show (c.1 4 0) - 1 = kk by omega, hc]
theorem RR_adc0 {kk cc m : Nat} (hw : (c.1 10 0) = 0) (hk : (c.1 4 0) = kk + 1) (hc : c.1 21 (kk) = cc) (hRR : RR c rf 8) : RR (adc c m) (upd rf 7 (nI (kk * 4 + cc))) 9 := by
  unfold RR
  rw [adc0_FA hw, adc0_FP hw, adc0_WY hw, crw_adc0 hw hk hc]
  exact ⟨hRR.1, hRR.2.1, hRR.2.2.1, fun _ => hRR.2.2.2.1 (by omega), fun _ => rfl, fun e => absurd e (by omega), fun e => absurd e (by omega), fun e => absurd e (by omega), fun e => absurd e (by omega), fun e => absurd e (by omega)⟩
theorem RG_adc0 {m : Nat} (hw : (c.1 10 0) = 0) (h : RG c gp 8) : RG (adc c m) gp 9 := by
  intro r hr e
  rw [adc0_NW hw] at hr e
  have hr' : r < (c.1 7 0) := by omega
  have er : rwW (adc c m) r = rwW c r := by
    unfold rwW
    rw [adc0_WO hw, adc0_WX hw]
  rw [er, adc0_WQ hw]
  exact h r hr' (Or.inr (by omega))
theorem sim_80 (hn : n < 65536) (hf : ∀ k, k < n → f k < 256) (hA : AI c) (hJ : AJ n c) (hR : RCl c q rf tp gp) (h0 : (c.1 2 0) = 0) (hs : (c.1 0 0) = 8) (hk : TKR n f (c.1 1 0) k) (hw : (c.1 10 0) = 0) {kk cc : Nat} (hk1 : (c.1 4 0) = kk + 1) (hc : c.1 21 (kk) = cc) : RY (tok n f (c.1 1 0)) c (stT (tok n f (c.1 1 0)) c) (tkCa0 n f k q rf tp gp kk cc) := by
  rw [stT_8 _ hs]
  have ha : (c.1 1 0) ≤ n := hJ.1.1
  have hle := lx_le n f ha
  obtain ⟨hRA, hRG, hRV, hRR⟩ := hR
  rw [hs] at hRG hRR
  have hQ5 : Q5c c 8 := by have := hA.2.2.2.2.1; unfold Q5 at this; rw [hs] at this; exact this
  have hkd := L_kd hk
  have hpl := L_pl hk

  have hc4 : cc < 4 := by
    unfold Q5c at hQ5
    have := (hQ5.2.2.2.2.2.1 (by omega)).1 hw
    rw [show (c.1 4 0) - 1 = kk by omega, hc] at this; exact this

  by_cases w1 : (tok n f (c.1 1 0)).1 = 3 ∧ (tok n f (c.1 1 0)).2.2.2.1 = jS 17
  · skip
    refine RY_of (y2 := (nI 9, (q.1, q.2.1, updA (updA (updA (updA q.2.2 4 kk (nI (cc + 1))) 8 (kk * 4 + cc) 16) 9 (kk * 4 + cc) (rf 8)) 10 (kk * 4 + cc) 0), upd rf 7 (nI (kk * 4 + cc)), tp, gp)) (c2 := gt (tok n f (c.1 1 0)) (adc c (16)) 9) (by unfold tkCa0; rw [if_neg (fun e => (L_isw0 hn hf ha hk (j := 17) (by decide)).mp e w1)]; rfl) (by unfold a8; rw [if_pos w1]) ?_
    exact Or.inr ⟨rfl, RCl_gt (tok n f (c.1 1 0)) 9 (RA_adc0 (m := 16) hA hRA hw hk1 hc hc4 (by unfold Q5c at hQ5; omega) (hRR.2.2.2.2.2.1 rfl hw)) (RG_adc0 hw hRG) hRV (RR_adc0 hw hk1 hc hRR)⟩
  · by_cases w2 : (tok n f (c.1 1 0)).1 = 4 ∧ 0 ≤ (tok n f (c.1 1 0)).2.2.2.2 ∧ (tok n f (c.1 1 0)).2.2.2.2 ≤ 15
    · obtain ⟨v, hv, ev⟩ := nI_of2 (x := (tok n f (c.1 1 0)).2.2.2.2) (M := 15) (n := 15) rfl (fun g => absurd (Int32.lt_of_le_of_lt w2.2.1 g) (by decide)) w2.2.2
      have e4 := L_nu hk w2.1
      have ec : (tok n f (c.1 1 0)).2.2.2.2.toNatClampNeg = v := by rw [ev, nI_clamp (by omega)]
      refine RY_of (y2 := (nI 9, (q.1, q.2.1, updA (updA (updA (updA q.2.2 4 kk (nI (cc + 1))) 8 (kk * 4 + cc) (nI v)) 9 (kk * 4 + cc) (rf 8)) 10 (kk * 4 + cc) 0), upd rf 7 (nI (kk * 4 + cc)), tp, gp)) (c2 := gt (tok n f (c.1 1 0)) (adc c (v)) 9) (by unfold tkCa0; rw [if_pos ((L_isw0 hn hf ha hk (j := 17) (by decide)).mpr w1), L_num hk 0 15, if_pos w2, if_neg (by decide), e4, ev]; rfl) (by unfold a8; rw [if_neg w1, if_pos w2, ec]) ?_
      exact Or.inr ⟨rfl, RCl_gt (tok n f (c.1 1 0)) 9 (RA_adc0 (m := v) hA hRA hw hk1 hc hc4 (by unfold Q5c at hQ5; omega) (hRR.2.2.2.2.2.1 rfl hw)) (RG_adc0 hw hRG) hRV (RR_adc0 hw hk1 hc hRR)⟩
    · skip
      refine RY_of (y2 := (-1, q, rf, tp, gp)) (c2 := wr (tok n f (c.1 1 0)) c) (by unfold tkCa0; rw [if_pos ((L_isw0 hn hf ha hk (j := 17) (by decide)).mpr w1), L_num hk 0 15, if_neg w2, if_pos rfl]) (by unfold a8; rw [if_neg w1, if_neg w2]) ?_
      exact Or.inl ⟨rfl, rfl, hRA.1, hRV⟩
theorem crw_adc1 {kk cc m : Nat} (hw : ¬ (c.1 10 0) = 0) (hk : (c.1 6 0) = kk + 1) (hc : c.1 22 (kk) = cc) : crw (adc c m) = 24 + kk * 8 + cc := by
  unfold crw
  rw [adc1_WY hw, if_neg hw, adc1_NW hw, Nat.add_sub_cancel]
  unfold rwW
  rw [adc1_WO hw, adc1_WX hw, if_pos rfl, if_pos rfl, show (c.1 6 0) - 1 = kk by omega, hc]
theorem RR_adc1 {kk cc m : Nat} (hw : ¬ (c.1 10 0) = 0) (hk : (c.1 6 0) = kk + 1) (hc : c.1 22 (kk) = cc) (hRR : RR c rf 8) : RR (adc c m) (upd rf 7 (nI (24 + kk * 8 + cc))) 9 := by
  unfold RR
  rw [adc1_FA hw, adc1_FP hw, adc1_WY hw, crw_adc1 hw hk hc]
  exact ⟨hRR.1, hRR.2.1, hRR.2.2.1, fun _ => hRR.2.2.2.1 (by omega), fun _ => rfl, fun e => absurd e (by omega), fun e => absurd e (by omega), fun e => absurd e (by omega), fun e => absurd e (by omega), fun e => absurd e (by omega)⟩
theorem RG_adc1 {m : Nat} (hw : ¬ (c.1 10 0) = 0) (h : RG c gp 8) : RG (adc c m) gp 9 := by
  intro r hr e
  rw [adc1_NW hw] at hr e
  have hr' : r < (c.1 7 0) := by omega
  have er : rwW (adc c m) r = rwW c r := by
    unfold rwW
    rw [adc1_WO hw, adc1_WX hw]
    have en : ¬ r = (c.1 7 0) := by omega
    rw [if_neg en, if_neg en]
  rw [er, adc1_WQ hw]
  exact h r hr' (Or.inr (by omega))
theorem sim_81 (hn : n < 65536) (hf : ∀ k, k < n → f k < 256) (hA : AI c) (hJ : AJ n c) (hR : RCl c q rf tp gp) (h0 : (c.1 2 0) = 0) (hs : (c.1 0 0) = 8) (hk : TKR n f (c.1 1 0) k) (hw : ¬ (c.1 10 0) = 0) {kk cc : Nat} (hk1 : (c.1 6 0) = kk + 1) (hc : c.1 22 (kk) = cc) : RY (tok n f (c.1 1 0)) c (stT (tok n f (c.1 1 0)) c) (tkCa1 n f k q rf tp gp kk cc) := by
  rw [stT_8 _ hs]
  have ha : (c.1 1 0) ≤ n := hJ.1.1
  have hle := lx_le n f ha
  obtain ⟨hRA, hRG, hRV, hRR⟩ := hR
  rw [hs] at hRG hRR
  have hQ5 : Q5c c 8 := by have := hA.2.2.2.2.1; unfold Q5 at this; rw [hs] at this; exact this
  have hkd := L_kd hk
  have hpl := L_pl hk

  have hc4 : cc < 8 := by
    unfold Q5c at hQ5
    have := (hQ5.2.2.2.2.2.1 (by omega)).2 hw
    rw [show (c.1 6 0) - 1 = kk by omega, hc] at this; exact this

  by_cases w1 : (tok n f (c.1 1 0)).1 = 3 ∧ (tok n f (c.1 1 0)).2.2.2.1 = jS 17
  · skip
    refine RY_of (y2 := (nI 9, (q.1, q.2.1, updA (updA (updA (updA q.2.2 4 (6 + kk) (nI (cc + 1))) 8 (24 + kk * 8 + cc) 16) 9 (24 + kk * 8 + cc) (rf 8)) 10 (24 + kk * 8 + cc) 0), upd rf 7 (nI (24 + kk * 8 + cc)), tp, gp)) (c2 := gt (tok n f (c.1 1 0)) (adc c (16)) 9) (by unfold tkCa1; rw [if_neg (fun e => (L_isw0 hn hf ha hk (j := 17) (by decide)).mp e w1)]; rfl) (by unfold a8; rw [if_pos w1]) ?_
    exact Or.inr ⟨rfl, RCl_gt (tok n f (c.1 1 0)) 9 (RA_adc1 (m := 16) hA hRA hw hk1 hc hc4) (RG_adc1 hw hRG) hRV (RR_adc1 hw hk1 hc hRR)⟩
  · by_cases w2 : (tok n f (c.1 1 0)).1 = 4 ∧ 0 ≤ (tok n f (c.1 1 0)).2.2.2.2 ∧ (tok n f (c.1 1 0)).2.2.2.2 ≤ 15
    · obtain ⟨v, hv, ev⟩ := nI_of2 (x := (tok n f (c.1 1 0)).2.2.2.2) (M := 15) (n := 15) rfl (fun g => absurd (Int32.lt_of_le_of_lt w2.2.1 g) (by decide)) w2.2.2
      have e4 := L_nu hk w2.1
      have ec : (tok n f (c.1 1 0)).2.2.2.2.toNatClampNeg = v := by rw [ev, nI_clamp (by omega)]
      refine RY_of (y2 := (nI 9, (q.1, q.2.1, updA (updA (updA (updA q.2.2 4 (6 + kk) (nI (cc + 1))) 8 (24 + kk * 8 + cc) (nI v)) 9 (24 + kk * 8 + cc) (rf 8)) 10 (24 + kk * 8 + cc) 0), upd rf 7 (nI (24 + kk * 8 + cc)), tp, gp)) (c2 := gt (tok n f (c.1 1 0)) (adc c (v)) 9) (by unfold tkCa1; rw [if_pos ((L_isw0 hn hf ha hk (j := 17) (by decide)).mpr w1), L_num hk 0 15, if_pos w2, if_neg (by decide), e4, ev]; rfl) (by unfold a8; rw [if_neg w1, if_pos w2, ec]) ?_
      exact Or.inr ⟨rfl, RCl_gt (tok n f (c.1 1 0)) 9 (RA_adc1 (m := v) hA hRA hw hk1 hc hc4) (RG_adc1 hw hRG) hRV (RR_adc1 hw hk1 hc hRR)⟩
    · skip
      refine RY_of (y2 := (-1, q, rf, tp, gp)) (c2 := wr (tok n f (c.1 1 0)) c) (by unfold tkCa1; rw [if_pos ((L_isw0 hn hf ha hk (j := 17) (by decide)).mpr w1), L_num hk 0 15, if_neg w2, if_pos rfl]) (by unfold a8; rw [if_neg w1, if_neg w2]) ?_
      exact Or.inl ⟨rfl, rfl, hRA.1, hRV⟩
theorem sim_9 (hn : n < 65536) (hf : ∀ k, k < n → f k < 256) (hA : AI c) (hJ : AJ n c) (hR : RCl c q rf tp gp) (h0 : (c.1 2 0) = 0) (hs : (c.1 0 0) = 9) (hk : TKR n f (c.1 1 0) k) : RY (tok n f (c.1 1 0)) c (stT (tok n f (c.1 1 0)) c) (tkTG n f k q rf tp gp (crw c)) := by
  rw [stT_9 _ hs]
  have ha : (c.1 1 0) ≤ n := hJ.1.1
  have hle := lx_le n f ha
  obtain ⟨hRA, hRG, hRV, hRR⟩ := hR
  rw [hs] at hRG hRR
  have hQ5 : Q5c c 9 := by have := hA.2.2.2.2.1; unfold Q5 at this; rw [hs] at this; exact this
  have hkd := L_kd hk
  have hpl := L_pl hk

  have hi : ((c.1 10 0) = 0 → 1 ≤ (c.1 5 0)) ∧ (¬ (c.1 10 0) = 0 → 1 ≤ (c.1 7 0)) := by unfold Q5c at hQ5; omega
  have hc := cat_e hA hRA hi
  have h6 : rf 6 = nI (c.1 10 0) := hRR.2.2.2.1 (by omega)
  have hw01 : (c.1 10 0) = 0 ∨ (c.1 10 0) = 1 := by unfold Q5c at hQ5; omega
  have hnw : (c.1 10 0) = 0 → (c.1 7 0) = 0 := by
    intro hw
    by_cases z : (c.1 7 0) = 0
    · exact z
    · have := (hA.2.2.1 0 (by omega)).1
      unfold Q5c at hQ5; omega
  by_cases k1 : (tok n f (c.1 1 0)).1 = 1 ∧ acm c < 4
  · skip
    refine RY_of (y2 := (nI 11, q, upd rf 9 0, tp, gp)) (c2 := gt (tok n f (c.1 1 0)) ((xN c.1 12 (0) (0)), c.2.1, c.2.2) 11) (by unfold tkTG; rw [if_neg (ik1 (hkd.trans k1.1)), if_neg (by rw [hc, if_pos k1.2]; decide)]; rfl) (by unfold a9; rw [if_pos k1]) ?_
    exact Or.inr ⟨rfl, RCl_gt (tok n f (c.1 1 0)) 11 (show RA ((xN c.1 12 (0) (0)), c.2.1, c.2.2) (q) (tp) from hRA) (show RG ((xN c.1 12 (0) (0)), c.2.1, c.2.2) (gp) 11 from (show RG c gp 11 from RG_w hRG (by omega))) hRV (show RR ((xN c.1 12 (0) (0)), c.2.1, c.2.2) (upd rf 9 0) 11 from ⟨hRR.1, hRR.2.1, hRR.2.2.1, fun _ => hRR.2.2.2.1 (by omega), fun _ => hRR.2.2.2.2.1 (by omega), fun e => absurd e (by omega), fun _ => rfl, fun e => absurd e (by omega), fun e => absurd e (by omega), fun e => absurd e (by omega)⟩)⟩
  · have ey : tkTG n f k q rf tp gp (crw c) = (if rf 6 = 0 then (if (if k.2.1 = 2 then (1 : Int32) else 0) = 0 then (-1, q, rf, tp, gp) else (6, q, rf, tp, gp)) else if frF n f k = 0 then (-1, q, rf, tp, gp) else (10, q, rf, tp, upd gp (crw c) (nI k.2.2.1))) := by
      unfold tkTG
      by_cases k11 : (tok n f (c.1 1 0)).1 = 1
      · rw [if_neg (ik1 (hkd.trans k11)), if_pos (by rw [hc, if_neg (fun e => k1 ⟨k11, e⟩)])]
      · rw [if_pos (ik0 (fun e => k11 (hkd.symm.trans e)))]
    rw [ey]
    by_cases hw : (c.1 10 0) = 0
    · have e6 : rf 6 = 0 := by rw [h6, hw]; rfl
      by_cases k2 : (tok n f (c.1 1 0)).1 = 2
      · refine RY_of (y2 := (nI 6, q, rf, tp, gp)) (c2 := gt (tok n f (c.1 1 0)) c 6) (by rw [if_pos e6, if_neg (ik1 (hkd.trans k2))]; rfl) (by unfold a9; rw [if_neg k1, if_pos hw, if_pos k2]) ?_
        exact Or.inr ⟨rfl, RCl_gt (tok n f (c.1 1 0)) 6 hRA (fun r hr _ => absurd hr (by rw [hnw hw]; omega)) hRV (show RR c rf 6 from ⟨hRR.1, hRR.2.1, hRR.2.2.1, fun _ => hRR.2.2.2.1 (by omega), fun e => absurd e (by omega), fun e => absurd e (by omega), fun e => absurd e (by omega), fun e => absurd e (by omega), fun e => absurd e (by omega), fun e => absurd e (by omega)⟩)⟩
      · refine RY_of (y2 := (-1, q, rf, tp, gp)) (c2 := wr (tok n f (c.1 1 0)) c) (by rw [if_pos e6, if_pos (ik0 (fun e => k2 (hkd.symm.trans e)))]) (by unfold a9; rw [if_neg k1, if_pos hw, if_neg k2]) ?_
        exact Or.inl ⟨rfl, rfl, hRA.1, hRV⟩
    · have e6 : ¬ rf 6 = 0 := by rw [h6]; exact nI_ne0 (by omega) (by omega)
      by_cases w1 : fre (tok n f (c.1 1 0))
      · refine RY_of (y2 := (nI 10, q, rf, tp, upd gp (crw c) (nI (tok n f (c.1 1 0)).2.1))) (c2 := gt (tok n f (c.1 1 0)) (alk ((xN c.1 35 ((c.1 7 0) - 1) ((tok n f (c.1 1 0)).2.1)), (xL c.2.1 3 ((c.1 7 0) - 1) ((tok n f (c.1 1 0)).2.2.2.1)), c.2.2) 1 ((c.1 7 0) - 1) 0 (tok n f (c.1 1 0)).2.1) 10) (by rw [if_neg e6, if_neg (fr_1 hn hf ha hk w1), hpl]; rfl) (by unfold a9; rw [if_neg k1, if_neg hw, if_pos w1]) ?_
        have hp : (tok n f (c.1 1 0)).2.1 < 65536 := by have := (TF_tok hn hf hJ).1; omega
        refine Or.inr ⟨rfl, RCl_gt (tok n f (c.1 1 0)) 10 (show RA c q tp from hRA) ?_ (RV_gp hRV hp) (show RR c rf 10 from ⟨hRR.1, hRR.2.1, hRR.2.2.1, fun _ => hRR.2.2.2.1 (by omega), fun e => absurd e (by omega), fun e => absurd e (by omega), fun e => absurd e (by omega), fun e => absurd e (by omega), fun e => absurd e (by omega), fun e => absurd e (by omega)⟩)⟩
        intro r hr _
        have hr : r < (c.1 7 0) := hr
        show upd gp (crw c) (nI (tok n f (c.1 1 0)).2.1) (rwW c r) = nI (if r = (c.1 7 0) - 1 then (tok n f (c.1 1 0)).2.1 else c.1 35 (r))
        have ecr : crw c = rwW c ((c.1 7 0) - 1) := by unfold crw; rw [if_neg hw]
        rw [ecr]
        by_cases e : r = (c.1 7 0) - 1
        · rw [e, pk_us, if_pos rfl]
        · have hne : rwW c r ≠ rwW c ((c.1 7 0) - 1) := by
            have g := hA.2.2.1 r hr
            have g3 := hA.1.2.2.2 _ g.1
            have g5 := hA.2.2.1 ((c.1 7 0) - 1) (by omega)
            have g6 := hA.1.2.2.2 _ g5.1
            have g7 := hA.2.2.2.1.2 r (by omega)
            unfold rwW
            intro ee
            by_cases eo : c.1 29 (r) = c.1 29 ((c.1 7 0) - 1)
            · have := g7 eo; rw [eo] at ee; omega
            · omega
          rw [pk_un hne, if_neg e]
          exact hRG r hr (Or.inl (by omega))
      · refine RY_of (y2 := (-1, q, rf, tp, gp)) (c2 := wr (tok n f (c.1 1 0)) c) (by rw [if_neg e6, if_pos (fr_0 hn hf ha hk w1)]) (by unfold a9; rw [if_neg k1, if_neg hw, if_neg w1]) ?_
        exact Or.inl ⟨rfl, rfl, hRA.1, hRV⟩
theorem sim_16 (hn : n < 65536) (hf : ∀ k, k < n → f k < 256) (hA : AI c) (hJ : AJ n c) (hR : RCl c q rf tp gp) (h0 : (c.1 2 0) = 0) (hs : (c.1 0 0) = 16) (hk : TKR n f (c.1 1 0) k) : RY (tok n f (c.1 1 0)) c (stT (tok n f (c.1 1 0)) c) (tkBo n f k q rf tp gp (crw c) (acm c)) := by
  rw [stT_16 _ hs]
  have ha : (c.1 1 0) ≤ n := hJ.1.1
  have hle := lx_le n f ha
  obtain ⟨hRA, hRG, hRV, hRR⟩ := hR
  rw [hs] at hRG hRR
  have hQ5 : Q5c c 16 := by have := hA.2.2.2.2.1; unfold Q5 at this; rw [hs] at this; exact this
  have hkd := L_kd hk
  have hpl := L_pl hk

  have hi : ((c.1 10 0) = 0 → 1 ≤ (c.1 5 0)) ∧ (¬ (c.1 10 0) = 0 → 1 ≤ (c.1 7 0)) := by unfold Q5c at hQ5; omega
  have h9 : rf 9 = nI (c.1 12 0) := hRR.2.2.2.2.2.2.1 (by omega)
  obtain ⟨h11, h12, h13⟩ := hRR.2.2.2.2.2.2.2.2.1 (by omega)
  have h14 : rf 14 = nI (c.1 17 0) := hRR.2.2.2.2.2.2.2.2.2 rfl
  have hcm : acm c < 4 := by unfold Q5c at hQ5; exact hQ5.2.2.2.2.2.2.2 (by omega)
  have hcl := (by unfold Q5c at hQ5; exact hQ5.2.2.2.2.2.2.1 (by omega) : ((c.1 10 0) = 0 → 1 ≤ (c.1 5 0) ∧ c.1 23 ((c.1 5 0) - 1) + 1 = (c.1 4 0) ∧ c.1 27 ((c.1 5 0) - 1) + c.1 28 ((c.1 5 0) - 1) = (c.1 8 0)) ∧ (¬ (c.1 10 0) = 0 → 1 ≤ (c.1 7 0) ∧ c.1 29 ((c.1 7 0) - 1) + 1 = (c.1 6 0) ∧ c.1 32 ((c.1 7 0) - 1) + c.1 33 ((c.1 7 0) - 1) = (c.1 8 0)))
  have hsh : (shp (rf 11) (rf 12) (rf 14) (if rf 9 &&& 1 = 1 then 1 else 0)) = shp (nI (c.1 14 0)) (nI (c.1 15 0)) (nI (c.1 17 0)) (nI ((c.1 12 0) % 2)) := by rw [h11, h12, h14, h9, odd_n]
  have hwp : (c.1 16 0) < 65536 := by have := hJ.1.2.2.2.1; omega
  by_cases k4 : (tok n f (c.1 1 0)).1 = 4
  · have e4 := L_nu hk k4
    refine RY_of (y2 := (nI 17, ((q.1.1, q.1.2.1, q.1.2.2 + 1), q.2.1, updA (updA (updA q.2.2 11 (crw c * 4 + acm c) (shp (rf 11) (rf 12) (rf 14) (if rf 9 &&& 1 = 1 then 1 else 0))) 12 (crw c * 4 + acm c) (tok n f (c.1 1 0)).2.2.2.2) 10 (crw c) (nI (acm c + 1))), upd rf 10 (rf 9 + 1), upd tp (crw c * 4 + acm c) (nI (c.1 16 0)), gp)) (c2 := gt (tok n f (c.1 1 0)) (adt c (tok n f (c.1 1 0)).2.2.2.2) 17) (by unfold tkBo; rw [if_neg (ik1 (hkd.trans k4)), e4, h13]; rfl) (by unfold a16; rw [if_pos k4]) ?_
    by_cases hw : (c.1 10 0) = 0
    · have g := hcl.1 hw
      have ecm : acm c = c.1 28 ((c.1 5 0) - 1) := by unfold acm; rw [if_pos hw]
      have ecr : crw c = rwR c ((c.1 5 0) - 1) := by unfold crw; rw [if_pos hw]
      refine Or.inr ⟨rfl, RCl_gt (tok n f (c.1 1 0)) 17 (RA_adt0 hA hRA hw g.1 g.2.2 ecr.symm ecm.symm hcm hsh) ?_ (RV_tp hRV hwp) ?_⟩
      · intro r hr e
        rw [adt0_NW hw] at hr e
        have er : rwW (adt c (tok n f (c.1 1 0)).2.2.2.2) r = rwW c r := by unfold rwW; rw [adt0_WO hw, adt0_WX hw]
        rw [er, adt0_WQ hw]
        exact hRG r hr (e.imp id (fun z => by omega))
      · have ecw : crw (adt c (tok n f (c.1 1 0)).2.2.2.2) = crw c := by unfold crw rwR rwW; rw [adt0_WY hw, if_pos hw, if_pos hw, adt0_NR hw, adt0_RO hw, adt0_RX hw]
        unfold RR
        rw [adt0_FA hw, adt0_FP hw, adt0_WY hw, ecw, adt0_CL hw]
        exact ⟨hRR.1, hRR.2.1, hRR.2.2.1, fun _ => hRR.2.2.2.1 (by omega), fun _ => hRR.2.2.2.2.1 (by omega), fun e => absurd e (by omega), fun e => absurd e (by omega), fun _ => ⟨by show rf 9 + 1 = nI ((c.1 12 0) + 1); rw [h9]; exact nI_1 _, by omega⟩, fun e => absurd e (by omega), fun e => absurd e (by omega)⟩
    · have g := hcl.2 hw
      have ecm : acm c = c.1 33 ((c.1 7 0) - 1) := by unfold acm; rw [if_neg hw]
      have ecr : crw c = rwW c ((c.1 7 0) - 1) := by unfold crw; rw [if_neg hw]
      refine Or.inr ⟨rfl, RCl_gt (tok n f (c.1 1 0)) 17 (RA_adt1 hA hRA hw g.1 g.2.2 ecr.symm ecm.symm hcm hsh) ?_ (RV_tp hRV hwp) ?_⟩
      · intro r hr e
        rw [adt1_NW hw] at hr e
        have er : rwW (adt c (tok n f (c.1 1 0)).2.2.2.2) r = rwW c r := by unfold rwW; rw [adt1_WO hw, adt1_WX hw]
        rw [er, adt1_WQ hw]
        exact hRG r hr (e.imp id (fun z => by omega))
      · have ecw : crw (adt c (tok n f (c.1 1 0)).2.2.2.2) = crw c := by unfold crw rwR rwW; rw [adt1_WY hw, if_neg hw, if_neg hw, adt1_NW hw, adt1_WO hw, adt1_WX hw]
        unfold RR
        rw [adt1_FA hw, adt1_FP hw, adt1_WY hw, ecw, adt1_CL hw]
        exact ⟨hRR.1, hRR.2.1, hRR.2.2.1, fun _ => hRR.2.2.2.1 (by omega), fun _ => hRR.2.2.2.2.1 (by omega), fun e => absurd e (by omega), fun e => absurd e (by omega), fun _ => ⟨by show rf 9 + 1 = nI ((c.1 12 0) + 1); rw [h9]; exact nI_1 _, by omega⟩, fun e => absurd e (by omega), fun e => absurd e (by omega)⟩
  · refine RY_of (y2 := (-1, q, rf, tp, gp)) (c2 := wr (tok n f (c.1 1 0)) c) (by unfold tkBo; rw [if_pos (ik0 (fun e => k4 (hkd.symm.trans e)))]) (by unfold a16; rw [if_neg k4]) ?_
    exact Or.inl ⟨rfl, rfl, hRA.1, hRV⟩
end Sim4
