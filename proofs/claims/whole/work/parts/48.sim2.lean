/-! The steps that build: heads -/
section Sim2
variable {n : Nat} {f : Nat → Nat} {c : aN} {q : aP} {rf tp gp : Nat → Int32} {k : aT}
theorem fndF_c (h : RA c q tp) (hJ : J3 c) {l : List Nat} (hl : nmG l) : ∀ m j, j + m = (c.1 4 0) → fndF q 0 (e32 l) j m = (match afd (c.2.1 0) l j m with | none => -1 | some x => nI x)
  | 0, j, _ => rfl
  | m + 1, j, hj => by
    have g := h.1.1
    have e : q.1.1 = (c.1 4 0) := by rw [h.2.1]
    unfold fndF afd
    rw [show nmf q 0 (nI j) = e32 (c.2.1 0 (j)) from by rw [nmf, hrow_c h.1 (by omega), if_neg (nI_m1 (by omega)), nI_clamp (by omega)]; exact (h.2.2.1 j (by omega)).1]
    by_cases z : c.2.1 0 (j) = l
    · rw [if_pos ((e32_inj (hJ 0 j) hl).mpr z), if_pos z]
    · rw [if_neg (fun y => z ((e32_inj (hJ 0 j) hl).mp y)), if_neg z]
      exact fndF_c h hJ hl m (j + 1) (by omega)
theorem fndF_n (h : RA c q tp) (hJ : J3 c) {l : List Nat} (hl : nmG l) : ∀ m j, j + m = (c.1 6 0) → fndF q 1 (e32 l) j m = (match afd (c.2.1 1) l j m with | none => -1 | some x => nI x)
  | 0, j, _ => rfl
  | m + 1, j, hj => by
    have g := h.1.2.1
    have e : q.1.2.1 = (c.1 6 0) := by rw [h.2.1]
    unfold fndF afd
    rw [show nmf q 1 (nI j) = e32 (c.2.1 1 (j)) from by rw [nmf, hrow_n (by decide) h.1 (by omega), if_neg (nI_m1 (by omega)), nI_clamp (by omega)]; exact (h.2.2.2.1 j (by omega)).1]
    by_cases z : c.2.1 1 (j) = l
    · rw [if_pos ((e32_inj (hJ 1 j) hl).mpr z), if_pos z]
    · rw [if_neg (fun y => z ((e32_inj (hJ 1 j) hl).mp y)), if_neg z]
      exact fndF_n h hJ hl m (j + 1) (by omega)
theorem afd_some {g : Nat → List Nat} {l : List Nat} : ∀ m j x, afd g l j m = some x → j ≤ x ∧ x < j + m ∧ g x = l
  | 0, j, x, h => by cases h
  | m + 1, j, x, h => by
    unfold afd at h
    by_cases z : g j = l
    · rw [if_pos z] at h; cases h; exact ⟨Nat.le_refl _, by omega, z⟩
    · rw [if_neg z] at h
      have := afd_some m (j + 1) x h
      exact ⟨by omega, by omega, this.2.2⟩
theorem fnd_0 (h : RA c q tp) (hJ : J3 c) {l : List Nat} (hl : nmG l) : fnd q 0 (e32 l) = (match afd (c.2.1 0) l 0 (c.1 4 0) with | none => -1 | some x => nI x) := by
  have e : hcnt q 0 = (c.1 4 0) := by rw [hcnt, if_pos rfl, h.2.1]
  rw [fnd, e]; exact fndF_c h hJ hl (c.1 4 0) 0 (Nat.zero_add _)
theorem fnd_1 (h : RA c q tp) (hJ : J3 c) {l : List Nat} (hl : nmG l) : fnd q 1 (e32 l) = (match afd (c.2.1 1) l 0 (c.1 6 0) with | none => -1 | some x => nI x) := by
  have e : hcnt q 1 = (c.1 6 0) := by rw [hcnt, if_neg (by decide), h.2.1]
  rw [fnd, e]; exact fndF_n h hJ hl (c.1 6 0) 0 (Nat.zero_add _)
theorem RA_ahc {l : List Nat} (h : RA c q tp) (hz : (c.1 6 0) = 0) (hc : (c.1 4 0) < 6) : RA (ahc c l) (ah q 0 (e32 l)) tp := by
  obtain ⟨hP, hq1, h3, h4, h5, h6⟩ := h
  have e1 : q.1.1 = (c.1 4 0) := by rw [hq1]
  unfold ah
  rw [if_pos rfl]
  refine ⟨?_, ?_, ?_, ?_, h5, h6⟩
  · apply PI_cnt0 (k := q.1.1) hP
    · show q.1.1 + 1 ≤ 6; omega
    · exact hP.2.1
    · rfl
    · rfl
  · show (q.1.1 + 1, q.1.2.1, q.1.2.2) = ((c.1 4 0) + 1, (c.1 6 0), (c.1 8 0))
    rw [hq1]
  · intro k hk
    have hk : k < (c.1 4 0) + 1 := hk
    show vp_updL q.2.1 q.1.1 (e32 l) k = e32 (if k = (c.1 4 0) then l else c.2.1 0 (k)) ∧ upd (q.2.2 5) q.1.1 0 k = nI (if k = (c.1 4 0) then 0 else c.1 20 (k)) ∧ upd (q.2.2 6) q.1.1 0 k = 0 ∧ upd (q.2.2 4) q.1.1 0 k = nI (if k = (c.1 4 0) then 0 else c.1 21 (k))
    rw [e1]
    by_cases e : k = (c.1 4 0)
    · rw [e, if_pos rfl, if_pos rfl, if_pos rfl, pk_uLs, pk_us, pk_us, pk_us]; exact ⟨rfl, rfl, rfl, rfl⟩
    · rw [if_neg e, if_neg e, if_neg e, pk_uLn e, pk_un e, pk_un e, pk_un e]; exact h3 k (by omega)
  · intro k hk
    have hk : k < (c.1 6 0) := hk
    omega
theorem RA_ahn {l : List Nat} (h : RA c q tp) (hc : (c.1 6 0) < 24) : RA (ahn c l) (ah q 1 (e32 l)) tp := by
  obtain ⟨hP, hq1, h3, h4, h5, h6⟩ := h
  have e1 : q.1.2.1 = (c.1 6 0) := by rw [hq1]
  have e2 : q.1.1 = (c.1 4 0) := by rw [hq1]
  have g6 := hP.1
  unfold ah
  rw [if_neg (by decide)]
  refine ⟨?_, ?_, ?_, ?_, h5, h6⟩
  · apply PI_cnt0 (k := 6 + q.1.2.1) hP
    · exact hP.1
    · show q.1.2.1 + 1 ≤ 24; omega
    · rfl
    · rfl
  · show (q.1.1, q.1.2.1 + 1, q.1.2.2) = ((c.1 4 0), (c.1 6 0) + 1, (c.1 8 0))
    rw [hq1]
  · intro k hk
    have hk : k < (c.1 4 0) := hk
    show vp_updL q.2.1 (6 + q.1.2.1) (e32 l) k = e32 (c.2.1 0 (k)) ∧ q.2.2 5 k = nI (c.1 20 (k)) ∧ q.2.2 6 k = 0 ∧ upd (q.2.2 4) (6 + q.1.2.1) 0 k = nI (c.1 21 (k))
    rw [pk_uLn (by omega), pk_un (by omega)]; exact h3 k hk
  · intro k hk
    have hk : k < (c.1 6 0) + 1 := hk
    show vp_updL q.2.1 (6 + q.1.2.1) (e32 l) (6 + k) = e32 (if k = (c.1 6 0) then l else c.2.1 1 (k)) ∧ upd (q.2.2 4) (6 + q.1.2.1) 0 (6 + k) = nI (if k = (c.1 6 0) then 0 else c.1 22 (k))
    rw [e1]
    by_cases e : k = (c.1 6 0)
    · rw [e, if_pos rfl, if_pos rfl, pk_uLs, pk_us]; exact ⟨rfl, rfl⟩
    · rw [if_neg e, if_neg e, pk_uLn (by omega), pk_un (by omega)]; exact h4 k (by omega)
theorem sim_3 (hn : n < 65536) (hf : ∀ k, k < n → f k < 256) (hA : AI c) (hJ : AJ n c) (hR : RCl c q rf tp gp) (h0 : (c.1 2 0) = 0) (hs : (c.1 0 0) = 3) (hk : TKR n f (c.1 1 0) k) : RY (tok n f (c.1 1 0)) c (stT (tok n f (c.1 1 0)) c) (tkHN n f k q rf tp gp 0 4) := by
  rw [stT_3 _ hs]
  have ha : (c.1 1 0) ≤ n := hJ.1.1
  have hle := lx_le n f ha
  obtain ⟨hRA, hRG, hRV, hRR⟩ := hR
  rw [hs] at hRG hRR
  have hQ5 : Q5c c 3 := by have := hA.2.2.2.2.1; unfold Q5 at this; rw [hs] at this; exact this
  have hkd := L_kd hk
  have hpl := L_pl hk

  have hJ3 := hJ.2.2
  have hlg : nmG (tok n f (c.1 1 0)).2.2.2.1 := (TF_tok hn hf hJ).2.2.2.2
  by_cases w1 : fre (tok n f (c.1 1 0))
  · have e3 := L_nm hk w1.1
    have ef := fnd_0 hRA hJ3 hlg
    by_cases w2 : afd (c.2.1 0) (tok n f (c.1 1 0)).2.2.2.1 0 (c.1 4 0) = none
    · rw [w2] at ef
      refine RY_of (y2 := (nI 4, ah q 0 (e32 (tok n f (c.1 1 0)).2.2.2.1), upd rf 6 0, tp, gp)) (c2 := gt (tok n f (c.1 1 0)) (ahc c (tok n f (c.1 1 0)).2.2.2.1) 4) (by unfold tkHN; rw [if_neg (fr_1 hn hf ha hk w1), e3, if_pos ef]; rfl) (by unfold a3; rw [if_pos ⟨w1, w2⟩]) ?_
      exact Or.inr ⟨rfl, RCl_gt (tok n f (c.1 1 0)) 4 (show RA (ahc c (tok n f (c.1 1 0)).2.2.2.1) (ah q 0 (e32 (tok n f (c.1 1 0)).2.2.2.1)) (tp) from RA_ahc hRA (by unfold Q5c at hQ5; omega) (by unfold Q5c at hQ5; omega)) (show RG (ahc c (tok n f (c.1 1 0)).2.2.2.1) (gp) 4 from (show RG c gp 4 from RG_w hRG (by omega))) hRV (show RR (ahc c (tok n f (c.1 1 0)).2.2.2.1) (upd rf 6 0) 4 from ⟨hRR.1, hRR.2.1, hRR.2.2.1, fun _ => rfl, fun e => absurd e (by omega), fun e => absurd e (by omega), fun e => absurd e (by omega), fun e => absurd e (by omega), fun e => absurd e (by omega), fun e => absurd e (by omega)⟩)⟩
    · obtain ⟨j, ej⟩ := Option.ne_none_iff_exists'.mp w2
      rw [ej] at ef
      have hj := afd_some _ _ _ ej
      have hb := hA.1.1
      have hb2 := hA.1.2.1
      refine RY_of (y2 := (-1, q, rf, tp, gp)) (c2 := wr (tok n f (c.1 1 0)) c) (by unfold tkHN; rw [if_neg (fr_1 hn hf ha hk w1), e3, if_neg (by rw [ef]; exact nI_m1 (by omega))]) (by unfold a3; rw [if_neg (fun e => w2 e.2)]) ?_
      exact Or.inl ⟨rfl, rfl, hRA.1, hRV⟩
  · skip
    refine RY_of (y2 := (-1, q, rf, tp, gp)) (c2 := wr (tok n f (c.1 1 0)) c) (by unfold tkHN; rw [if_pos (fr_0 hn hf ha hk w1)]) (by unfold a3; rw [if_neg (fun e => w1 e.1)]) ?_
    exact Or.inl ⟨rfl, rfl, hRA.1, hRV⟩
theorem sim_5 (hn : n < 65536) (hf : ∀ k, k < n → f k < 256) (hA : AI c) (hJ : AJ n c) (hR : RCl c q rf tp gp) (h0 : (c.1 2 0) = 0) (hs : (c.1 0 0) = 5) (hk : TKR n f (c.1 1 0) k) : RY (tok n f (c.1 1 0)) c (stT (tok n f (c.1 1 0)) c) (tkHN n f k q rf tp gp 1 6) := by
  rw [stT_5 _ hs]
  have ha : (c.1 1 0) ≤ n := hJ.1.1
  have hle := lx_le n f ha
  obtain ⟨hRA, hRG, hRV, hRR⟩ := hR
  rw [hs] at hRG hRR
  have hQ5 : Q5c c 5 := by have := hA.2.2.2.2.1; unfold Q5 at this; rw [hs] at this; exact this
  have hkd := L_kd hk
  have hpl := L_pl hk

  have hJ3 := hJ.2.2
  have hlg : nmG (tok n f (c.1 1 0)).2.2.2.1 := (TF_tok hn hf hJ).2.2.2.2
  by_cases w1 : fre (tok n f (c.1 1 0))
  · have e3 := L_nm hk w1.1
    have ef := fnd_1 hRA hJ3 hlg
    by_cases w2 : afd (c.2.1 1) (tok n f (c.1 1 0)).2.2.2.1 0 (c.1 6 0) = none
    · rw [w2] at ef
      refine RY_of (y2 := (nI 6, ah q 1 (e32 (tok n f (c.1 1 0)).2.2.2.1), upd rf 6 1, tp, gp)) (c2 := gt (tok n f (c.1 1 0)) (ahn c (tok n f (c.1 1 0)).2.2.2.1) 6) (by unfold tkHN; rw [if_neg (fr_1 hn hf ha hk w1), e3, if_pos ef]; rfl) (by unfold a5; rw [if_pos ⟨w1, w2⟩]) ?_
      exact Or.inr ⟨rfl, RCl_gt (tok n f (c.1 1 0)) 6 (show RA (ahn c (tok n f (c.1 1 0)).2.2.2.1) (ah q 1 (e32 (tok n f (c.1 1 0)).2.2.2.1)) (tp) from RA_ahn hRA (by unfold Q5c at hQ5; omega)) (show RG (ahn c (tok n f (c.1 1 0)).2.2.2.1) (gp) 6 from (show RG c gp 6 from RG_w hRG (by omega))) hRV (show RR (ahn c (tok n f (c.1 1 0)).2.2.2.1) (upd rf 6 1) 6 from ⟨hRR.1, hRR.2.1, hRR.2.2.1, fun _ => rfl, fun e => absurd e (by omega), fun e => absurd e (by omega), fun e => absurd e (by omega), fun e => absurd e (by omega), fun e => absurd e (by omega), fun e => absurd e (by omega)⟩)⟩
    · obtain ⟨j, ej⟩ := Option.ne_none_iff_exists'.mp w2
      rw [ej] at ef
      have hj := afd_some _ _ _ ej
      have hb := hA.1.1
      have hb2 := hA.1.2.1
      refine RY_of (y2 := (-1, q, rf, tp, gp)) (c2 := wr (tok n f (c.1 1 0)) c) (by unfold tkHN; rw [if_neg (fr_1 hn hf ha hk w1), e3, if_neg (by rw [ef]; exact nI_m1 (by omega))]) (by unfold a5; rw [if_neg (fun e => w2 e.2)]) ?_
      exact Or.inl ⟨rfl, rfl, hRA.1, hRV⟩
  · skip
    refine RY_of (y2 := (-1, q, rf, tp, gp)) (c2 := wr (tok n f (c.1 1 0)) c) (by unfold tkHN; rw [if_pos (fr_0 hn hf ha hk w1)]) (by unfold a5; rw [if_neg (fun e => w1 e.1)]) ?_
    exact Or.inl ⟨rfl, rfl, hRA.1, hRV⟩
theorem RA_top {v : Nat} (h : RA c q tp) (hc : 1 ≤ (c.1 4 0)) : RA ((xN c.1 20 ((c.1 4 0) - 1) (v)), c.2.1, c.2.2) (q.1, q.2.1, updA q.2.2 5 (hrow q 0 (nI q.1.1 - 1)).toNatClampNeg (nI v)) tp := by
  obtain ⟨hP, hq1, h3, h4, h5, h6⟩ := h
  have e1 : q.1.1 = (c.1 4 0) := by rw [hq1]
  have g := hP.1
  have e2 : (hrow q 0 (nI q.1.1 - 1)).toNatClampNeg = (c.1 4 0) - 1 := by
    rw [show q.1.1 = ((c.1 4 0) - 1) + 1 by omega, nI_pred, hrow_c hP (by omega), nI_clamp (by omega)]
  rw [e2]
  refine ⟨PI_keep hP hP.1 hP.2.1 rfl rfl, hq1, ?_, h4, h5, h6⟩
  intro k hk
  have hk : k < (c.1 4 0) := hk
  show q.2.1 k = e32 (c.2.1 0 (k)) ∧ upd (q.2.2 5) ((c.1 4 0) - 1) (nI v) k = nI (if k = (c.1 4 0) - 1 then v else c.1 20 (k)) ∧ q.2.2 6 k = 0 ∧ q.2.2 4 k = nI (c.1 21 (k))
  have h := h3 k hk
  by_cases e : k = (c.1 4 0) - 1
  · rw [if_pos e, e, pk_us]
    rw [e] at h
    exact ⟨h.1, rfl, h.2.2⟩
  · rw [if_neg e, pk_un e]; exact h
theorem sim_4 (hn : n < 65536) (hf : ∀ k, k < n → f k < 256) (hA : AI c) (hJ : AJ n c) (hR : RCl c q rf tp gp) (h0 : (c.1 2 0) = 0) (hs : (c.1 0 0) = 4) (hk : TKR n f (c.1 1 0) k) : RY (tok n f (c.1 1 0)) c (stT (tok n f (c.1 1 0)) c) (tkCT n f k q rf tp gp) := by
  rw [stT_4 _ hs]
  have ha : (c.1 1 0) ≤ n := hJ.1.1
  have hle := lx_le n f ha
  obtain ⟨hRA, hRG, hRV, hRR⟩ := hR
  rw [hs] at hRG hRR
  have hQ5 : Q5c c 4 := by have := hA.2.2.2.2.1; unfold Q5 at this; rw [hs] at this; exact this
  have hkd := L_kd hk
  have hpl := L_pl hk

  by_cases w1 : (tok n f (c.1 1 0)).1 = 4 ∧ 1 ≤ (tok n f (c.1 1 0)).2.2.2.2 ∧ (tok n f (c.1 1 0)).2.2.2.2 ≤ 15
  · obtain ⟨v, hv, ev⟩ := nI_of2 (x := (tok n f (c.1 1 0)).2.2.2.2) (M := 15) (n := 15) rfl (fun g => absurd (Int32.lt_of_le_of_lt w1.2.1 g) (by decide)) w1.2.2
    have e4 := L_nu hk w1.1
    have ec : (tok n f (c.1 1 0)).2.2.2.2.toNatClampNeg = v := by rw [ev, nI_clamp (by omega)]
    refine RY_of (y2 := (nI 6, (q.1, q.2.1, updA q.2.2 5 (hrow q 0 (nI q.1.1 - 1)).toNatClampNeg (nI v)), rf, tp, gp)) (c2 := gt (tok n f (c.1 1 0)) ((xN c.1 20 ((c.1 4 0) - 1) (v)), c.2.1, c.2.2) 6) (by unfold tkCT; rw [L_num hk 1 15, if_pos w1, if_neg (by decide), e4, ev]; rfl) (by unfold a4; rw [if_pos w1, ec]) ?_
    exact Or.inr ⟨rfl, RCl_gt (tok n f (c.1 1 0)) 6 (show RA ((xN c.1 20 ((c.1 4 0) - 1) (v)), c.2.1, c.2.2) ((q.1, q.2.1, updA q.2.2 5 (hrow q 0 (nI q.1.1 - 1)).toNatClampNeg (nI v))) (tp) from RA_top hRA (by unfold Q5c at hQ5; omega)) (show RG ((xN c.1 20 ((c.1 4 0) - 1) (v)), c.2.1, c.2.2) (gp) 6 from (show RG c gp 6 from RG_w hRG (by omega))) hRV (show RR ((xN c.1 20 ((c.1 4 0) - 1) (v)), c.2.1, c.2.2) (rf) 6 from ⟨hRR.1, hRR.2.1, hRR.2.2.1, fun _ => hRR.2.2.2.1 (by omega), fun e => absurd e (by omega), fun e => absurd e (by omega), fun e => absurd e (by omega), fun e => absurd e (by omega), fun e => absurd e (by omega), fun e => absurd e (by omega)⟩)⟩
  · skip
    refine RY_of (y2 := (-1, q, rf, tp, gp)) (c2 := wr (tok n f (c.1 1 0)) c) (by unfold tkCT; rw [L_num hk 1 15, if_neg w1, if_pos rfl]) (by unfold a4; rw [if_neg w1]) ?_
    exact Or.inl ⟨rfl, rfl, hRA.1, hRV⟩
theorem sim_10 (hn : n < 65536) (hf : ∀ k, k < n → f k < 256) (hA : AI c) (hJ : AJ n c) (hR : RCl c q rf tp gp) (h0 : (c.1 2 0) = 0) (hs : (c.1 0 0) = 10) (hk : TKR n f (c.1 1 0) k) : RY (tok n f (c.1 1 0)) c (stT (tok n f (c.1 1 0)) c) (if (if k.2.1 = 2 then (1 : Int32) else 0) = 0 then -1 else 6, q, rf, tp, gp) := by
  rw [stT_10 _ hs]
  have ha : (c.1 1 0) ≤ n := hJ.1.1
  have hle := lx_le n f ha
  obtain ⟨hRA, hRG, hRV, hRR⟩ := hR
  rw [hs] at hRG hRR
  have hQ5 : Q5c c 10 := by have := hA.2.2.2.2.1; unfold Q5 at this; rw [hs] at this; exact this
  have hkd := L_kd hk
  have hpl := L_pl hk
  by_cases k2 : (tok n f (c.1 1 0)).1 = 2
  · refine RY_of (y2 := (nI 6, q, rf, tp, gp)) (c2 := gt (tok n f (c.1 1 0)) c 6) (by rw [if_neg (ik1 (hkd.trans k2))]; rfl) (by unfold a10; rw [if_pos k2]) ?_
    exact Or.inr ⟨rfl, RCl_gt (tok n f (c.1 1 0)) 6 hRA (RG_w hRG (by omega)) hRV (show RR c rf 6 from ⟨hRR.1, hRR.2.1, hRR.2.2.1, fun _ => hRR.2.2.2.1 (by omega), fun e => absurd e (by omega), fun e => absurd e (by omega), fun e => absurd e (by omega), fun e => absurd e (by omega), fun e => absurd e (by omega), fun e => absurd e (by omega)⟩)⟩
  · have k2n : ¬ k.2.1 = 2 := fun e => k2 (hkd.symm.trans e)
    refine RY_of (y2 := (-1, q, rf, tp, gp)) (c2 := wr (tok n f (c.1 1 0)) c) (by rw [if_pos (ik0 k2n)]) (by unfold a10; rw [if_neg k2]) ?_
    exact Or.inl ⟨rfl, rfl, hRA.1, hRV⟩
theorem sim_12 (hn : n < 65536) (hf : ∀ k, k < n → f k < 256) (hA : AI c) (hJ : AJ n c) (hR : RCl c q rf tp gp) (h0 : (c.1 2 0) = 0) (hs : (c.1 0 0) = 12) (hk : TKR n f (c.1 1 0) k) : RY (tok n f (c.1 1 0)) c (stT (tok n f (c.1 1 0)) c) (if (if k.2.1 = 1 then (1 : Int32) else 0) = 0 then -1 else 11, q, rf, tp, gp) := by
  rw [stT_12 _ hs]
  have ha : (c.1 1 0) ≤ n := hJ.1.1
  have hle := lx_le n f ha
  obtain ⟨hRA, hRG, hRV, hRR⟩ := hR
  rw [hs] at hRG hRR
  have hQ5 : Q5c c 12 := by have := hA.2.2.2.2.1; unfold Q5 at this; rw [hs] at this; exact this
  have hkd := L_kd hk
  have hpl := L_pl hk
  by_cases k2 : (tok n f (c.1 1 0)).1 = 1
  · refine RY_of (y2 := (nI 11, q, rf, tp, gp)) (c2 := gt (tok n f (c.1 1 0)) c 11) (by rw [if_neg (ik1 (hkd.trans k2))]; rfl) (by unfold a12; rw [if_pos k2]) ?_
    exact Or.inr ⟨rfl, RCl_gt (tok n f (c.1 1 0)) 11 hRA (RG_w hRG (by omega)) hRV (show RR c rf 11 from ⟨hRR.1, hRR.2.1, hRR.2.2.1, fun _ => hRR.2.2.2.1 (by omega), fun _ => hRR.2.2.2.2.1 (by omega), fun e => absurd e (by omega), fun _ => hRR.2.2.2.2.2.2.1 (by omega), fun e => absurd e (by omega), fun e => absurd e (by omega), fun e => absurd e (by omega)⟩)⟩
  · have k2n : ¬ k.2.1 = 1 := fun e => k2 (hkd.symm.trans e)
    refine RY_of (y2 := (-1, q, rf, tp, gp)) (c2 := wr (tok n f (c.1 1 0)) c) (by rw [if_pos (ik0 k2n)]) (by unfold a12; rw [if_neg k2]) ?_
    exact Or.inl ⟨rfl, rfl, hRA.1, hRV⟩
end Sim2
