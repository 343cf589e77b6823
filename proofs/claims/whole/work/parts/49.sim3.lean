/-! The steps that build: clauses and tests -/
section Sim3
variable {n : Nat} {f : Nat → Nat} {c : aN} {q : aP} {rf tp gp : Nat → Int32} {k : aT}
theorem adc_L (c : aN) (m : Nat) : (adc c m).2.1 = c.2.1 := by unfold adc; split <;> rfl
theorem adc_B (c : aN) (m : Nat) : (adc c m).2.2 = c.2.2 := by unfold adc; split <;> rfl
theorem adt_L0 (c : aN) (v : Int32) (k : Nat) : (adt c v).2.1 0 k = c.2.1 0 k := by unfold adt; split <;> rfl
theorem adt_L1 (c : aN) (v : Int32) (k : Nat) : (adt c v).2.1 1 k = c.2.1 1 k := by unfold adt; split <;> rfl
theorem adt_B (c : aN) (v : Int32) : (adt c v).2.2 = upd c.2.2 (c.1 8 0) v := by unfold adt; split <;> rfl
theorem odd_n (m : Nat) : (if nI m &&& 1 = 1 then (1 : Int32) else 0) = nI (m % 2) := by
  have e : nI m &&& 1 = nI (m % 2) := by
    rw [show (1 : Int32) = nI 1 from rfl, nx_and, show m &&& 1 = m % 2 from Nat.and_one_is_mod m]
  rw [e]
  rcases Nat.mod_two_eq_zero_or_one m with z | z <;> rw [z] <;> rfl
set_option maxHeartbeats 1000000 in
theorem RA_adc0 {m kk cc : Nat} (hA : AI c) (h : RA c q tp) (hw : (c.1 10 0) = 0) (hk : (c.1 4 0) = kk + 1) (hc : c.1 21 (kk) = cc) (hc4 : cc < 4) (hNN : (c.1 6 0) = 0) (h8 : rf 8 = nI (c.1 11 0)) : RA (adc c m) (q.1, q.2.1, updA (updA (updA (updA q.2.2 4 kk (nI (cc + 1))) 8 (kk * 4 + cc) (nI m)) 9 (kk * 4 + cc) (rf 8)) 10 (kk * 4 + cc) 0) tp := by
  obtain ⟨hP, hq1, h3, h4, h5, h6⟩ := h
  have e1 : q.1.1 = (c.1 4 0) := by rw [hq1]
  have e2 : q.1.2.1 = (c.1 6 0) := by rw [hq1]
  have g6 := hP.1
  have g24 := hP.2.1
  have hk1 : (c.1 4 0) - 1 = kk := by omega
  refine ⟨?_, ?_, ?_, ?_, ?_, ?_⟩
  · apply PI_set10 (c := 0) (PI_set4 hP (k := kk) (c := cc + 1) (fun _ => by omega) (fun _ => by omega))
    · exact hP.1
    · exact hP.2.1
    · rfl
    · rfl
    · omega
  · show q.1 = ((adc c m).1 4 0, (adc c m).1 6 0, (adc c m).1 8 0)
    rw [adc0_NC hw, adc0_NN hw, adc0_NT hw]; exact hq1
  · intro k hk
    rw [adc0_NC hw] at hk
    show q.2.1 k = e32 ((adc c m).2.1 0 k) ∧ q.2.2 5 k = nI ((adc c m).1 20 k) ∧ q.2.2 6 k = 0 ∧ upd (q.2.2 4) kk (nI (cc + 1)) k = nI ((adc c m).1 21 k)
    rw [adc_L, adc0_TO hw, adc0_RC hw]
    rw [hk1, hc]
    by_cases e : k = kk
    · rw [e, pk_us, if_pos rfl]; exact ⟨(h3 kk (by omega)).1, (h3 kk (by omega)).2.1, (h3 kk (by omega)).2.2.1, rfl⟩
    · rw [pk_un e, if_neg e]; exact h3 k hk
  · intro k hk
    rw [adc0_NN hw] at hk
    show q.2.1 (6 + k) = e32 ((adc c m).2.1 1 k) ∧ upd (q.2.2 4) kk (nI (cc + 1)) (6 + k) = nI ((adc c m).1 22 k)
    rw [adc_L, adc0_WC hw]
    rw [pk_un (by omega)]; exact h4 k hk
  · intro r hr
    rw [adc0_NR hw] at hr
    have er : rwR (adc c m) r = if r = (c.1 5 0) then kk * 4 + cc else rwR c r := by
      unfold rwR
      rw [adc0_RO hw, adc0_RX hw]
      by_cases e : r = (c.1 5 0)
      · rw [if_pos e, if_pos e, if_pos e, hk1, hc]
      · rw [if_neg e, if_neg e, if_neg e]
    have hsh : ∀ g, shF (adc c m) g = shF c g := fun g => by unfold shF; rw [adc0_TC hw, adc0_TW hw, adc0_TP hw, adc0_TT hw]
    show (upd (q.2.2 8) (kk * 4 + cc) (nI m) (rwR (adc c m) r) = nI ((adc c m).1 25 r) ∧ upd (q.2.2 10) (kk * 4 + cc) 0 (rwR (adc c m) r) = nI ((adc c m).1 28 r) ∧ ∀ i, i < (adc c m).1 28 r → q.2.2 11 (rwR (adc c m) r * 4 + i) = shF (adc c m) ((adc c m).1 27 r + i) ∧ q.2.2 12 (rwR (adc c m) r * 4 + i) = (adc c m).2.2 ((adc c m).1 27 r + i) ∧ tp (rwR (adc c m) r * 4 + i) = nI ((adc c m).1 40 ((adc c m).1 27 r + i))) ∧ upd (q.2.2 9) (kk * 4 + cc) (rf 8) (rwR (adc c m) r) = nI ((adc c m).1 26 r)
    rw [er, adc0_RK hw, adc0_RM hw, adc0_RF hw, adc_B, adc0_TQ hw, adc0_RU hw]
    by_cases e : r = (c.1 5 0)
    · simp only [if_pos e]
      rw [pk_us, pk_us, pk_us]
      exact ⟨⟨rfl, rfl, fun i hi => absurd hi (by omega)⟩, h8⟩
    · simp only [if_neg e, hsh]
      have hr' : r < (c.1 5 0) := by omega
      have g := hA.2.1 r hr'
      have hne : rwR c r ≠ kk * 4 + cc := by
        intro ee
        unfold rwR at ee
        have g1 := g.2.1
        have g0 := g.1
        have g3 := hA.1.2.2.1 _ g.1
        by_cases eo : c.1 23 (r) = kk
        · rw [eo, hc] at g1; rw [eo] at ee; omega
        · omega
      rw [pk_un hne, pk_un hne, pk_un hne]
      exact h5 r hr'
  · intro r hr
    rw [adc0_NW hw] at hr
    have g := hA.2.2.1 r hr
    have hz : (c.1 6 0) = 0 := hNN
    omega

set_option maxHeartbeats 2000000 in
theorem RA_adt0 {v sh : Int32} {row tt : Nat} (hA : AI c) (h : RA c q tp) (hw : (c.1 10 0) = 0) (h1 : 1 ≤ (c.1 5 0)) (h2 : c.1 27 ((c.1 5 0) - 1) + c.1 28 ((c.1 5 0) - 1) = (c.1 8 0)) (hrow : rwR c ((c.1 5 0) - 1) = row) (htt : c.1 28 ((c.1 5 0) - 1) = tt) (ht4 : tt < 4) (hsh : sh = shp (nI (c.1 14 0)) (nI (c.1 15 0)) (nI (c.1 17 0)) (nI ((c.1 12 0) % 2))) : RA (adt c v) ((q.1.1, q.1.2.1, q.1.2.2 + 1), q.2.1, updA (updA (updA q.2.2 11 (row * 4 + tt) sh) 12 (row * 4 + tt) v) 10 row (nI (tt + 1))) (upd tp (row * 4 + tt) (nI (c.1 16 0))) := by
  obtain ⟨hP, hq1, h3, h4, h5, h6⟩ := h
  have hlow : ∀ g, g < (c.1 8 0) → shF (adt c v) g = shF c g := fun g hg => by
    have en : ¬ g = (c.1 8 0) := by omega
    unfold shF; rw [adt0_TC hw, adt0_TW hw, adt0_TP hw, adt0_TT hw, if_neg en, if_neg en, if_neg en, if_neg en]
  have hlowB : ∀ g, g < (c.1 8 0) → (adt c v).2.2 g = c.2.2 g := fun g hg => by rw [adt_B, pk_un (by omega)]
  have hlowQ : ∀ g, g < (c.1 8 0) → (adt c v).1 40 g = c.1 40 g := fun g hg => by
    have en : ¬ g = (c.1 8 0) := by omega
    rw [adt0_TQ hw, if_neg en]
  refine ⟨?_, ?_, ?_, ?_, ?_, ?_⟩
  · apply PI_set10 (k := row) (c := tt + 1) hP
    · exact hP.1
    · exact hP.2.1
    · rfl
    · rfl
    · omega
  · show (q.1.1, q.1.2.1, q.1.2.2 + 1) = ((adt c v).1 4 0, (adt c v).1 6 0, (adt c v).1 8 0)
    rw [adt0_NC hw, adt0_NN hw, adt0_NT hw, hq1]
  · intro k hk
    rw [adt0_NC hw] at hk
    show q.2.1 k = e32 ((adt c v).2.1 0 k) ∧ q.2.2 5 k = nI ((adt c v).1 20 k) ∧ q.2.2 6 k = 0 ∧ q.2.2 4 k = nI ((adt c v).1 21 k)
    rw [adt_L0, adt0_TO hw, adt0_RC hw]; exact h3 k hk
  · intro k hk
    rw [adt0_NN hw] at hk
    show q.2.1 (6 + k) = e32 ((adt c v).2.1 1 k) ∧ q.2.2 4 (6 + k) = nI ((adt c v).1 22 k)
    rw [adt_L1, adt0_WC hw]; exact h4 k hk
  · intro r hr
    rw [adt0_NR hw] at hr
    have er : rwR (adt c v) r = rwR c r := by unfold rwR; rw [adt0_RO hw, adt0_RX hw]
    have g := hA.2.1 r hr
    have hold := h5 r hr
    show (q.2.2 8 (rwR (adt c v) r) = nI ((adt c v).1 25 r) ∧ upd (q.2.2 10) row (nI (tt + 1)) (rwR (adt c v) r) = nI ((adt c v).1 28 r) ∧ ∀ i, i < (adt c v).1 28 r → upd (q.2.2 11) (row * 4 + tt) sh (rwR (adt c v) r * 4 + i) = shF (adt c v) ((adt c v).1 27 r + i) ∧ upd (q.2.2 12) (row * 4 + tt) v (rwR (adt c v) r * 4 + i) = (adt c v).2.2 ((adt c v).1 27 r + i) ∧ upd tp (row * 4 + tt) (nI (c.1 16 0)) (rwR (adt c v) r * 4 + i) = nI ((adt c v).1 40 ((adt c v).1 27 r + i))) ∧ q.2.2 9 (rwR (adt c v) r) = nI ((adt c v).1 26 r)
    rw [er, adt0_RK hw, adt0_RM hw, adt0_RF hw, adt0_RU hw]
    by_cases e : r = (c.1 5 0) - 1
    · have erow : rwR c r = row := by rw [e]; exact hrow
      rw [if_pos e, erow, pk_us]
      rw [erow] at hold
      have em : c.1 28 (r) = tt := by rw [e]; exact htt
      have ef : c.1 27 (r) + tt = (c.1 8 0) := by rw [← em, e]; omega
      refine ⟨⟨hold.1.1, by rw [htt], fun i hi => ?_⟩, hold.2⟩
      by_cases ei : i = tt
      · subst ei
        rw [pk_us, pk_us, pk_us, ef, adt_B, pk_us]
        refine ⟨?_, rfl, ?_⟩
        · unfold shF
          rw [adt0_TC hw, adt0_TW hw, adt0_TP hw, adt0_TT hw, if_pos rfl, if_pos rfl, if_pos rfl, if_pos rfl]; exact hsh
        · rw [adt0_TQ hw, if_pos rfl]
      · have hi' : i < c.1 28 (r) := by omega
        rw [pk_un (by omega), pk_un (by omega), pk_un (by omega), hlow _ (by omega), hlowB _ (by omega), hlowQ _ (by omega)]
        exact hold.1.2.2 i hi'
    · rw [if_neg e]
      have hne : rwR c r ≠ row := by
        have g3 := hA.1.2.2.1 _ g.1
        have g5 := hA.2.1 ((c.1 5 0) - 1) (by omega)
        have g6 := hA.1.2.2.1 _ g5.1
        have g7 := hA.2.2.2.1.1 r (by omega)
        rw [← hrow]; unfold rwR
        intro ee
        by_cases eo : c.1 23 (r) = c.1 23 ((c.1 5 0) - 1)
        · have := g7 eo; rw [eo] at ee; omega
        · omega
      rw [pk_un hne]
      exact ⟨⟨hold.1.1, hold.1.2.1, fun i hi => by
        have q := hold.1.2.2 i hi
        rw [pk_un (by omega), pk_un (by omega), pk_un (by omega), hlow _ (by omega), hlowB _ (by omega), hlowQ _ (by omega)]
        exact q⟩, hold.2⟩
  · intro r hr
    rw [adt0_NW hw] at hr
    have er : rwW (adt c v) r = rwW c r := by unfold rwW; rw [adt0_WO hw, adt0_WX hw]
    have g := hA.2.2.1 r hr
    have hold := h6 r hr
    show (q.2.2 8 (rwW (adt c v) r) = nI ((adt c v).1 31 r) ∧ upd (q.2.2 10) row (nI (tt + 1)) (rwW (adt c v) r) = nI ((adt c v).1 33 r) ∧ ∀ i, i < (adt c v).1 33 r → upd (q.2.2 11) (row * 4 + tt) sh (rwW (adt c v) r * 4 + i) = shF (adt c v) ((adt c v).1 32 r + i) ∧ upd (q.2.2 12) (row * 4 + tt) v (rwW (adt c v) r * 4 + i) = (adt c v).2.2 ((adt c v).1 32 r + i) ∧ upd tp (row * 4 + tt) (nI (c.1 16 0)) (rwW (adt c v) r * 4 + i) = nI ((adt c v).1 40 ((adt c v).1 32 r + i)))
    rw [er, adt0_WK hw, adt0_WM hw, adt0_WF hw]
    have hne : rwW c r ≠ row := by
      have g3 := hA.1.2.2.2 _ g.1
      have g0 := hA.1.1
      have g5 := hA.2.1 ((c.1 5 0) - 1) (by omega)
      have g6 := hA.1.2.2.1 _ g5.1
      rw [← hrow]; unfold rwR rwW; omega
    rw [pk_un hne]
    exact ⟨hold.1, hold.2.1, fun i hi => by
      have q := hold.2.2 i hi
      rw [pk_un (by omega), pk_un (by omega), pk_un (by omega), hlow _ (by omega), hlowB _ (by omega), hlowQ _ (by omega)]
      exact q⟩

set_option maxHeartbeats 1000000 in
theorem RA_adc1 {m kk cc : Nat} (hA : AI c) (h : RA c q tp) (hw : ¬ (c.1 10 0) = 0) (hk : (c.1 6 0) = kk + 1) (hc : c.1 22 (kk) = cc) (hc4 : cc < 8) : RA (adc c m) (q.1, q.2.1, updA (updA (updA (updA q.2.2 4 (6 + kk) (nI (cc + 1))) 8 (24 + kk * 8 + cc) (nI m)) 9 (24 + kk * 8 + cc) (rf 8)) 10 (24 + kk * 8 + cc) 0) tp := by
  obtain ⟨hP, hq1, h3, h4, h5, h6⟩ := h
  have e1 : q.1.1 = (c.1 4 0) := by rw [hq1]
  have e2 : q.1.2.1 = (c.1 6 0) := by rw [hq1]
  have g6 := hP.1
  have g24 := hP.2.1
  have hk1 : (c.1 6 0) - 1 = kk := by omega
  refine ⟨?_, ?_, ?_, ?_, ?_, ?_⟩
  · apply PI_set10 (c := 0) (PI_set4 hP (k := (6 + kk)) (c := cc + 1) (fun _ => by omega) (fun _ => by omega))
    · exact hP.1
    · exact hP.2.1
    · rfl
    · rfl
    · omega
  · show q.1 = ((adc c m).1 4 0, (adc c m).1 6 0, (adc c m).1 8 0)
    rw [adc1_NC hw, adc1_NN hw, adc1_NT hw]; exact hq1
  · intro k hk
    rw [adc1_NC hw] at hk
    show q.2.1 k = e32 ((adc c m).2.1 0 k) ∧ q.2.2 5 k = nI ((adc c m).1 20 k) ∧ q.2.2 6 k = 0 ∧ upd (q.2.2 4) (6 + kk) (nI (cc + 1)) k = nI ((adc c m).1 21 k)
    rw [adc_L, adc1_TO hw, adc1_RC hw]
    rw [pk_un (by omega)]; exact h3 k hk
  · intro k hk
    rw [adc1_NN hw] at hk
    show q.2.1 (6 + k) = e32 ((adc c m).2.1 1 k) ∧ upd (q.2.2 4) (6 + kk) (nI (cc + 1)) (6 + k) = nI ((adc c m).1 22 k)
    rw [adc_L, adc1_WC hw]
    rw [hk1, hc]
    by_cases e : k = kk
    · rw [e, pk_us, if_pos rfl]; exact ⟨(h4 kk (by omega)).1, rfl⟩
    · rw [pk_un (by omega), if_neg e]; exact h4 k hk
  · intro r hr
    rw [adc1_NR hw] at hr
    have g := hA.2.1 r hr
    have g3 := hA.1.2.2.1 _ g.1
    have g0 := hA.1.1
    have hne : rwR c r ≠ 24 + kk * 8 + cc := by unfold rwR; omega
    have hsh : ∀ g, shF (adc c m) g = shF c g := fun g => by unfold shF; rw [adc1_TC hw, adc1_TW hw, adc1_TP hw, adc1_TT hw]
    have er : rwR (adc c m) r = rwR c r := by unfold rwR; rw [adc1_RO hw, adc1_RX hw]
    show (upd (q.2.2 8) (24 + kk * 8 + cc) (nI m) (rwR (adc c m) r) = nI ((adc c m).1 25 r) ∧ upd (q.2.2 10) (24 + kk * 8 + cc) 0 (rwR (adc c m) r) = nI ((adc c m).1 28 r) ∧ ∀ i, i < (adc c m).1 28 r → q.2.2 11 (rwR (adc c m) r * 4 + i) = shF (adc c m) ((adc c m).1 27 r + i) ∧ q.2.2 12 (rwR (adc c m) r * 4 + i) = (adc c m).2.2 ((adc c m).1 27 r + i) ∧ tp (rwR (adc c m) r * 4 + i) = nI ((adc c m).1 40 ((adc c m).1 27 r + i))) ∧ upd (q.2.2 9) (24 + kk * 8 + cc) (rf 8) (rwR (adc c m) r) = nI ((adc c m).1 26 r)
    rw [er, adc1_RK hw, adc1_RM hw, adc1_RF hw, adc_B, adc1_TQ hw, adc1_RU hw, pk_un hne, pk_un hne, pk_un hne]
    simp only [hsh]
    exact h5 r hr
  · intro r hr
    rw [adc1_NW hw] at hr
    have er : rwW (adc c m) r = if r = (c.1 7 0) then 24 + kk * 8 + cc else rwW c r := by
      unfold rwW
      rw [adc1_WO hw, adc1_WX hw]
      by_cases e : r = (c.1 7 0)
      · rw [if_pos e, if_pos e, if_pos e, hk1, hc]
      · rw [if_neg e, if_neg e, if_neg e]
    have hsh : ∀ g, shF (adc c m) g = shF c g := fun g => by unfold shF; rw [adc1_TC hw, adc1_TW hw, adc1_TP hw, adc1_TT hw]
    show (upd (q.2.2 8) (24 + kk * 8 + cc) (nI m) (rwW (adc c m) r) = nI ((adc c m).1 31 r) ∧ upd (q.2.2 10) (24 + kk * 8 + cc) 0 (rwW (adc c m) r) = nI ((adc c m).1 33 r) ∧ ∀ i, i < (adc c m).1 33 r → q.2.2 11 (rwW (adc c m) r * 4 + i) = shF (adc c m) ((adc c m).1 32 r + i) ∧ q.2.2 12 (rwW (adc c m) r * 4 + i) = (adc c m).2.2 ((adc c m).1 32 r + i) ∧ tp (rwW (adc c m) r * 4 + i) = nI ((adc c m).1 40 ((adc c m).1 32 r + i)))
    rw [er, adc1_WK hw, adc1_WM hw, adc1_WF hw, adc_B, adc1_TQ hw]
    by_cases e : r = (c.1 7 0)
    · simp only [if_pos e]
      rw [pk_us, pk_us]
      exact ⟨rfl, rfl, fun i hi => absurd hi (by omega)⟩
    · simp only [if_neg e, hsh]
      have hr' : r < (c.1 7 0) := by omega
      have g := hA.2.2.1 r hr'
      have hne : rwW c r ≠ 24 + kk * 8 + cc := by
        intro ee
        unfold rwW at ee
        have g1 := g.2.1
        have g0 := g.1
        have g3 := hA.1.2.2.2 _ g.1
        by_cases eo : c.1 29 (r) = kk
        · rw [eo, hc] at g1; rw [eo] at ee; omega
        · omega
      rw [pk_un hne, pk_un hne]
      exact h6 r hr'

set_option maxHeartbeats 2000000 in
theorem RA_adt1 {v sh : Int32} {row tt : Nat} (hA : AI c) (h : RA c q tp) (hw : ¬ (c.1 10 0) = 0) (h1 : 1 ≤ (c.1 7 0)) (h2 : c.1 32 ((c.1 7 0) - 1) + c.1 33 ((c.1 7 0) - 1) = (c.1 8 0)) (hrow : rwW c ((c.1 7 0) - 1) = row) (htt : c.1 33 ((c.1 7 0) - 1) = tt) (ht4 : tt < 4) (hsh : sh = shp (nI (c.1 14 0)) (nI (c.1 15 0)) (nI (c.1 17 0)) (nI ((c.1 12 0) % 2))) : RA (adt c v) ((q.1.1, q.1.2.1, q.1.2.2 + 1), q.2.1, updA (updA (updA q.2.2 11 (row * 4 + tt) sh) 12 (row * 4 + tt) v) 10 row (nI (tt + 1))) (upd tp (row * 4 + tt) (nI (c.1 16 0))) := by
  obtain ⟨hP, hq1, h3, h4, h5, h6⟩ := h
  have hlow : ∀ g, g < (c.1 8 0) → shF (adt c v) g = shF c g := fun g hg => by
    have en : ¬ g = (c.1 8 0) := by omega
    unfold shF; rw [adt1_TC hw, adt1_TW hw, adt1_TP hw, adt1_TT hw, if_neg en, if_neg en, if_neg en, if_neg en]
  have hlowB : ∀ g, g < (c.1 8 0) → (adt c v).2.2 g = c.2.2 g := fun g hg => by rw [adt_B, pk_un (by omega)]
  have hlowQ : ∀ g, g < (c.1 8 0) → (adt c v).1 40 g = c.1 40 g := fun g hg => by
    have en : ¬ g = (c.1 8 0) := by omega
    rw [adt1_TQ hw, if_neg en]
  refine ⟨?_, ?_, ?_, ?_, ?_, ?_⟩
  · apply PI_set10 (k := row) (c := tt + 1) hP
    · exact hP.1
    · exact hP.2.1
    · rfl
    · rfl
    · omega
  · show (q.1.1, q.1.2.1, q.1.2.2 + 1) = ((adt c v).1 4 0, (adt c v).1 6 0, (adt c v).1 8 0)
    rw [adt1_NC hw, adt1_NN hw, adt1_NT hw, hq1]
  · intro k hk
    rw [adt1_NC hw] at hk
    show q.2.1 k = e32 ((adt c v).2.1 0 k) ∧ q.2.2 5 k = nI ((adt c v).1 20 k) ∧ q.2.2 6 k = 0 ∧ q.2.2 4 k = nI ((adt c v).1 21 k)
    rw [adt_L0, adt1_TO hw, adt1_RC hw]; exact h3 k hk
  · intro k hk
    rw [adt1_NN hw] at hk
    show q.2.1 (6 + k) = e32 ((adt c v).2.1 1 k) ∧ q.2.2 4 (6 + k) = nI ((adt c v).1 22 k)
    rw [adt_L1, adt1_WC hw]; exact h4 k hk
  · intro r hr
    rw [adt1_NR hw] at hr
    have er : rwR (adt c v) r = rwR c r := by unfold rwR; rw [adt1_RO hw, adt1_RX hw]
    have g := hA.2.1 r hr
    have hold := h5 r hr
    show (q.2.2 8 (rwR (adt c v) r) = nI ((adt c v).1 25 r) ∧ upd (q.2.2 10) row (nI (tt + 1)) (rwR (adt c v) r) = nI ((adt c v).1 28 r) ∧ ∀ i, i < (adt c v).1 28 r → upd (q.2.2 11) (row * 4 + tt) sh (rwR (adt c v) r * 4 + i) = shF (adt c v) ((adt c v).1 27 r + i) ∧ upd (q.2.2 12) (row * 4 + tt) v (rwR (adt c v) r * 4 + i) = (adt c v).2.2 ((adt c v).1 27 r + i) ∧ upd tp (row * 4 + tt) (nI (c.1 16 0)) (rwR (adt c v) r * 4 + i) = nI ((adt c v).1 40 ((adt c v).1 27 r + i))) ∧ q.2.2 9 (rwR (adt c v) r) = nI ((adt c v).1 26 r)
    rw [er, adt1_RK hw, adt1_RM hw, adt1_RF hw, adt1_RU hw]
    have hne : rwR c r ≠ row := by
      have g3 := hA.1.2.2.1 _ g.1
      have g0 := hA.1.1
      have g5 := hA.2.2.1 ((c.1 7 0) - 1) (by omega)
      have g6 := hA.1.2.2.2 _ g5.1
      rw [← hrow]; unfold rwR rwW; omega
    rw [pk_un hne]
    exact ⟨⟨hold.1.1, hold.1.2.1, fun i hi => by
      have q := hold.1.2.2 i hi
      rw [pk_un (by omega), pk_un (by omega), pk_un (by omega), hlow _ (by omega), hlowB _ (by omega), hlowQ _ (by omega)]
      exact q⟩, hold.2⟩
  · intro r hr
    rw [adt1_NW hw] at hr
    have er : rwW (adt c v) r = rwW c r := by unfold rwW; rw [adt1_WO hw, adt1_WX hw]
    have g := hA.2.2.1 r hr
    have hold := h6 r hr
    show (q.2.2 8 (rwW (adt c v) r) = nI ((adt c v).1 31 r) ∧ upd (q.2.2 10) row (nI (tt + 1)) (rwW (adt c v) r) = nI ((adt c v).1 33 r) ∧ ∀ i, i < (adt c v).1 33 r → upd (q.2.2 11) (row * 4 + tt) sh (rwW (adt c v) r * 4 + i) = shF (adt c v) ((adt c v).1 32 r + i) ∧ upd (q.2.2 12) (row * 4 + tt) v (rwW (adt c v) r * 4 + i) = (adt c v).2.2 ((adt c v).1 32 r + i) ∧ upd tp (row * 4 + tt) (nI (c.1 16 0)) (rwW (adt c v) r * 4 + i) = nI ((adt c v).1 40 ((adt c v).1 32 r + i)))
    rw [er, adt1_WK hw, adt1_WM hw, adt1_WF hw]
    by_cases e : r = (c.1 7 0) - 1
    · have erow : rwW c r = row := by rw [e]; exact hrow
      rw [if_pos e, erow, pk_us]
      rw [erow] at hold
      have em : c.1 33 (r) = tt := by rw [e]; exact htt
      have ef : c.1 32 (r) + tt = (c.1 8 0) := by rw [← em, e]; omega
      refine ⟨hold.1, by rw [htt], fun i hi => ?_⟩
      by_cases ei : i = tt
      · subst ei
        rw [pk_us, pk_us, pk_us, ef, adt_B, pk_us]
        refine ⟨?_, rfl, ?_⟩
        · unfold shF
          rw [adt1_TC hw, adt1_TW hw, adt1_TP hw, adt1_TT hw, if_pos rfl, if_pos rfl, if_pos rfl, if_pos rfl]; exact hsh
        · rw [adt1_TQ hw, if_pos rfl]
      · have hi' : i < c.1 33 (r) := by omega
        rw [pk_un (by omega), pk_un (by omega), pk_un (by omega), hlow _ (by omega), hlowB _ (by omega), hlowQ _ (by omega)]
        exact hold.2.2 i hi'
    · rw [if_neg e]
      have hne : rwW c r ≠ row := by
        have g3 := hA.1.2.2.2 _ g.1
        have g5 := hA.2.2.1 ((c.1 7 0) - 1) (by omega)
        have g6 := hA.1.2.2.2 _ g5.1
        have g7 := hA.2.2.2.1.2 r (by omega)
        rw [← hrow]; unfold rwW
        intro ee
        by_cases eo : c.1 29 (r) = c.1 29 ((c.1 7 0) - 1)
        · have := g7 eo; rw [eo] at ee; omega
        · omega
      rw [pk_un hne]
      exact ⟨hold.1, hold.2.1, fun i hi => by
        have q := hold.2.2 i hi
        rw [pk_un (by omega), pk_un (by omega), pk_un (by omega), hlow _ (by omega), hlowB _ (by omega), hlowQ _ (by omega)]
        exact q⟩

end Sim3
