/-! THE MODEL's rules: call, word -/
section ModM15
variable {G : aG} {σ0 : aS} {K : Option Value → aS → Prop} {m n : Nat} {f : Nat → Nat} {x : aX} {c : aN}
theorem c_M_262B {v w : Int32} {r : Nat} (hr : x.1 34 = nI r) (hr24 : r < 24) (h0 : ¬ x.1 24 = 0) (hK : ∀ z, PP x z → z.1 24 = x.1 24 → z.1 25 = x.1 25 → a_J G m_M_readCounter 9 194 153 [(0, .ref m), (1, .int (v + 1))] [] (mk σ0 m z) K) : a_J G m_M_readCounter 9 194 262 [(0, .ref m), (1, .int v)] [.int w, .int (nI r), .ref (m + 15)] (mk σ0 m x) K := by
  refine c_M_262 hr hr24 (sp_M_readGuardsB h0 (c_M_289B hr hr24 h0 (hK _ ⟨fun k hk => ?_, fun a ha _ _ => ?_⟩ rfl rfl)))
  · show upd x.1 34 _ k = x.1 k; rw [pk_un (by omega)]
  · show updA (updA (updA x.2.2.1 15 _ _) 16 _ _) 17 _ _ a = _
    rw [updA_ne (by omega), updA_ne (by omega), updA_ne (by omega)]
/-- a rule is begun: the rows stay -/
theorem adc_rows {y : aX} (t : aK) (k : Nat) (hwy : (c.1 10 0) = 0) (hA : AI c) (hM : MGd c y) (hMC : MC c y (c.1 4 0)) (hMN : MNd c y) (hMR : MRl c y (c.1 5 0)) (hMW : MWy c y (c.1 7 0)) : MGd (gt t (adc c k) 9) y ∧ MC (gt t (adc c k) 9) y ((gt t (adc c k) 9).1 4 0) ∧ MNd (gt t (adc c k) 9) y ∧ MRl (gt t (adc c k) 9) y ((gt t (adc c k) 9).1 5 0 - 1) ∧ MWy (gt t (adc c k) 9) y ((gt t (adc c k) 9).1 7 0) ∧ acm (gt t (adc c k) 9) = 0 ∧ acl (gt t (adc c k) 9) = k ∧ (gt t (adc c k) 9).1 23 ((gt t (adc c k) 9).1 5 0 - 1) = (c.1 4 0) - 1 ∧ (gt t (adc c k) 9).1 26 ((gt t (adc c k) 9).1 5 0 - 1) = (c.1 11 0) ∧ (gt t (adc c k) 9).1 5 0 - 1 = (c.1 5 0) ∧ (gt t (adc c k) 9).1 10 0 = 0 ∧ (gt t (adc c k) 9).1 2 0 = (c.1 2 0) := by
  have eg : ∀ a, ¬ a = 0 → ¬ a = 1 → (gt t (adc c k) 9).1 a = (adc c k).1 a := fun a h1 h2 => by show xN (xN _ 0 0 9) 1 0 _ a = _; rw [xN_ne h2, xN_ne h1]
  have eL : (gt t (adc c k) 9).2.1 = c.2.1 := adc_L c k
  have eB : (gt t (adc c k) 9).2.2 = c.2.2 := adc_B c k
  have e4 := (eg 4 (by omega) (by omega)).trans (adc0_NC hwy)
  have e5 : (gt t (adc c k) 9).1 5 0 = (c.1 5 0) + 1 := by rw [eg 5 (by omega) (by omega)]; exact adc0_NR hwy
  have e6 := (eg 6 (by omega) (by omega)).trans (adc0_NN hwy)
  have e7 := (eg 7 (by omega) (by omega)).trans (adc0_NW hwy)
  have e8 := (eg 8 (by omega) (by omega)).trans (adc0_NT hwy)
  have e9 := (eg 9 (by omega) (by omega)).trans (adc0_NL hwy)
  have e10 := (eg 10 (by omega) (by omega)).trans (adc0_WY hwy)
  refine ⟨?_, ?_, ?_, ?_, ?_, ?_, ?_, ?_, ?_, ?_, ?_, ?_⟩
  · unfold MGd gOK lOK
    rw [e8, e9, eg 36 (by omega) (by omega), adc0_TC hwy, eg 37 (by omega) (by omega), adc0_TW hwy, eg 38 (by omega) (by omega), adc0_TP hwy, eg 39 (by omega) (by omega), adc0_TT hwy, eg 41 (by omega) (by omega), adc0_LW hwy, eg 42 (by omega) (by omega), adc0_LO hwy, eg 43 (by omega) (by omega), adc0_LC hwy, eg 44 (by omega) (by omega), adc0_LP hwy, eL, eB]
    exact hM
  · unfold MC
    rw [e4, eg 20 (by omega) (by omega), adc0_TO hwy, eL]; exact hMC
  · unfold MNd
    rw [e6, eL]; exact hMN
  · rw [e5, Nat.add_sub_cancel]
    refine ⟨hMR.1, fun r hr => ?_⟩
    have en : ¬ r = (c.1 5 0) := by omega
    rw [eg 23 (by omega) (by omega), adc0_RO hwy, eg 26 (by omega) (by omega), adc0_RU hwy, eg 25 (by omega) (by omega), adc0_RK hwy, eg 27 (by omega) (by omega), adc0_RF hwy, eg 28 (by omega) (by omega), adc0_RM hwy, if_neg en, if_neg en, if_neg en, if_neg en, if_neg en]
    exact hMR.2 r hr
  · unfold MWy
    rw [e7, eg 29 (by omega) (by omega), adc0_WO hwy, eg 31 (by omega) (by omega), adc0_WK hwy, eg 32 (by omega) (by omega), adc0_WF hwy, eg 33 (by omega) (by omega), adc0_WM hwy, eL]; exact hMW
  · unfold acm
    rw [e10, if_pos hwy, e5, Nat.add_sub_cancel, eg 28 (by omega) (by omega), adc0_RM hwy, if_pos rfl]
  · unfold acl
    rw [e10, if_pos hwy, e5, Nat.add_sub_cancel, eg 25 (by omega) (by omega), adc0_RK hwy, if_pos rfl]
  · rw [e5, Nat.add_sub_cancel, eg 23 (by omega) (by omega), adc0_RO hwy, if_pos rfl]
  · rw [e5, Nat.add_sub_cancel, eg 26 (by omega) (by omega), adc0_RU hwy, if_pos rfl]
  · rw [e5, Nat.add_sub_cancel]
  · rw [e10]; exact hwy
  · rw [eg 2 (by omega) (by omega), adc0_FA hwy]
set_option maxHeartbeats 1000000 in
set_option maxRecDepth 100000 in
theorem c_M_250A {v : Int32} {r : Nat} (hr : x.1 34 = nI r) (hT : MX x n f) {a : Nat} (hA : x.1 19 = nI a) (ha : a ≤ n) (h0 : x.1 24 = 0) (ht : ¬ mW x 45 = 0) (hK : ∀ y, NX n f a x y → a_J G m_M_readCounter 9 194 262 [(0, .ref m), (1, .int v)] [.int (-1), .int (nI r), .ref (m + 15)] (mk σ0 m y) K) : a_J G m_M_readCounter 9 194 250 [(0, .ref m), (1, .int v)] [] (mk σ0 m x) K := by
  refine a_aload_n d_M_readCounter_250 rfl rfl ?_
  refine m_get d_M_readCounter_251 f_M_58 rfl ?_
  refine a_aload_n d_M_readCounter_254 rfl rfl ?_
  refine m_get (v := .int (nI r)) d_M_readCounter_255 f_M_239 (congrArg (fun z => some (Value.int z)) hr) ?_
  refine a_aload_n d_M_readCounter_258 rfl rfl ?_
  apply a_callV (ci := 7) 6 129 [] _ d_M_readCounter_259 l_M_273 ⟨im_M_readCall, se_M_readCall⟩ rfl rfl rfl rfl (Nat.le_of_ble_eq_true rfl) ⟨Nat.le_of_ble_eq_true rfl, Nat.le_of_ble_eq_true rfl⟩
  · (exact mk_O)
  refine sp_M_readCallA hT hA ha h0 ht (fun y hy => ?_)
  exact hK y hy

set_option maxHeartbeats 1000000 in
set_option maxRecDepth 100000 in
theorem c_M_250N {v : Int32} {r : Nat} (hr : x.1 34 = nI r) (hT : MX x n f) {a : Nat} (hA : x.1 19 = nI a) (ha : a ≤ n) (h0 : x.1 24 = 0) (ht : mW x 45 = 0) (h3 : x.1 20 = 3 ∧ 0 ≤ x.2.1 23 ∧ x.2.1 23 < 16) (hK : ∀ y, NX n f a x y → a_J G m_M_readCounter 9 194 262 [(0, .ref m), (1, .int v)] [.int (x.2.1 23).toInt32, .int (nI r), .ref (m + 15)] (mk σ0 m y) K) : a_J G m_M_readCounter 9 194 250 [(0, .ref m), (1, .int v)] [] (mk σ0 m x) K := by
  refine a_aload_n d_M_readCounter_250 rfl rfl ?_
  refine m_get d_M_readCounter_251 f_M_58 rfl ?_
  refine a_aload_n d_M_readCounter_254 rfl rfl ?_
  refine m_get (v := .int (nI r)) d_M_readCounter_255 f_M_239 (congrArg (fun z => some (Value.int z)) hr) ?_
  refine a_aload_n d_M_readCounter_258 rfl rfl ?_
  apply a_callV (ci := 7) 6 129 [] _ d_M_readCounter_259 l_M_273 ⟨im_M_readCall, se_M_readCall⟩ rfl rfl rfl rfl (Nat.le_of_ble_eq_true rfl) ⟨Nat.le_of_ble_eq_true rfl, Nat.le_of_ble_eq_true rfl⟩
  · (exact mk_O)
  refine sp_M_readCallN hT hA ha h0 ht h3 (fun y hy => ?_)
  exact hK y hy

set_option maxHeartbeats 1000000 in
set_option maxRecDepth 100000 in
theorem c_M_250F {v : Int32} {r : Nat} (hr : x.1 34 = nI r) (ht : mW x 45 = 0) (h3 : ¬ (x.1 20 = 3 ∧ 0 ≤ x.2.1 23 ∧ x.2.1 23 < 16)) (hK : a_J G m_M_readCounter 9 194 262 [(0, .ref m), (1, .int v)] [.int 0, .int (nI r), .ref (m + 15)] (mk σ0 m (muX x 0)) K) : a_J G m_M_readCounter 9 194 250 [(0, .ref m), (1, .int v)] [] (mk σ0 m x) K := by
  refine a_aload_n d_M_readCounter_250 rfl rfl ?_
  refine m_get d_M_readCounter_251 f_M_58 rfl ?_
  refine a_aload_n d_M_readCounter_254 rfl rfl ?_
  refine m_get (v := .int (nI r)) d_M_readCounter_255 f_M_239 (congrArg (fun z => some (Value.int z)) hr) ?_
  refine a_aload_n d_M_readCounter_258 rfl rfl ?_
  apply a_callV (ci := 7) 6 129 [] _ d_M_readCounter_259 l_M_273 ⟨im_M_readCall, se_M_readCall⟩ rfl rfl rfl rfl (Nat.le_of_ble_eq_true rfl) ⟨Nat.le_of_ble_eq_true rfl, Nat.le_of_ble_eq_true rfl⟩
  · (exact mk_O)
  refine sp_M_readCallF ht h3 ?_
  exact hK

set_option maxHeartbeats 1000000 in
set_option maxRecDepth 100000 in
theorem c_M_250B {v : Int32} {r : Nat} (hr : x.1 34 = nI r) (h0 : ¬ x.1 24 = 0) (hK : a_J G m_M_readCounter 9 194 262 [(0, .ref m), (1, .int v)] [.int 0, .int (nI r), .ref (m + 15)] (mk σ0 m x) K) : a_J G m_M_readCounter 9 194 250 [(0, .ref m), (1, .int v)] [] (mk σ0 m x) K := by
  refine a_aload_n d_M_readCounter_250 rfl rfl ?_
  refine m_get d_M_readCounter_251 f_M_58 rfl ?_
  refine a_aload_n d_M_readCounter_254 rfl rfl ?_
  refine m_get (v := .int (nI r)) d_M_readCounter_255 f_M_239 (congrArg (fun z => some (Value.int z)) hr) ?_
  refine a_aload_n d_M_readCounter_258 rfl rfl ?_
  apply a_callV (ci := 7) 6 129 [] _ d_M_readCounter_259 l_M_273 ⟨im_M_readCall, se_M_readCall⟩ rfl rfl rfl rfl (Nat.le_of_ble_eq_true rfl) ⟨Nat.le_of_ble_eq_true rfl, Nat.le_of_ble_eq_true rfl⟩
  · (exact mk_O)
  refine sp_M_readCallB h0 ?_
  exact hK

/-- what a rule leaves, told from its call -/
def RQ (n : Nat) (f : Nat → Nat) (c : aN) (z : aX) : Prop := (∃ e, aRc n f c e ∧ e.1 2 0 = 0 ∧ e.1 0 0 = 6 ∧ LKA n f (e.1 1 0) z ∧ MGd e z ∧ MC e z (e.1 4 0) ∧ MNd e z ∧ MRl e z (e.1 5 0) ∧ MWy e z (e.1 7 0) ∧ e.1 4 0 = (c.1 4 0) ∧ e.1 21 (e.1 4 0 - 1) = c.1 21 ((c.1 4 0) - 1) + 1 ∧ e.1 10 0 = 0 ∧ e.1 6 0 = (c.1 6 0)) ∨ (BAD n f c z ∧ MX z n f)
set_option maxHeartbeats 2000000 in
theorem c_M_250 {v : Int32} (hx : LKA n f (c.1 1 0) x) (h0 : (c.1 2 0) = 0) (hs : (c.1 0 0) = 8) (hwy : (c.1 10 0) = 0) (hA : AI c) (hJ : AJ n c) (hL : AL c) (hM : MGd c x) (hMC : MC c x (c.1 4 0)) (hMN : MNd c x) (hMR : MRl c x (c.1 5 0)) (hMW : MWy c x (c.1 7 0)) (hro : x.2.2.1 13 (c.1 5 0) = nI ((c.1 4 0) - 1)) (hup : x.2.2.1 14 (c.1 5 0) = nI (c.1 11 0)) (hK : ∀ z, PP x z → RQ n f c z → a_J G m_M_readCounter 9 194 153 [(0, .ref m), (1, .int (v + 1))] [] (mk σ0 m z) K) : a_J G m_M_readCounter 9 194 250 [(0, .ref m), (1, .int v)] [] (mk σ0 m x) K := by
  have hle := lx_le n f hx.2.1
  have hNT := NT_lt hA
  have hrl : (c.1 5 0) < 24 := by
    have h5 : Q5c c 8 := by have := hA.2.2.2.2.1; unfold Q5 at this; rw [hs] at this; exact this
    unfold Q5c at h5
    have h6 := hA.2.2.2.2.2.1
    have h7 := (h5.2.2.2.2.2.1 (by omega)).1 hwy
    have h8 := hA.1.1
    omega
  have h8 := stT_8 (tok n f (c.1 1 0)) hs
  by_cases w1 : (tok n f (c.1 1 0)).1 = 3 ∧ (tok n f (c.1 1 0)).2.2.2.1 = jS 17
  · have hd : stT (tok n f (c.1 1 0)) c = gt (tok n f (c.1 1 0)) (adc c 16) 9 := by rw [h8]; unfold a8; rw [if_pos w1]
    have hFA : (gt (tok n f (c.1 1 0)) (adc c 16) 9).1 2 0 = 0 := by show (adc c 16).1 2 0 = 0; rw [adc_FA2]; exact h0
    refine c_M_250A hMR.1 hx.1 hx.2.2.2.2.1 hle.2.2.2 hx.2.2.1 (fun z => (W_iff hx (j := 45) (by decide) (by decide)).mp z w1) (fun y hy => ?_)
    obtain ⟨hr, hl⟩ := step_LKA hx h0 (by omega) hd hFA (by show 1 ≤ 9; decide) (by show 9 ≤ 17; decide) rfl hy
    have e34 : y.1 34 = nI (c.1 5 0) := (hy.pt.2 34 (by decide) (by decide) (by decide) (by decide) (by decide)).trans hMR.1
    rcases hl with hl | ⟨hl1, hl2⟩
    · obtain ⟨r1, r2, r3, r4, r5, r6, r7, r8, r9, r10, r11, r12⟩ := adc_rows (y := y) (tok n f (c.1 1 0)) 16 hwy hA (MGd_PT hM hy.pt) (hMC.pg hy.pt.pg) (hMN.pg hy.pt.pg) (hMR.pg hy.pt.pg) (hMW.pg hy.pt.pg)
      have ey := hy.pt.1
      have := c_M_262G (G := G) (σ0 := σ0) (m := m) (K := K) (v := v) (w := -1) (c := (gt (tok n f (c.1 1 0)) (adc c 16) 9)) hl hFA rfl r11 r6 (AI_Rc hA hr) (AJ_Rc hx.hf.1 hx.hf.2 hJ hr) (AL_Rc hA hL hr) r1 (by rw [r7]; rfl) r2 r3 r4 r5 (by rw [r10, ey, ← r10, r8]; rw [r10]; exact hro) (by rw [r10, ey, ← r10, r9]; rw [r10]; exact hup) (fun z hz hq => hK z (hy.pt.pg.pp.trans hz) ?_)
      · rw [r10] at this; exact this
      · rcases hq with ⟨e, s1, s2, s3, s4, s5, s6, s7, s8, s9, s10⟩ | ⟨s1, s2⟩
        · refine Or.inl ⟨e, hr.trans s1, s2, s3, s4, s5, s6, s7, s8, s9, ?_⟩
          have e4 := s10.1 4 (by omega)
          have e21 := s10.1 21 (by omega)
          have e10 := s10.1 10 (by omega)
          have e6 := s10.1 6 (by omega)
          refine ⟨?_, ?_, ?_, ?_⟩
          · rw [e4]; show (adc c 16).1 4 0 = (c.1 4 0); rw [adc0_NC hwy]
          · rw [e21, e4]; show (adc c 16).1 21 ((adc c 16).1 4 0 - 1) = _; rw [adc0_NC hwy, adc0_RC hwy, if_pos rfl]
          · rw [e10]; exact r11
          · rw [e6]; show (adc c 16).1 6 0 = (c.1 6 0); rw [adc0_NN hwy]
        · exact Or.inr ⟨s1.of hr, s2⟩
    · exact c_M_262B e34 (by omega) hl1.ne (fun z hz h1 h2 => hK z (hy.pt.pg.pp.trans hz) (Or.inr ⟨hl1.eq h1 h2, hz.mx hl2⟩))
  · have n1 := (W_iff hx (j := 45) (by decide) (by decide)).mpr w1
    have hnum : (x.1 20 = 3 ∧ 0 ≤ x.2.1 23 ∧ x.2.1 23 < 16) ↔ ((tok n f (c.1 1 0)).1 = 4 ∧ 0 ≤ (tok n f (c.1 1 0)).2.2.2.2 ∧ (tok n f (c.1 1 0)).2.2.2.2 ≤ 15) := by
      rw [tk_3 hx]
      have e16 : (16 : Int32).toInt = 16 := by decide
      have e15 : (15 : Int32).toInt = 15 := by decide
      constructor
      · intro g
        have e := hx.2.2.2.2.2.2.2.2.1 g.1
        rw [e] at g
        have g2 : tkV n f (c.1 1 0) < 16 := (i64_lt _ 16).mp g.2.2
        refine ⟨g.1, (i64_le 0 _).mp g.2.1, ?_⟩
        show tkV n f (c.1 1 0) ≤ 15
        rw [Int32.lt_iff_toInt_lt] at g2
        rw [Int32.le_iff_toInt_le]
        omega
      · intro g
        have e := hx.2.2.2.2.2.2.2.2.1 g.1
        rw [e]
        have g2 : tkV n f (c.1 1 0) ≤ 15 := g.2.2
        refine ⟨g.1, (i64_le 0 _).mpr g.2.1, (i64_lt _ 16).mpr ?_⟩
        rw [Int32.le_iff_toInt_le] at g2
        rw [Int32.lt_iff_toInt_lt]
        omega
    by_cases w2 : (tok n f (c.1 1 0)).1 = 4 ∧ 0 ≤ (tok n f (c.1 1 0)).2.2.2.2 ∧ (tok n f (c.1 1 0)).2.2.2.2 ≤ 15
    · have hd : stT (tok n f (c.1 1 0)) c = gt (tok n f (c.1 1 0)) (adc c ((tok n f (c.1 1 0)).2.2.2.2.toNatClampNeg)) 9 := by rw [h8]; unfold a8; rw [if_neg w1, if_pos w2]
      have hFA : (gt (tok n f (c.1 1 0)) (adc c ((tok n f (c.1 1 0)).2.2.2.2.toNatClampNeg)) 9).1 2 0 = 0 := by show (adc c ((tok n f (c.1 1 0)).2.2.2.2.toNatClampNeg)).1 2 0 = 0; rw [adc_FA2]; exact h0
      obtain ⟨j, hj, ej⟩ := nI_of2 (x := (tok n f (c.1 1 0)).2.2.2.2) (M := 15) (n := 15) rfl (fun g => absurd (Int32.lt_of_le_of_lt w2.2.1 g) (by decide)) w2.2.2
      have ev : (x.2.1 23).toInt32 = nI j := by rw [hx.2.2.2.2.2.2.2.2.1 w2.1, i32_64]; exact ej
      have ec : (tok n f (c.1 1 0)).2.2.2.2.toNatClampNeg = j := by rw [ej, nI_clamp (by omega)]
      refine c_M_250N hMR.1 hx.1 hx.2.2.2.2.1 hle.2.2.2 hx.2.2.1 n1 (hnum.mpr w2) (fun y hy => ?_)
      rw [ev]
      obtain ⟨hr, hl⟩ := step_LKA hx h0 (by omega) hd hFA (by show 1 ≤ 9; decide) (by show 9 ≤ 17; decide) rfl hy
      have e34 : y.1 34 = nI (c.1 5 0) := (hy.pt.2 34 (by decide) (by decide) (by decide) (by decide) (by decide)).trans hMR.1
      rcases hl with hl | ⟨hl1, hl2⟩
      · obtain ⟨r1, r2, r3, r4, r5, r6, r7, r8, r9, r10, r11, r12⟩ := adc_rows (y := y) (tok n f (c.1 1 0)) ((tok n f (c.1 1 0)).2.2.2.2.toNatClampNeg) hwy hA (MGd_PT hM hy.pt) (hMC.pg hy.pt.pg) (hMN.pg hy.pt.pg) (hMR.pg hy.pt.pg) (hMW.pg hy.pt.pg)
        have ey := hy.pt.1
        have := c_M_262G (G := G) (σ0 := σ0) (m := m) (K := K) (v := v) (w := nI j) (c := (gt (tok n f (c.1 1 0)) (adc c ((tok n f (c.1 1 0)).2.2.2.2.toNatClampNeg)) 9)) hl hFA rfl r11 r6 (AI_Rc hA hr) (AJ_Rc hx.hf.1 hx.hf.2 hJ hr) (AL_Rc hA hL hr) r1 (by rw [r7]; rw [ec]; unfold ccF; rw [if_neg (by omega)]) r2 r3 r4 r5 (by rw [r10, ey, ← r10, r8]; rw [r10]; exact hro) (by rw [r10, ey, ← r10, r9]; rw [r10]; exact hup) (fun z hz hq => hK z (hy.pt.pg.pp.trans hz) ?_)
        · rw [r10] at this; exact this
        · rcases hq with ⟨e, s1, s2, s3, s4, s5, s6, s7, s8, s9, s10⟩ | ⟨s1, s2⟩
          · refine Or.inl ⟨e, hr.trans s1, s2, s3, s4, s5, s6, s7, s8, s9, ?_⟩
            have e4 := s10.1 4 (by omega)
            have e21 := s10.1 21 (by omega)
            have e10 := s10.1 10 (by omega)
            have e6 := s10.1 6 (by omega)
            refine ⟨?_, ?_, ?_, ?_⟩
            · rw [e4]; show (adc c ((tok n f (c.1 1 0)).2.2.2.2.toNatClampNeg)).1 4 0 = (c.1 4 0); rw [adc0_NC hwy]
            · rw [e21, e4]; show (adc c ((tok n f (c.1 1 0)).2.2.2.2.toNatClampNeg)).1 21 ((adc c ((tok n f (c.1 1 0)).2.2.2.2.toNatClampNeg)).1 4 0 - 1) = _; rw [adc0_NC hwy, adc0_RC hwy, if_pos rfl]
            · rw [e10]; exact r11
            · rw [e6]; show (adc c ((tok n f (c.1 1 0)).2.2.2.2.toNatClampNeg)).1 6 0 = (c.1 6 0); rw [adc0_NN hwy]
          · exact Or.inr ⟨s1.of hr, s2⟩
      · exact c_M_262B e34 (by omega) hl1.ne (fun z hz h1 h2 => hK z (hy.pt.pg.pp.trans hz) (Or.inr ⟨hl1.eq h1 h2, hz.mx hl2⟩))
    · have hd : stT (tok n f (c.1 1 0)) c = wr (tok n f (c.1 1 0)) c := by rw [h8]; unfold a8; rw [if_neg w1, if_neg w2]
      have hb := BAD_must hx h0 (by omega) hd
      refine c_M_250F hMR.1 n1 (fun z => w2 (hnum.mp z)) (c_M_262B ((( PT.mu x).2 34 (by decide) (by decide) (by decide) (by decide) (by decide)).trans hMR.1) (by omega) hb.ne (fun z hz h1 h2 => hK z ((PT.mu x).pg.pp.trans hz) (Or.inr ⟨hb.eq h1 h2, hz.mx ((PT.mu x).mx hx.1)⟩)))
end ModM15
