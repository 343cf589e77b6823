/-! THE MODEL's ways: call, word -/
section ModM19
variable {G : aG} {σ0 : aS} {K : Option Value → aS → Prop} {m n : Nat} {f : Nat → Nat} {x : aX} {c : aN}
/-- a way is begun: the rows stay -/
theorem adc_rows1 {y : aX} (t : aK) (k : Nat) (hwy : ¬ (c.1 10 0) = 0) (hM : MGd c y) (hMC : MC c y (c.1 4 0)) (hMN : MNd c y) (hMR : MRl c y (c.1 5 0)) (hMW : MWy c y (c.1 7 0)) : MGd (gt t (adc c k) 9) y ∧ MC (gt t (adc c k) 9) y ((gt t (adc c k) 9).1 4 0) ∧ MNd (gt t (adc c k) 9) y ∧ MRl (gt t (adc c k) 9) y ((gt t (adc c k) 9).1 5 0) ∧ MWy (gt t (adc c k) 9) y ((gt t (adc c k) 9).1 7 0 - 1) ∧ acm (gt t (adc c k) 9) = 0 ∧ acl (gt t (adc c k) 9) = k ∧ (gt t (adc c k) 9).1 32 ((gt t (adc c k) 9).1 7 0 - 1) = (c.1 8 0) ∧ (gt t (adc c k) 9).1 10 0 = (c.1 10 0) ∧ (gt t (adc c k) 9).1 22 ((c.1 6 0) - 1) = c.1 22 ((c.1 6 0) - 1) + 1 ∧ (gt t (adc c k) 9).1 6 0 = (c.1 6 0) := by
  have eg : ∀ a, ¬ a = 0 → ¬ a = 1 → (gt t (adc c k) 9).1 a = (adc c k).1 a := fun a h1 h2 => by show xN (xN _ 0 0 9) 1 0 _ a = _; rw [xN_ne h2, xN_ne h1]
  have eL : (gt t (adc c k) 9).2.1 = c.2.1 := adc_L c k
  have eB : (gt t (adc c k) 9).2.2 = c.2.2 := adc_B c k
  have e4 := (eg 4 (by omega) (by omega)).trans (adc1_NC hwy)
  have e5 := (eg 5 (by omega) (by omega)).trans (adc1_NR hwy)
  have e6 := (eg 6 (by omega) (by omega)).trans (adc1_NN hwy)
  have e7 : (gt t (adc c k) 9).1 7 0 = (c.1 7 0) + 1 := by rw [eg 7 (by omega) (by omega)]; exact adc1_NW hwy
  have e8 := (eg 8 (by omega) (by omega)).trans (adc1_NT hwy)
  have e9 := (eg 9 (by omega) (by omega)).trans (adc1_NL hwy)
  have e10 := (eg 10 (by omega) (by omega)).trans (adc1_WY hwy)
  refine ⟨?_, ?_, ?_, ?_, ?_, ?_, ?_, ?_, ?_, ?_, ?_⟩
  · unfold MGd gOK lOK
    rw [e8, e9, eg 36 (by omega) (by omega), adc1_TC hwy, eg 37 (by omega) (by omega), adc1_TW hwy, eg 38 (by omega) (by omega), adc1_TP hwy, eg 39 (by omega) (by omega), adc1_TT hwy, eg 41 (by omega) (by omega), adc1_LW hwy, eg 42 (by omega) (by omega), adc1_LO hwy, eg 43 (by omega) (by omega), adc1_LC hwy, eg 44 (by omega) (by omega), adc1_LP hwy, eL, eB]
    exact hM
  · unfold MC
    rw [e4, eg 20 (by omega) (by omega), adc1_TO hwy, eL]; exact hMC
  · unfold MNd
    rw [e6, eL]; exact hMN
  · unfold MRl
    rw [e5, eg 23 (by omega) (by omega), adc1_RO hwy, eg 26 (by omega) (by omega), adc1_RU hwy, eg 25 (by omega) (by omega), adc1_RK hwy, eg 27 (by omega) (by omega), adc1_RF hwy, eg 28 (by omega) (by omega), adc1_RM hwy]; exact hMR
  · rw [e7, Nat.add_sub_cancel]
    refine ⟨hMW.1, fun r hr => ?_⟩
    have en : ¬ r = (c.1 7 0) := by omega
    rw [eg 29 (by omega) (by omega), adc1_WO hwy, eg 31 (by omega) (by omega), adc1_WK hwy, eg 32 (by omega) (by omega), adc1_WF hwy, eg 33 (by omega) (by omega), adc1_WM hwy, if_neg en, if_neg en, if_neg en, if_neg en, eL]
    exact hMW.2 r hr
  · unfold acm
    rw [e10, if_neg hwy, e7, Nat.add_sub_cancel, eg 33 (by omega) (by omega), adc1_WM hwy, if_pos rfl]
  · unfold acl
    rw [e10, if_neg hwy, e7, Nat.add_sub_cancel, eg 31 (by omega) (by omega), adc1_WK hwy, if_pos rfl]
  · rw [e7, Nat.add_sub_cancel, eg 32 (by omega) (by omega), adc1_WF hwy, if_pos rfl]
  · rw [e10]
  · rw [eg 22 (by omega) (by omega), adc1_WC hwy, if_pos rfl]
  · rw [e6]
theorem a_Cw {G : aG} {μ : aM} {d lo : Nat} {av : List Value} {σ : aS} {K L : Option Value → aS → Prop} (h : a_C G μ d lo av σ K) (g : ∀ u τ, K u τ → L u τ) : a_C G μ d lo av σ L := by
  obtain ⟨v, τ, h1, h2⟩ := h
  exact ⟨v, τ, g v τ h1, h2⟩
set_option maxHeartbeats 1000000 in
set_option maxRecDepth 100000 in
theorem n_M_138 {v w : Int32} (hG : a_C G m_M_readGuards 8 172 [.ref m, .int w] (mk σ0 m x) (fun u τ => a_J G m_M_readNode 9 194 149 [(0, .ref m), (1, .int v), (2, .int w), (3, .int (x.1 50))] (u.toList ++ []) τ K)) : a_J G m_M_readNode 9 194 138 [(0, .ref m), (1, .int v)] [.int w] (mk σ0 m x) K := by
  refine a_istore_n d_M_readNode_138 rfl (by decide) ?_
  refine a_aload_n d_M_readNode_139 rfl rfl ?_
  refine m_get d_M_readNode_140 f_M_248 rfl ?_
  refine a_istore_n d_M_readNode_143 rfl (by decide) ?_
  refine a_aload_n d_M_readNode_144 rfl rfl ?_
  refine a_iload_n d_M_readNode_145 rfl rfl ?_
  apply a_callV (ci := 7) 8 172 [_] _ d_M_readNode_146 l_M_276 ⟨im_M_readGuards, se_M_readGuards⟩ rfl rfl rfl rfl (Nat.le_of_ble_eq_true rfl) ⟨Nat.le_of_ble_eq_true rfl, Nat.le_of_ble_eq_true rfl⟩
  · (exact mk_O)
  refine a_Cw hG fun u τ h => a_lvk h ⟨rfl, rfl, rfl, rfl, trivial⟩

set_option maxHeartbeats 1000000 in
set_option maxRecDepth 100000 in
theorem n_M_134A {v : Int32} (hT : MX x n f) {a : Nat} (hA : x.1 19 = nI a) (ha : a ≤ n) (h0 : x.1 24 = 0) (ht : ¬ mW x 45 = 0) (hK : ∀ y, NX n f a x y → a_J G m_M_readNode 9 194 138 [(0, .ref m), (1, .int v)] [.int (-1)] (mk σ0 m y) K) : a_J G m_M_readNode 9 194 134 [(0, .ref m), (1, .int v)] [] (mk σ0 m x) K := by
  refine a_aload_n d_M_readNode_134 rfl rfl ?_
  apply a_callV (ci := 7) 6 129 [] _ d_M_readNode_135 l_M_273 ⟨im_M_readCall, se_M_readCall⟩ rfl rfl rfl rfl (Nat.le_of_ble_eq_true rfl) ⟨Nat.le_of_ble_eq_true rfl, Nat.le_of_ble_eq_true rfl⟩
  · (exact mk_O)
  refine sp_M_readCallA hT hA ha h0 ht (fun y hy => ?_)
  exact hK y hy

set_option maxHeartbeats 1000000 in
set_option maxRecDepth 100000 in
theorem n_M_134N {v : Int32} (hT : MX x n f) {a : Nat} (hA : x.1 19 = nI a) (ha : a ≤ n) (h0 : x.1 24 = 0) (ht : mW x 45 = 0) (h3 : x.1 20 = 3 ∧ 0 ≤ x.2.1 23 ∧ x.2.1 23 < 16) (hK : ∀ y, NX n f a x y → a_J G m_M_readNode 9 194 138 [(0, .ref m), (1, .int v)] [.int (x.2.1 23).toInt32] (mk σ0 m y) K) : a_J G m_M_readNode 9 194 134 [(0, .ref m), (1, .int v)] [] (mk σ0 m x) K := by
  refine a_aload_n d_M_readNode_134 rfl rfl ?_
  apply a_callV (ci := 7) 6 129 [] _ d_M_readNode_135 l_M_273 ⟨im_M_readCall, se_M_readCall⟩ rfl rfl rfl rfl (Nat.le_of_ble_eq_true rfl) ⟨Nat.le_of_ble_eq_true rfl, Nat.le_of_ble_eq_true rfl⟩
  · (exact mk_O)
  refine sp_M_readCallN hT hA ha h0 ht h3 (fun y hy => ?_)
  exact hK y hy

set_option maxHeartbeats 1000000 in
set_option maxRecDepth 100000 in
theorem n_M_134F {v : Int32} (ht : mW x 45 = 0) (h3 : ¬ (x.1 20 = 3 ∧ 0 ≤ x.2.1 23 ∧ x.2.1 23 < 16)) (hK : a_J G m_M_readNode 9 194 138 [(0, .ref m), (1, .int v)] [.int 0] (mk σ0 m (muX x 0)) K) : a_J G m_M_readNode 9 194 134 [(0, .ref m), (1, .int v)] [] (mk σ0 m x) K := by
  refine a_aload_n d_M_readNode_134 rfl rfl ?_
  apply a_callV (ci := 7) 6 129 [] _ d_M_readNode_135 l_M_273 ⟨im_M_readCall, se_M_readCall⟩ rfl rfl rfl rfl (Nat.le_of_ble_eq_true rfl) ⟨Nat.le_of_ble_eq_true rfl, Nat.le_of_ble_eq_true rfl⟩
  · (exact mk_O)
  refine sp_M_readCallF ht h3 ?_
  exact hK

set_option maxHeartbeats 1000000 in
set_option maxRecDepth 100000 in
theorem n_M_134B {v : Int32} (h0 : ¬ x.1 24 = 0) (hK : a_J G m_M_readNode 9 194 138 [(0, .ref m), (1, .int v)] [.int 0] (mk σ0 m x) K) : a_J G m_M_readNode 9 194 134 [(0, .ref m), (1, .int v)] [] (mk σ0 m x) K := by
  refine a_aload_n d_M_readNode_134 rfl rfl ?_
  apply a_callV (ci := 7) 6 129 [] _ d_M_readNode_135 l_M_273 ⟨im_M_readCall, se_M_readCall⟩ rfl rfl rfl rfl (Nat.le_of_ble_eq_true rfl) ⟨Nat.le_of_ble_eq_true rfl, Nat.le_of_ble_eq_true rfl⟩
  · (exact mk_O)
  refine sp_M_readCallB h0 ?_
  exact hK

theorem n_M_138B {v w : Int32} (h0 : ¬ x.1 24 = 0) (hK : a_J G m_M_readNode 9 194 94 [(0, .ref m), (1, .int v)] [] (mk σ0 m x) K) : a_J G m_M_readNode 9 194 138 [(0, .ref m), (1, .int v)] [.int w] (mk σ0 m x) K := n_M_138 (sp_M_readGuardsB h0 (n_M_149B h0 hK))
/-- what a way leaves, told from its call -/
def WQ_ (n : Nat) (f : Nat → Nat) (c : aN) (z : aX) : Prop := (∃ e, aRc n f c e ∧ e.1 2 0 = 0 ∧ e.1 0 0 = 6 ∧ LKA n f (e.1 1 0) z ∧ MGd e z ∧ MC e z (e.1 4 0) ∧ MNd e z ∧ MRl e z (e.1 5 0) ∧ MWy e z (e.1 7 0) ∧ e.1 6 0 = (c.1 6 0) ∧ e.1 22 ((c.1 6 0) - 1) = c.1 22 ((c.1 6 0) - 1) + 1 ∧ e.1 10 0 = (c.1 10 0))
theorem n_M_138G {v w : Int32} {k : Nat} {t : aK} (hwy : ¬ (c.1 10 0) = 0) (hx : LKA n f ((gt t (adc c k) 9).1 1 0) x) (h0 : (gt t (adc c k) 9).1 2 0 = 0) (hA : AI (gt t (adc c k) 9)) (hJ : AJ n (gt t (adc c k) 9)) (hL : AL (gt t (adc c k) 9)) (hM : MGd c x) (hMC : MC c x (c.1 4 0)) (hMN : MNd c x) (hMR : MRl c x (c.1 5 0)) (hMW : MWy c x (c.1 7 0)) (hw : w = ccF k) (hr : aRc n f c (gt t (adc c k) 9)) (hK : ∀ z v2, PP x z → (v2 = v + 1 ∧ WQ_ n f c z ∨ (BAD n f c z ∧ MX z n f)) → a_J G m_M_readNode 9 194 94 [(0, .ref m), (1, .int v2)] [] (mk σ0 m z) K) : a_J G m_M_readNode 9 194 138 [(0, .ref m), (1, .int v)] [.int w] (mk σ0 m x) K := by
  obtain ⟨r1, r2, r3, r4, r5, r6, r7, r8, r9, r10, r11⟩ := adc_rows1 (y := x) t k hwy hM hMC hMN hMR hMW
  refine n_M_138 (sp_M_readGuards (c := gt t (adc c k) 9) hx h0 rfl r6 hA hJ hL r1 (by rw [r7]; exact hw) (fun y hy hq => ?_))
  have e50 : x.1 50 = nI (c.1 8 0) := hM.1
  rcases hq with ⟨d, q1, q2, q3, q4, q5, q6, q7⟩ | ⟨q1, q2⟩
  · have hA2 := AI_Rc hA q1
    have e5 := q7.1 5 (by omega)
    have e7 := q7.1 7 (by omega)
    have e10 := q7.1 10 (by omega)
    have e32 := q7.1 32 (by omega)
    have e25 := q7.1 25 (by omega)
    have e31 := q7.1 31 (by omega)
    have e4 := q7.1 4 (by omega)
    have e22 := q7.1 22 (by omega)
    have e6 := q7.1 6 (by omega)
    have hwd : ¬ d.1 10 0 = 0 := by rw [e10, r9]; exact hwy
    have eacl : acl d = k := by rw [← r7]; unfold acl; rw [e5, e7, e10, e25, e31]
    have eWF : d.1 32 (d.1 7 0 - 1) = (c.1 8 0) := by rw [e32, e7]; exact r8
    have hWd : MWy d y (d.1 7 0 - 1) := by rw [e7]; exact (r5.pg hy).cg q7 (Or.inl (Nat.le_refl _))
    have hNW1 : 0 < (gt t (adc c k) 9).1 7 0 := by show 0 < (adc c k).1 7 0; rw [adc1_NW hwy]; omega
    have hRM : ∀ r, r < (gt t (adc c k) 9).1 5 0 → d.1 28 r = (gt t (adc c k) 9).1 28 r := fun r hr2 => by
      by_cases e : r = (gt t (adc c k) 9).1 5 0 - 1
      · have b1 := hL.2.1.2.2.2.1 hNW1
        have b2 := (AL_Rc hA hL q1).2.1.2.2.2.1 (by rw [e7]; exact hNW1)
        unfold eR at b1 b2
        rw [e5, q7.1 27 (by omega), e32] at b2
        rw [if_neg (by omega)] at b1 b2
        rw [e]; omega
      · exact q7.2.1 r e
    have hRd : MRl d y (d.1 5 0) := by
      have h1 := r4.pg hy
      rw [e5]
      refine ⟨h1.1, fun r hr2 => ?_⟩
      have h2 := h1.2 r hr2
      have e28 : d.1 28 r = (gt t (adc c k) 9).1 28 r := hRM r hr2
      rw [q7.1 23 (by omega), q7.1 26 (by omega), e25, q7.1 27 (by omega), e28]; exact h2
    have := n_M_149 (G := G) (σ0 := σ0) (m := m) (K := K) (v := v) (w := w) (c := d) q4 q2 q3 hwd q5 hA2 (AJ_Rc hx.hf.1 hx.hf.2 hJ q1) (AL_Rc hA hL q1) q6 (by rw [eacl]; exact hw) (by rw [e4]; exact (r2.pg hy).cg q7) ((r3.pg hy).cg q7) hRd hWd (fun z v2 hz hp => hK z v2 (hy.pp.trans hz) ?_)
    · rw [eWF, ← e50] at this
      exact this
    · rcases hp with ⟨p1, p2⟩ | ⟨p1, p2⟩
      · rcases p2 with ⟨e, s1, s2, s3, s4, s5, s6, s7, s8, s9, s10, s11, s12⟩ | ⟨s1, s2⟩
        · refine Or.inl ⟨p1, e, (hr.trans q1).trans s1, s2, s3, s4, s5, s6, s7, s8, s9, by rw [s10, e6]; exact r11, ?_, by rw [s12, e10]; exact r9⟩
          rw [s11, e22]; exact r10
        · exact Or.inr ⟨s1.of (hr.trans q1), s2⟩
      · exact Or.inr ⟨p1.of (hr.trans q1), p2⟩
  · exact n_M_149B q1.ne (hK y _ hy.pp (Or.inr ⟨q1.of hr, q2⟩))
end ModM19
