/-! POLICYTEXT: an object X; text X + 1, two prints X + 3 and X + 5, two policies X + 7 and X + 18, reader X + 29 (four cells), call X + 33 -/
def XQ (σ : aS) (X n : Nat) (f : Nat → Nat) (m : Nat) (g : Nat → Nat) (q : aP) (l : aC) (ft pl : Int32) (pr dr p sp n2 : Nat) (g2 : Nat → Nat) (q2 : aP) (p0 : Nat) (k : aT) (rf tp gp : Nat → Int32) : Prop := ((pr = X + 3 ∧ dr = X + 5) ∨ (pr = X + 5 ∧ dr = X + 3)) ∧ ((p = X + 7 ∧ sp = X + 18) ∨ (p = X + 18 ∧ sp = X + 7)) ∧ σ.2.2 X = some (.inr (6, [.ref (X + 1), .ref (X + 29), .ref (X + 33), .ref pr, .ref dr, .ref p, .ref sp])) ∧ BY σ (X + 1) 4096 n f ∧ BY σ pr 8192 m g ∧ BY σ dr 8192 n2 g2 ∧ PO σ p q ∧ PO σ sp q2 ∧ RO σ (X + 29) p0 rf tp gp ∧ TO σ (X + 30) (X + 1) k ∧ CO σ (X + 33) l ∧ RV tp gp ∧ rf 4 = ft ∧ rf 5 = pl
/-- text (n, f), print (m, g), policy q, call l, latest fault and place -/
def XS (σ : aS) (X n : Nat) (f : Nat → Nat) (m : Nat) (g : Nat → Nat) (q : aP) (l : aC) (ft pl : Int32) : Prop := ∃ (pr dr p sp n2 : Nat) (g2 : Nat → Nat) (q2 : aP) (p0 : Nat) (k : aT) (rf tp gp : Nat → Int32), XQ σ X n f m g q l ft pl pr dr p sp n2 g2 q2 p0 k rf tp gp
theorem RO.fr {σ τ : aS} {r p lo hi : Nat} {rf tp gp : Nat → Int32} (h : RO σ r p rf tp gp) (hf : a_fr σ τ lo hi) (hd : r + 4 ≤ lo ∨ hi ≤ r) : RO τ r p rf tp gp := ⟨(hf.2.2 r (by omega)).trans h.1, (hf.2.2 (r + 2) (by omega)).trans h.2.1, (hf.2.2 (r + 3) (by omega)).trans h.2.2⟩
theorem XS.fr {σ τ : aS} {X n m lo hi : Nat} {f g : Nat → Nat} {q : aP} {l : aC} {ft pl : Int32} (h : XS σ X n f m g q l ft pl) (hf : a_fr σ τ lo hi) (hd : X + 34 ≤ lo ∨ hi ≤ X) : XS τ X n f m g q l ft pl := by
  obtain ⟨pr, dr, p, sp, n2, g2, q2, p0, k, rf, tp, gp, h1, h2, h3, h4, h5, h6, h7, h8, h9, h10, h11, h12⟩ := h
  exact ⟨pr, dr, p, sp, n2, g2, q2, p0, k, rf, tp, gp, h1, h2, (hf.2.2 X (by omega)).trans h3, h4.fr hf (by omega), h5.fr hf (by omega), h6.fr hf (by omega), h7.fr hf (by omega), h8.fr hf (by omega), h9.fr hf (by omega), h10.fr hf (by omega), h11.fr hf (by omega), h12⟩
theorem apF01 (q : aP) (l : aC) (r : Nat) : ∀ (n i : Nat), apF q l r i n = 0 ∨ apF q l r i n = 1
  | 0, _ => Or.inr rfl
  | n + 1, i => by
    unfold apF
    split
    · exact Or.inl rfl
    · exact apF01 q l r n (i + 1)
theorem app01 {q : aP} {l : aC} {w k j : Int32} : app q l w k j = 0 ∨ app q l w k j = 1 := by
  unfold app
  split
  · exact Or.inl rfl
  · split
    · exact Or.inl rfl
    · exact apF01 _ _ _ _ _
section ModX
variable {G : aG} {σ : aS} {K : Option Value → aS → Prop} {X n m : Nat} {f g : Nat → Nat} {q : aP} {l : aC} {ft pl : Int32}
set_option maxHeartbeats 1000000 in
set_option maxRecDepth 100000 in
theorem sp_X_counter {a b : Int32} (hX : XS σ X n f m g q l ft pl) (hK : K (some (.int (cpart q a b))) σ) : a_C G m_X_counter 2 46 [.ref X, .int a, .int b] σ K := by
  obtain ⟨pr, dr, p, sp, n2, g2, q2, p0, k0, rf, tp, gp, h1, h2, h3, h4, h5, h6, h7, h8, h9, h10, h11, h12, h13, h14⟩ := id hX
  obtain ⟨w1, hb1, -⟩ := id h4
  obtain ⟨w2, hb2, -⟩ := id h5
  obtain ⟨w3, hb3, -⟩ := id h6
  have hp0 := h7.1
  have hs0 := h8.1
  have hr0 := h9.1
  have hc0 : σ.2.2 (X + 33) = some (.inr (1, [.int l.1, .int l.2.1, .int l.2.2.1, .int l.2.2.2])) := h11
  refine a_enter rfl (Nat.le_of_ble_eq_true rfl) ?_
  refine a_aload_n d_X_counter_0 rfl rfl ?_
  apply a_getfield d_X_counter_1 f_X_27
  · (repeat (first | with_reducible assumption | with_reducible exact a_us | with_reducible exact a_ns | refine a_un (by first | with_reducible assumption | omega) ?_ | refine a_nn (by first | with_reducible assumption | omega | (simp only [a_upd_1, a_new_1]; omega)) ?_ | exact a_us | exact a_ns))
  · rfl
  refine a_iload_n d_X_counter_4 rfl rfl ?_
  refine a_iload_n d_X_counter_5 rfl rfl ?_
  apply a_callV (ci := 2) 1 23 [_, _] _ d_X_counter_6 l_X_102 ⟨im_P_counterPart, se_P_counterPart⟩ rfl rfl rfl rfl (Nat.le_of_ble_eq_true rfl) ⟨Nat.le_of_ble_eq_true rfl, Nat.le_of_ble_eq_true rfl⟩
  · (repeat (first | with_reducible assumption | with_reducible exact a_us | with_reducible exact a_ns | refine a_un (by first | with_reducible assumption | omega) ?_ | refine a_nn (by first | with_reducible assumption | omega | (simp only [a_upd_1, a_new_1]; omega)) ?_ | exact a_us | exact a_ns))
  refine sp_P_counterPart h7 ?_
  exact a_ireturn d_X_counter_9 rfl rfl hK

set_option maxHeartbeats 1000000 in
set_option maxRecDepth 100000 in
theorem sp_X_node {a b : Int32} (hX : XS σ X n f m g q l ft pl) (hK : K (some (.int (npart q a b))) σ) : a_C G m_X_node 2 46 [.ref X, .int a, .int b] σ K := by
  obtain ⟨pr, dr, p, sp, n2, g2, q2, p0, k0, rf, tp, gp, h1, h2, h3, h4, h5, h6, h7, h8, h9, h10, h11, h12, h13, h14⟩ := id hX
  obtain ⟨w1, hb1, -⟩ := id h4
  obtain ⟨w2, hb2, -⟩ := id h5
  obtain ⟨w3, hb3, -⟩ := id h6
  have hp0 := h7.1
  have hs0 := h8.1
  have hr0 := h9.1
  have hc0 : σ.2.2 (X + 33) = some (.inr (1, [.int l.1, .int l.2.1, .int l.2.2.1, .int l.2.2.2])) := h11
  refine a_enter rfl (Nat.le_of_ble_eq_true rfl) ?_
  refine a_aload_n d_X_node_0 rfl rfl ?_
  apply a_getfield d_X_node_1 f_X_27
  · (repeat (first | with_reducible assumption | with_reducible exact a_us | with_reducible exact a_ns | refine a_un (by first | with_reducible assumption | omega) ?_ | refine a_nn (by first | with_reducible assumption | omega | (simp only [a_upd_1, a_new_1]; omega)) ?_ | exact a_us | exact a_ns))
  · rfl
  refine a_iload_n d_X_node_4 rfl rfl ?_
  refine a_iload_n d_X_node_5 rfl rfl ?_
  apply a_callV (ci := 2) 1 23 [_, _] _ d_X_node_6 l_X_106 ⟨im_P_nodePart, se_P_nodePart⟩ rfl rfl rfl rfl (Nat.le_of_ble_eq_true rfl) ⟨Nat.le_of_ble_eq_true rfl, Nat.le_of_ble_eq_true rfl⟩
  · (repeat (first | with_reducible assumption | with_reducible exact a_us | with_reducible exact a_ns | refine a_un (by first | with_reducible assumption | omega) ?_ | refine a_nn (by first | with_reducible assumption | omega | (simp only [a_upd_1, a_new_1]; omega)) ?_ | exact a_us | exact a_ns))
  refine sp_P_nodePart h7 ?_
  exact a_ireturn d_X_node_9 rfl rfl hK

set_option maxHeartbeats 1000000 in
set_option maxRecDepth 100000 in
theorem sp_X_clause {w a b d : Int32} (hX : XS σ X n f m g q l ft pl) (hK : K (some (.int (clpart q w a b d))) σ) : a_C G m_X_clause 3 71 [.ref X, .int w, .int a, .int b, .int d] σ K := by
  obtain ⟨pr, dr, p, sp, n2, g2, q2, p0, k0, rf, tp, gp, h1, h2, h3, h4, h5, h6, h7, h8, h9, h10, h11, h12, h13, h14⟩ := id hX
  obtain ⟨w1, hb1, -⟩ := id h4
  obtain ⟨w2, hb2, -⟩ := id h5
  obtain ⟨w3, hb3, -⟩ := id h6
  have hp0 := h7.1
  have hs0 := h8.1
  have hr0 := h9.1
  have hc0 : σ.2.2 (X + 33) = some (.inr (1, [.int l.1, .int l.2.1, .int l.2.2.1, .int l.2.2.2])) := h11
  refine a_enter rfl (Nat.le_of_ble_eq_true rfl) ?_
  refine a_aload_n d_X_clause_0 rfl rfl ?_
  apply a_getfield d_X_clause_1 f_X_27
  · (repeat (first | with_reducible assumption | with_reducible exact a_us | with_reducible exact a_ns | refine a_un (by first | with_reducible assumption | omega) ?_ | refine a_nn (by first | with_reducible assumption | omega | (simp only [a_upd_1, a_new_1]; omega)) ?_ | exact a_us | exact a_ns))
  · rfl
  refine a_iload_n d_X_clause_4 rfl rfl ?_
  refine a_iload_n d_X_clause_5 rfl rfl ?_
  refine a_iload_n d_X_clause_6 rfl rfl ?_
  refine a_iload d_X_clause_7 rfl ?_
  apply a_callV (ci := 2) 2 46 [_, _, _, _] _ d_X_clause_9 l_X_109 ⟨im_P_clausePart, se_P_clausePart⟩ rfl rfl rfl rfl (Nat.le_of_ble_eq_true rfl) ⟨Nat.le_of_ble_eq_true rfl, Nat.le_of_ble_eq_true rfl⟩
  · (repeat (first | with_reducible assumption | with_reducible exact a_us | with_reducible exact a_ns | refine a_un (by first | with_reducible assumption | omega) ?_ | refine a_nn (by first | with_reducible assumption | omega | (simp only [a_upd_1, a_new_1]; omega)) ?_ | exact a_us | exact a_ns))
  refine sp_P_clausePart h7 ?_
  exact a_ireturn d_X_clause_12 rfl rfl hK

set_option maxHeartbeats 1000000 in
set_option maxRecDepth 100000 in
theorem sp_X_test {w a b d e : Int32} (hX : XS σ X n f m g q l ft pl) (hK : K (some (.int (tpart q (trow q w a b d) e))) σ) : a_C G m_X_test 3 71 [.ref X, .int w, .int a, .int b, .int d, .int e] σ K := by
  obtain ⟨pr, dr, p, sp, n2, g2, q2, p0, k0, rf, tp, gp, h1, h2, h3, h4, h5, h6, h7, h8, h9, h10, h11, h12, h13, h14⟩ := id hX
  obtain ⟨w1, hb1, -⟩ := id h4
  obtain ⟨w2, hb2, -⟩ := id h5
  obtain ⟨w3, hb3, -⟩ := id h6
  have hp0 := h7.1
  have hs0 := h8.1
  have hr0 := h9.1
  have hc0 : σ.2.2 (X + 33) = some (.inr (1, [.int l.1, .int l.2.1, .int l.2.2.1, .int l.2.2.2])) := h11
  refine a_enter rfl (Nat.le_of_ble_eq_true rfl) ?_
  refine a_aload_n d_X_test_0 rfl rfl ?_
  apply a_getfield d_X_test_1 f_X_27
  · (repeat (first | with_reducible assumption | with_reducible exact a_us | with_reducible exact a_ns | refine a_un (by first | with_reducible assumption | omega) ?_ | refine a_nn (by first | with_reducible assumption | omega | (simp only [a_upd_1, a_new_1]; omega)) ?_ | exact a_us | exact a_ns))
  · rfl
  refine a_aload_n d_X_test_4 rfl rfl ?_
  apply a_getfield d_X_test_5 f_X_27
  · (repeat (first | with_reducible assumption | with_reducible exact a_us | with_reducible exact a_ns | refine a_un (by first | with_reducible assumption | omega) ?_ | refine a_nn (by first | with_reducible assumption | omega | (simp only [a_upd_1, a_new_1]; omega)) ?_ | exact a_us | exact a_ns))
  · rfl
  refine a_iload_n d_X_test_8 rfl rfl ?_
  refine a_iload_n d_X_test_9 rfl rfl ?_
  refine a_iload_n d_X_test_10 rfl rfl ?_
  refine a_iload d_X_test_11 rfl ?_
  apply a_callV (ci := 2) 2 46 [_, _, _, _] _ d_X_test_13 l_X_113 ⟨im_P_testRow, se_P_testRow⟩ rfl rfl rfl rfl (Nat.le_of_ble_eq_true rfl) ⟨Nat.le_of_ble_eq_true rfl, Nat.le_of_ble_eq_true rfl⟩
  · (repeat (first | with_reducible assumption | with_reducible exact a_us | with_reducible exact a_ns | refine a_un (by first | with_reducible assumption | omega) ?_ | refine a_nn (by first | with_reducible assumption | omega | (simp only [a_upd_1, a_new_1]; omega)) ?_ | exact a_us | exact a_ns))
  refine sp_P_testRow h7 ?_
  refine a_iload d_X_test_16 rfl ?_
  apply a_callV (ci := 2) 1 21 [_, _] _ d_X_test_18 l_X_116 ⟨im_P_testPart, se_P_testPart⟩ rfl rfl rfl rfl (Nat.le_of_ble_eq_true rfl) ⟨Nat.le_of_ble_eq_true rfl, Nat.le_of_ble_eq_true rfl⟩
  · (repeat (first | with_reducible assumption | with_reducible exact a_us | with_reducible exact a_ns | refine a_un (by first | with_reducible assumption | omega) ?_ | refine a_nn (by first | with_reducible assumption | omega | (simp only [a_upd_1, a_new_1]; omega)) ?_ | exact a_us | exact a_ns))
  refine sp_P_testPart h7 ?_
  exact a_ireturn d_X_test_21 rfl rfl hK

set_option maxHeartbeats 1000000 in
set_option maxRecDepth 100000 in
theorem sp_X_than {w a b d : Int32} (hX : XS σ X n f m g q l ft pl) (hK : K (some (.int (bnd q (trow q w a b d)))) σ) : a_C G m_X_than 3 71 [.ref X, .int w, .int a, .int b, .int d] σ K := by
  obtain ⟨pr, dr, p, sp, n2, g2, q2, p0, k0, rf, tp, gp, h1, h2, h3, h4, h5, h6, h7, h8, h9, h10, h11, h12, h13, h14⟩ := id hX
  obtain ⟨w1, hb1, -⟩ := id h4
  obtain ⟨w2, hb2, -⟩ := id h5
  obtain ⟨w3, hb3, -⟩ := id h6
  have hp0 := h7.1
  have hs0 := h8.1
  have hr0 := h9.1
  have hc0 : σ.2.2 (X + 33) = some (.inr (1, [.int l.1, .int l.2.1, .int l.2.2.1, .int l.2.2.2])) := h11
  refine a_enter rfl (Nat.le_of_ble_eq_true rfl) ?_
  refine a_aload_n d_X_than_0 rfl rfl ?_
  apply a_getfield d_X_than_1 f_X_27
  · (repeat (first | with_reducible assumption | with_reducible exact a_us | with_reducible exact a_ns | refine a_un (by first | with_reducible assumption | omega) ?_ | refine a_nn (by first | with_reducible assumption | omega | (simp only [a_upd_1, a_new_1]; omega)) ?_ | exact a_us | exact a_ns))
  · rfl
  refine a_aload_n d_X_than_4 rfl rfl ?_
  apply a_getfield d_X_than_5 f_X_27
  · (repeat (first | with_reducible assumption | with_reducible exact a_us | with_reducible exact a_ns | refine a_un (by first | with_reducible assumption | omega) ?_ | refine a_nn (by first | with_reducible assumption | omega | (simp only [a_upd_1, a_new_1]; omega)) ?_ | exact a_us | exact a_ns))
  · rfl
  refine a_iload_n d_X_than_8 rfl rfl ?_
  refine a_iload_n d_X_than_9 rfl rfl ?_
  refine a_iload_n d_X_than_10 rfl rfl ?_
  refine a_iload d_X_than_11 rfl ?_
  apply a_callV (ci := 2) 2 46 [_, _, _, _] _ d_X_than_13 l_X_113 ⟨im_P_testRow, se_P_testRow⟩ rfl rfl rfl rfl (Nat.le_of_ble_eq_true rfl) ⟨Nat.le_of_ble_eq_true rfl, Nat.le_of_ble_eq_true rfl⟩
  · (repeat (first | with_reducible assumption | with_reducible exact a_us | with_reducible exact a_ns | refine a_un (by first | with_reducible assumption | omega) ?_ | refine a_nn (by first | with_reducible assumption | omega | (simp only [a_upd_1, a_new_1]; omega)) ?_ | exact a_us | exact a_ns))
  refine sp_P_testRow h7 ?_
  apply a_callV (ci := 2) 0 0 [_] _ d_X_than_16 l_X_119 ⟨im_P_boundOf, se_P_boundOf⟩ rfl rfl rfl rfl (Nat.le_of_ble_eq_true rfl) ⟨Nat.le_of_ble_eq_true rfl, Nat.le_of_ble_eq_true rfl⟩
  · (repeat (first | with_reducible assumption | with_reducible exact a_us | with_reducible exact a_ns | refine a_un (by first | with_reducible assumption | omega) ?_ | refine a_nn (by first | with_reducible assumption | omega | (simp only [a_upd_1, a_new_1]; omega)) ?_ | exact a_us | exact a_ns))
  refine sp_P_boundOf h7 ?_
  exact a_ireturn d_X_than_19 rfl rfl hK

set_option maxHeartbeats 1000000 in
set_option maxRecDepth 100000 in
theorem sp_X_holds {w a b : Int32} (hX : XS σ X n f m g q l ft pl) (hK : K (some (.int (app q l w a b))) σ) : a_C G m_X_holds 4 98 [.ref X, .int w, .int a, .int b] σ K := by
  obtain ⟨pr, dr, p, sp, n2, g2, q2, p0, k0, rf, tp, gp, h1, h2, h3, h4, h5, h6, h7, h8, h9, h10, h11, h12, h13, h14⟩ := id hX
  obtain ⟨w1, hb1, -⟩ := id h4
  obtain ⟨w2, hb2, -⟩ := id h5
  obtain ⟨w3, hb3, -⟩ := id h6
  have hp0 := h7.1
  have hs0 := h8.1
  have hr0 := h9.1
  have hc0 : σ.2.2 (X + 33) = some (.inr (1, [.int l.1, .int l.2.1, .int l.2.2.1, .int l.2.2.2])) := h11
  refine a_enter rfl (Nat.le_of_ble_eq_true rfl) ?_
  refine a_aload_n d_X_holds_0 rfl rfl ?_
  apply a_getfield d_X_holds_1 f_X_27
  · (repeat (first | with_reducible assumption | with_reducible exact a_us | with_reducible exact a_ns | refine a_un (by first | with_reducible assumption | omega) ?_ | refine a_nn (by first | with_reducible assumption | omega | (simp only [a_upd_1, a_new_1]; omega)) ?_ | exact a_us | exact a_ns))
  · rfl
  refine a_iload_n d_X_holds_4 rfl rfl ?_
  refine a_iload_n d_X_holds_5 rfl rfl ?_
  refine a_iload_n d_X_holds_6 rfl rfl ?_
  refine a_aload_n d_X_holds_7 rfl rfl ?_
  apply a_getfield d_X_holds_8 f_X_46
  · (repeat (first | with_reducible assumption | with_reducible exact a_us | with_reducible exact a_ns | refine a_un (by first | with_reducible assumption | omega) ?_ | refine a_nn (by first | with_reducible assumption | omega | (simp only [a_upd_1, a_new_1]; omega)) ?_ | exact a_us | exact a_ns))
  · rfl
  apply a_callV (ci := 2) 3 72 [_, _, _, _] _ d_X_holds_11 l_X_126 ⟨im_P_applies, se_P_applies⟩ rfl rfl rfl rfl (Nat.le_of_ble_eq_true rfl) ⟨Nat.le_of_ble_eq_true rfl, Nat.le_of_ble_eq_true rfl⟩
  · (repeat (first | with_reducible assumption | with_reducible exact a_us | with_reducible exact a_ns | refine a_un (by first | with_reducible assumption | omega) ?_ | refine a_nn (by first | with_reducible assumption | omega | (simp only [a_upd_1, a_new_1]; omega)) ?_ | exact a_us | exact a_ns))
  refine sp_P_applies h7 h11 ?_
  exact a_ireturn d_X_holds_14 rfl (by first | rfl | (have := app01 (q := q) (l := l) (w := w) (k := a) (j := b); rcases this with e | e <;> rw [e] <;> rfl)) hK

set_option maxHeartbeats 1000000 in
set_option maxRecDepth 100000 in
theorem sp_X_byteAt {a w : Int32} (hX : XS σ X n f m g q l ft pl) (hK : K (some (.int (if w = 0 then atF m g a else atF n f a))) σ) : a_C G m_X_byteAt 1 21 [.ref X, .int a, .int w] σ K := by
  obtain ⟨pr, dr, p, sp, n2, g2, q2, p0, k0, rf, tp, gp, h1, h2, h3, h4, h5, h6, h7, h8, h9, h10, h11, h12, h13, h14⟩ := id hX
  obtain ⟨w1, hb1, -⟩ := id h4
  obtain ⟨w2, hb2, -⟩ := id h5
  obtain ⟨w3, hb3, -⟩ := id h6
  have hp0 := h7.1
  have hs0 := h8.1
  have hr0 := h9.1
  have hc0 : σ.2.2 (X + 33) = some (.inr (1, [.int l.1, .int l.2.1, .int l.2.2.1, .int l.2.2.2])) := h11
  refine a_enter rfl (Nat.le_of_ble_eq_true rfl) ?_
  refine a_iload_n d_X_byteAt_0 rfl rfl ?_
  refine a_if_eq (tgt := 15) d_X_byteAt_1 (by decide) (fun c_1 => ?_) (fun c_1 => ?_)
  · refine a_aload_n d_X_byteAt_15 rfl rfl ?_
    apply a_getfield d_X_byteAt_16 f_X_18
    · (repeat (first | with_reducible assumption | with_reducible exact a_us | with_reducible exact a_ns | refine a_un (by first | with_reducible assumption | omega) ?_ | refine a_nn (by first | with_reducible assumption | omega | (simp only [a_upd_1, a_new_1]; omega)) ?_ | exact a_us | exact a_ns))
    · rfl
    refine a_iload_n d_X_byteAt_19 rfl rfl ?_
    apply a_callV (ci := 0) 0 0 [_] _ d_X_byteAt_20 l_X_138 ⟨im_B_at, se_B_at⟩ rfl rfl rfl rfl (Nat.le_of_ble_eq_true rfl) ⟨Nat.le_of_ble_eq_true rfl, Nat.le_of_ble_eq_true rfl⟩
    · (repeat (first | with_reducible assumption | with_reducible exact a_us | with_reducible exact a_ns | refine a_un (by first | with_reducible assumption | omega) ?_ | refine a_nn (by first | with_reducible assumption | omega | (simp only [a_upd_1, a_new_1]; omega)) ?_ | exact a_us | exact a_ns))
    first | refine sp_B_at h4 ?_ | refine sp_B_at h5 ?_
    refine a_ireturn d_X_byteAt_23 rfl rfl ?_
    simp only [if_pos c_1, if_true] at hK
    exact hK
  · refine a_aload_n d_X_byteAt_4 rfl rfl ?_
    apply a_getfield d_X_byteAt_5 f_X_14
    · (repeat (first | with_reducible assumption | with_reducible exact a_us | with_reducible exact a_ns | refine a_un (by first | with_reducible assumption | omega) ?_ | refine a_nn (by first | with_reducible assumption | omega | (simp only [a_upd_1, a_new_1]; omega)) ?_ | exact a_us | exact a_ns))
    · rfl
    refine a_iload_n d_X_byteAt_8 rfl rfl ?_
    apply a_callV (ci := 0) 0 0 [_] _ d_X_byteAt_9 l_X_138 ⟨im_B_at, se_B_at⟩ rfl rfl rfl rfl (Nat.le_of_ble_eq_true rfl) ⟨Nat.le_of_ble_eq_true rfl, Nat.le_of_ble_eq_true rfl⟩
    · (repeat (first | with_reducible assumption | with_reducible exact a_us | with_reducible exact a_ns | refine a_un (by first | with_reducible assumption | omega) ?_ | refine a_nn (by first | with_reducible assumption | omega | (simp only [a_upd_1, a_new_1]; omega)) ?_ | exact a_us | exact a_ns))
    first | refine sp_B_at h4 ?_ | refine sp_B_at h5 ?_
    refine a_goto (tgt := 23) d_X_byteAt_12 (by decide) ?_
    refine a_ireturn d_X_byteAt_23 rfl rfl ?_
    simp only [if_neg c_1, if_true] at hK
    exact hK

set_option maxHeartbeats 1000000 in
set_option maxRecDepth 100000 in
theorem sp_X_look {a : Int32} (hX : XS σ X n f m g q l ft pl) (hK : K (some (.int (if a = 0 then nI q.1.1 else if a = 1 then nI q.1.2.1 else if a = 2 then nI n else if a = 3 then nI m else if a = 4 then ft else if a = 5 then pl else if a = 6 then nI q.1.2.2 else -1))) σ) : a_C G m_X_look 1 21 [.ref X, .int a] σ K := by
  obtain ⟨pr, dr, p, sp, n2, g2, q2, p0, k0, rf, tp, gp, h1, h2, h3, h4, h5, h6, h7, h8, h9, h10, h11, h12, h13, h14⟩ := id hX
  obtain ⟨w1, hb1, -⟩ := id h4
  obtain ⟨w2, hb2, -⟩ := id h5
  obtain ⟨w3, hb3, -⟩ := id h6
  have hp0 := h7.1
  have hs0 := h8.1
  have hr0 := h9.1
  have hc0 : σ.2.2 (X + 33) = some (.inr (1, [.int l.1, .int l.2.1, .int l.2.2.1, .int l.2.2.2])) := h11
  refine a_enter rfl (Nat.le_of_ble_eq_true rfl) ?_
  refine a_iload_n d_X_look_0 rfl rfl ?_
  refine a_tsw7_0 (t0 := 44) (t1 := 53) (t2 := 62) (t3 := 70) (t4 := 78) (t5 := 86) (t6 := 94) (td := 102) d_X_look_1 (by decide) (by decide) (by decide) (by decide) (by decide) (by decide) (by decide) (by decide) (fun c_1 => ?_) (fun c_2 => ?_) (fun c_3 => ?_) (fun c_4 => ?_) (fun c_5 => ?_) (fun c_6 => ?_) (fun c_7 => ?_) (fun c_8 c_9 c_10 c_11 c_12 c_13 c_14 => ?_)
  · refine a_aload_n d_X_look_44 rfl rfl ?_
    apply a_getfield d_X_look_45 f_X_27
    · (repeat (first | with_reducible assumption | with_reducible exact a_us | with_reducible exact a_ns | refine a_un (by first | with_reducible assumption | omega) ?_ | refine a_nn (by first | with_reducible assumption | omega | (simp only [a_upd_1, a_new_1]; omega)) ?_ | exact a_us | exact a_ns))
    · rfl
    refine a_iconst (v := 0) d_X_look_48 (by decide) ?_
    apply a_callV (ci := 2) 0 0 [_] _ d_X_look_49 l_X_78 ⟨im_P_heads, se_P_heads⟩ rfl rfl rfl rfl (Nat.le_of_ble_eq_true rfl) ⟨Nat.le_of_ble_eq_true rfl, Nat.le_of_ble_eq_true rfl⟩
    · (repeat (first | with_reducible assumption | with_reducible exact a_us | with_reducible exact a_ns | refine a_un (by first | with_reducible assumption | omega) ?_ | refine a_nn (by first | with_reducible assumption | omega | (simp only [a_upd_1, a_new_1]; omega)) ?_ | exact a_us | exact a_ns))
    refine sp_P_heads h7 ?_
    refine a_ireturn d_X_look_52 rfl rfl ?_
    simp only [if_pos c_1, if_neg (sw_ne c_1 (show ¬ (0 : Int32) = 1 by decide)), if_neg (sw_ne c_1 (show ¬ (0 : Int32) = 2 by decide)), if_neg (sw_ne c_1 (show ¬ (0 : Int32) = 3 by decide)), if_neg (sw_ne c_1 (show ¬ (0 : Int32) = 4 by decide)), if_neg (sw_ne c_1 (show ¬ (0 : Int32) = 5 by decide)), if_neg (sw_ne c_1 (show ¬ (0 : Int32) = 6 by decide)), if_true] at hK
    exact hK
  · refine a_aload_n d_X_look_53 rfl rfl ?_
    apply a_getfield d_X_look_54 f_X_27
    · (repeat (first | with_reducible assumption | with_reducible exact a_us | with_reducible exact a_ns | refine a_un (by first | with_reducible assumption | omega) ?_ | refine a_nn (by first | with_reducible assumption | omega | (simp only [a_upd_1, a_new_1]; omega)) ?_ | exact a_us | exact a_ns))
    · rfl
    refine a_iconst (v := 1) d_X_look_57 (by decide) ?_
    apply a_callV (ci := 2) 0 0 [_] _ d_X_look_58 l_X_78 ⟨im_P_heads, se_P_heads⟩ rfl rfl rfl rfl (Nat.le_of_ble_eq_true rfl) ⟨Nat.le_of_ble_eq_true rfl, Nat.le_of_ble_eq_true rfl⟩
    · (repeat (first | with_reducible assumption | with_reducible exact a_us | with_reducible exact a_ns | refine a_un (by first | with_reducible assumption | omega) ?_ | refine a_nn (by first | with_reducible assumption | omega | (simp only [a_upd_1, a_new_1]; omega)) ?_ | exact a_us | exact a_ns))
    refine sp_P_heads h7 ?_
    refine a_ireturn d_X_look_61 rfl rfl ?_
    simp only [if_pos c_2, if_neg (sw_ne c_2 (show ¬ (1 : Int32) = 0 by decide)), if_neg (sw_ne c_2 (show ¬ (1 : Int32) = 2 by decide)), if_neg (sw_ne c_2 (show ¬ (1 : Int32) = 3 by decide)), if_neg (sw_ne c_2 (show ¬ (1 : Int32) = 4 by decide)), if_neg (sw_ne c_2 (show ¬ (1 : Int32) = 5 by decide)), if_neg (sw_ne c_2 (show ¬ (1 : Int32) = 6 by decide)), if_true] at hK
    exact hK
  · refine a_aload_n d_X_look_62 rfl rfl ?_
    apply a_getfield d_X_look_63 f_X_14
    · (repeat (first | with_reducible assumption | with_reducible exact a_us | with_reducible exact a_ns | refine a_un (by first | with_reducible assumption | omega) ?_ | refine a_nn (by first | with_reducible assumption | omega | (simp only [a_upd_1, a_new_1]; omega)) ?_ | exact a_us | exact a_ns))
    · rfl
    apply a_callV (ci := 0) 0 0 [] _ d_X_look_66 l_X_92 ⟨im_B_size, se_B_size⟩ rfl rfl rfl rfl (Nat.le_of_ble_eq_true rfl) ⟨Nat.le_of_ble_eq_true rfl, Nat.le_of_ble_eq_true rfl⟩
    · (repeat (first | with_reducible assumption | with_reducible exact a_us | with_reducible exact a_ns | refine a_un (by first | with_reducible assumption | omega) ?_ | refine a_nn (by first | with_reducible assumption | omega | (simp only [a_upd_1, a_new_1]; omega)) ?_ | exact a_us | exact a_ns))
    first | refine sp_B_size h4 ?_ | refine sp_B_size h5 ?_
    refine a_ireturn d_X_look_69 rfl rfl ?_
    simp only [if_pos c_3, if_neg (sw_ne c_3 (show ¬ (2 : Int32) = 0 by decide)), if_neg (sw_ne c_3 (show ¬ (2 : Int32) = 1 by decide)), if_neg (sw_ne c_3 (show ¬ (2 : Int32) = 3 by decide)), if_neg (sw_ne c_3 (show ¬ (2 : Int32) = 4 by decide)), if_neg (sw_ne c_3 (show ¬ (2 : Int32) = 5 by decide)), if_neg (sw_ne c_3 (show ¬ (2 : Int32) = 6 by decide)), if_true] at hK
    exact hK
  · refine a_aload_n d_X_look_70 rfl rfl ?_
    apply a_getfield d_X_look_71 f_X_18
    · (repeat (first | with_reducible assumption | with_reducible exact a_us | with_reducible exact a_ns | refine a_un (by first | with_reducible assumption | omega) ?_ | refine a_nn (by first | with_reducible assumption | omega | (simp only [a_upd_1, a_new_1]; omega)) ?_ | exact a_us | exact a_ns))
    · rfl
    apply a_callV (ci := 0) 0 0 [] _ d_X_look_74 l_X_92 ⟨im_B_size, se_B_size⟩ rfl rfl rfl rfl (Nat.le_of_ble_eq_true rfl) ⟨Nat.le_of_ble_eq_true rfl, Nat.le_of_ble_eq_true rfl⟩
    · (repeat (first | with_reducible assumption | with_reducible exact a_us | with_reducible exact a_ns | refine a_un (by first | with_reducible assumption | omega) ?_ | refine a_nn (by first | with_reducible assumption | omega | (simp only [a_upd_1, a_new_1]; omega)) ?_ | exact a_us | exact a_ns))
    first | refine sp_B_size h4 ?_ | refine sp_B_size h5 ?_
    refine a_ireturn d_X_look_77 rfl rfl ?_
    simp only [if_pos c_4, if_neg (sw_ne c_4 (show ¬ (3 : Int32) = 0 by decide)), if_neg (sw_ne c_4 (show ¬ (3 : Int32) = 1 by decide)), if_neg (sw_ne c_4 (show ¬ (3 : Int32) = 2 by decide)), if_neg (sw_ne c_4 (show ¬ (3 : Int32) = 4 by decide)), if_neg (sw_ne c_4 (show ¬ (3 : Int32) = 5 by decide)), if_neg (sw_ne c_4 (show ¬ (3 : Int32) = 6 by decide)), if_true] at hK
    exact hK
  · refine a_aload_n d_X_look_78 rfl rfl ?_
    apply a_getfield d_X_look_79 f_X_39
    · (repeat (first | with_reducible assumption | with_reducible exact a_us | with_reducible exact a_ns | refine a_un (by first | with_reducible assumption | omega) ?_ | refine a_nn (by first | with_reducible assumption | omega | (simp only [a_upd_1, a_new_1]; omega)) ?_ | exact a_us | exact a_ns))
    · rfl
    apply a_callV (ci := 4) 0 0 [] _ d_X_look_82 l_X_141 ⟨im_R_latestFault, se_R_latestFault⟩ rfl rfl rfl rfl (Nat.le_of_ble_eq_true rfl) ⟨Nat.le_of_ble_eq_true rfl, Nat.le_of_ble_eq_true rfl⟩
    · (repeat (first | with_reducible assumption | with_reducible exact a_us | with_reducible exact a_ns | refine a_un (by first | with_reducible assumption | omega) ?_ | refine a_nn (by first | with_reducible assumption | omega | (simp only [a_upd_1, a_new_1]; omega)) ?_ | exact a_us | exact a_ns))
    refine sp_R_latestFault h9 ?_
    rw [h13]
    refine a_ireturn d_X_look_85 rfl rfl ?_
    simp only [if_pos c_5, if_neg (sw_ne c_5 (show ¬ (4 : Int32) = 0 by decide)), if_neg (sw_ne c_5 (show ¬ (4 : Int32) = 1 by decide)), if_neg (sw_ne c_5 (show ¬ (4 : Int32) = 2 by decide)), if_neg (sw_ne c_5 (show ¬ (4 : Int32) = 3 by decide)), if_neg (sw_ne c_5 (show ¬ (4 : Int32) = 5 by decide)), if_neg (sw_ne c_5 (show ¬ (4 : Int32) = 6 by decide)), if_true] at hK
    exact hK
  · refine a_aload_n d_X_look_86 rfl rfl ?_
    apply a_getfield d_X_look_87 f_X_39
    · (repeat (first | with_reducible assumption | with_reducible exact a_us | with_reducible exact a_ns | refine a_un (by first | with_reducible assumption | omega) ?_ | refine a_nn (by first | with_reducible assumption | omega | (simp only [a_upd_1, a_new_1]; omega)) ?_ | exact a_us | exact a_ns))
    · rfl
    apply a_callV (ci := 4) 0 0 [] _ d_X_look_90 l_X_144 ⟨im_R_latestPlace, se_R_latestPlace⟩ rfl rfl rfl rfl (Nat.le_of_ble_eq_true rfl) ⟨Nat.le_of_ble_eq_true rfl, Nat.le_of_ble_eq_true rfl⟩
    · (repeat (first | with_reducible assumption | with_reducible exact a_us | with_reducible exact a_ns | refine a_un (by first | with_reducible assumption | omega) ?_ | refine a_nn (by first | with_reducible assumption | omega | (simp only [a_upd_1, a_new_1]; omega)) ?_ | exact a_us | exact a_ns))
    refine sp_R_latestPlace h9 ?_
    rw [h14]
    refine a_ireturn d_X_look_93 rfl rfl ?_
    simp only [if_pos c_6, if_neg (sw_ne c_6 (show ¬ (5 : Int32) = 0 by decide)), if_neg (sw_ne c_6 (show ¬ (5 : Int32) = 1 by decide)), if_neg (sw_ne c_6 (show ¬ (5 : Int32) = 2 by decide)), if_neg (sw_ne c_6 (show ¬ (5 : Int32) = 3 by decide)), if_neg (sw_ne c_6 (show ¬ (5 : Int32) = 4 by decide)), if_neg (sw_ne c_6 (show ¬ (5 : Int32) = 6 by decide)), if_true] at hK
    exact hK
  · refine a_aload_n d_X_look_94 rfl rfl ?_
    apply a_getfield d_X_look_95 f_X_27
    · (repeat (first | with_reducible assumption | with_reducible exact a_us | with_reducible exact a_ns | refine a_un (by first | with_reducible assumption | omega) ?_ | refine a_nn (by first | with_reducible assumption | omega | (simp only [a_upd_1, a_new_1]; omega)) ?_ | exact a_us | exact a_ns))
    · rfl
    apply a_callV (ci := 2) 0 0 [] _ d_X_look_98 l_X_147 ⟨im_P_testsInAll, se_P_testsInAll⟩ rfl rfl rfl rfl (Nat.le_of_ble_eq_true rfl) ⟨Nat.le_of_ble_eq_true rfl, Nat.le_of_ble_eq_true rfl⟩
    · (repeat (first | with_reducible assumption | with_reducible exact a_us | with_reducible exact a_ns | refine a_un (by first | with_reducible assumption | omega) ?_ | refine a_nn (by first | with_reducible assumption | omega | (simp only [a_upd_1, a_new_1]; omega)) ?_ | exact a_us | exact a_ns))
    refine sp_P_testsInAll h7 ?_
    refine a_ireturn d_X_look_101 rfl rfl ?_
    simp only [if_pos c_7, if_neg (sw_ne c_7 (show ¬ (6 : Int32) = 0 by decide)), if_neg (sw_ne c_7 (show ¬ (6 : Int32) = 1 by decide)), if_neg (sw_ne c_7 (show ¬ (6 : Int32) = 2 by decide)), if_neg (sw_ne c_7 (show ¬ (6 : Int32) = 3 by decide)), if_neg (sw_ne c_7 (show ¬ (6 : Int32) = 4 by decide)), if_neg (sw_ne c_7 (show ¬ (6 : Int32) = 5 by decide)), if_true] at hK
    exact hK
  · refine a_iconst (v := (-1)) d_X_look_102 (by decide) ?_
    refine a_ireturn d_X_look_103 rfl rfl ?_
    simp only [if_neg c_8, if_neg c_9, if_neg c_10, if_neg c_11, if_neg c_12, if_neg c_13, if_neg c_14, if_true] at hK
    exact hK

end ModX
