/-! POLICYTEXT: what changes it -/
section ModX2
variable {G : aG} {σ : aS} {K : Option Value → aS → Prop} {X n m : Nat} {f g : Nat → Nat} {q : aP} {l : aC} {ft pl : Int32}
/-- the text alone is another -/
theorem XS.text {τ : aS} {n' : Nat} {f' : Nat → Nat} (h : XS σ X n f m g q l ft pl) (hf : a_fr σ τ (X + 1) (X + 1 + 2)) (hB : BY τ (X + 1) 4096 n' f') : XS τ X n' f' m g q l ft pl := by
  obtain ⟨pr, dr, p, sp, n2, g2, q2, p0, k, rf, tp, gp, h1, h2, h3, h4, h5, h6, h7, h8, h9, h10, h11, h12⟩ := h
  exact ⟨pr, dr, p, sp, n2, g2, q2, p0, k, rf, tp, gp, h1, h2, (hf.2.2 X (by omega)).trans h3, hB, h5.fr hf (by omega), h6.fr hf (by omega), h7.fr hf (by omega), h8.fr hf (by omega), h9.fr hf (by omega), h10.fr hf (by omega), h11.fr hf (by omega), h12⟩
theorem XS.call {τ : aS} {l' : aC} (h : XS σ X n f m g q l ft pl) (hf : a_fr σ τ (X + 33) (X + 33 + 1)) (hC : CO τ (X + 33) l') : XS τ X n f m g q l' ft pl := by
  obtain ⟨pr, dr, p, sp, n2, g2, q2, p0, k, rf, tp, gp, h1, h2, h3, h4, h5, h6, h7, h8, h9, h10, h11, h12⟩ := h
  exact ⟨pr, dr, p, sp, n2, g2, q2, p0, k, rf, tp, gp, h1, h2, (hf.2.2 X (by omega)).trans h3, h4.fr hf (by omega), h5.fr hf (by omega), h6.fr hf (by omega), h7.fr hf (by omega), h8.fr hf (by omega), h9.fr hf (by omega), h10.fr hf (by omega), hC, h12⟩
theorem XQ.pol {τ : aS} {q' : aP} {pr dr p sp n2 : Nat} {g2 : Nat → Nat} {q2 : aP} {p0 : Nat} {k : aT} {rf tp gp : Nat → Int32} (h : XQ σ X n f m g q l ft pl pr dr p sp n2 g2 q2 p0 k rf tp gp) (hf : a_fr σ τ p (p + 11)) (hP : PO τ p q') : XS τ X n f m g q' l ft pl := by
  obtain ⟨h1, h2, h3, h4, h5, h6, h7, h8, h9, h10, h11, h12⟩ := h
  exact ⟨pr, dr, p, sp, n2, g2, q2, p0, k, rf, tp, gp, h1, h2, (hf.2.2 X (by omega)).trans h3, h4.fr hf (by omega), h5.fr hf (by omega), h6.fr hf (by omega), hP, h8.fr hf (by omega), h9.fr hf (by omega), h10.fr hf (by omega), h11.fr hf (by omega), h12⟩
set_option maxHeartbeats 1000000 in
set_option maxRecDepth 100000 in
theorem sp_X_cut {a : Int32} (hX : XS σ X n f m g q l ft pl) (hK0 : (a < 0 ∨ nI n < a) → K (some (.int 0)) σ) (hK1 : ∀ j : Nat, j ≤ n → a = nI j → (∀ τ, a_fr σ τ X (X + 34) → XS τ X j f m g q l ft pl → K (some (.int 1)) τ)) : a_C G m_X_cut 1 21 [.ref X, .int a] σ K := by
  obtain ⟨pr, dr, p, sp, n2, g2, q2, p0, k0, rf, tp, gp, h1, h2, h3, h4, h5, h6, h7, h8, h9, h10, h11, h12, h13, h14⟩ := id hX
  obtain ⟨w1, hb1, -⟩ := id h4
  obtain ⟨w2, hb2, -⟩ := id h5
  obtain ⟨w3, hb3, -⟩ := id h6
  have hp0 := h7.1
  have hs0 := h8.1
  have hr0 := h9.1
  have hc0 : σ.2.2 (X + 33) = some (.inr (1, [.int l.1, .int l.2.1, .int l.2.2.1, .int l.2.2.2])) := h11
  refine a_enter rfl (Nat.le_of_ble_eq_true rfl) ?_
  refine a_aload_n d_X_cut_0 rfl rfl ?_
  apply a_getfield d_X_cut_1 f_X_14
  · (repeat (first | with_reducible assumption | with_reducible exact a_us | with_reducible exact a_ns | refine a_un (by first | with_reducible assumption | omega) ?_ | refine a_nn (by first | with_reducible assumption | omega | (simp only [a_upd_1, a_new_1]; omega)) ?_ | exact a_us | exact a_ns))
  · rfl
  refine a_iload_n d_X_cut_4 rfl rfl ?_
  apply a_callV (ci := 0) 0 0 [_] _ d_X_cut_5 l_X_62 ⟨im_B_shorten, se_B_shorten⟩ rfl rfl rfl rfl (Nat.le_of_ble_eq_true rfl) ⟨Nat.le_of_ble_eq_true rfl, Nat.le_of_ble_eq_true rfl⟩
  · (repeat (first | with_reducible assumption | with_reducible exact a_us | with_reducible exact a_ns | refine a_un (by first | with_reducible assumption | omega) ?_ | refine a_nn (by first | with_reducible assumption | omega | (simp only [a_upd_1, a_new_1]; omega)) ?_ | exact a_us | exact a_ns))
  refine sp_B_shorten h4 (fun e => ?_) (fun j hj e τ hf2 hB2 => ?_)
  · exact a_ireturn d_X_cut_8 rfl rfl (hK0 e)
  · exact a_ireturn d_X_cut_8 rfl rfl (hK1 j hj e τ (hf2.wide (by omega) (by omega)) (hX.text hf2 hB2))

set_option maxHeartbeats 1000000 in
set_option maxRecDepth 100000 in
theorem sp_X_poke {a b : Int32} (hX : XS σ X n f m g q l ft pl) (hK0 : (a < 0 ∨ nI n ≤ a) → K (some (.int 0)) σ) (hK1 : ∀ j : Nat, j < n → a = nI j → (∀ τ, a_fr σ τ X (X + 34) → XS τ X n (updN f j (b.toBitVec.toNat % 256)) m g q l ft pl → K (some (.int 1)) τ)) : a_C G m_X_poke 1 25 [.ref X, .int a, .int b] σ K := by
  obtain ⟨pr, dr, p, sp, n2, g2, q2, p0, k0, rf, tp, gp, h1, h2, h3, h4, h5, h6, h7, h8, h9, h10, h11, h12, h13, h14⟩ := id hX
  obtain ⟨w1, hb1, -⟩ := id h4
  obtain ⟨w2, hb2, -⟩ := id h5
  obtain ⟨w3, hb3, -⟩ := id h6
  have hp0 := h7.1
  have hs0 := h8.1
  have hr0 := h9.1
  have hc0 : σ.2.2 (X + 33) = some (.inr (1, [.int l.1, .int l.2.1, .int l.2.2.1, .int l.2.2.2])) := h11
  refine a_enter rfl (Nat.le_of_ble_eq_true rfl) ?_
  refine a_aload_n d_X_poke_0 rfl rfl ?_
  apply a_getfield d_X_poke_1 f_X_14
  · (repeat (first | with_reducible assumption | with_reducible exact a_us | with_reducible exact a_ns | refine a_un (by first | with_reducible assumption | omega) ?_ | refine a_nn (by first | with_reducible assumption | omega | (simp only [a_upd_1, a_new_1]; omega)) ?_ | exact a_us | exact a_ns))
  · rfl
  refine a_iload_n d_X_poke_4 rfl rfl ?_
  refine a_iload_n d_X_poke_5 rfl rfl ?_
  apply a_callV (ci := 0) 0 0 [_, _] _ d_X_poke_6 l_X_65 ⟨im_B_put, se_B_put⟩ rfl rfl rfl rfl (Nat.le_of_ble_eq_true rfl) ⟨Nat.le_of_ble_eq_true rfl, Nat.le_of_ble_eq_true rfl⟩
  · (repeat (first | with_reducible assumption | with_reducible exact a_us | with_reducible exact a_ns | refine a_un (by first | with_reducible assumption | omega) ?_ | refine a_nn (by first | with_reducible assumption | omega | (simp only [a_upd_1, a_new_1]; omega)) ?_ | exact a_us | exact a_ns))
  refine sp_B_put h4 (fun e => ?_) (fun j hj e τ hf2 hB2 => ?_)
  · exact a_ireturn d_X_poke_9 rfl rfl (hK0 e)
  · exact a_ireturn d_X_poke_9 rfl rfl (hK1 j hj e τ (hf2.wide (by omega) (by omega)) (hX.text hf2 hB2))

set_option maxHeartbeats 1000000 in
set_option maxRecDepth 100000 in
theorem sp_X_turnOver (hX : XS σ X n f m g q l ft pl) (hK0 : 4096 < m → K (some (.int 0)) σ) (hK1 : m ≤ 4096 → (∀ τ, a_fr σ τ X (X + 34) → XS τ X m (fun k => if k < 8 * (m / 8 + 1) then g k else f k) m g q l ft pl → K (some (.int 1)) τ)) : a_C G m_X_turnOver 2 64 [.ref X] σ K := by
  obtain ⟨pr, dr, p, sp, n2, g2, q2, p0, k0, rf, tp, gp, h1, h2, h3, h4, h5, h6, h7, h8, h9, h10, h11, h12, h13, h14⟩ := id hX
  obtain ⟨w1, hb1, -⟩ := id h4
  obtain ⟨w2, hb2, -⟩ := id h5
  obtain ⟨w3, hb3, -⟩ := id h6
  have hp0 := h7.1
  have hs0 := h8.1
  have hr0 := h9.1
  have hc0 : σ.2.2 (X + 33) = some (.inr (1, [.int l.1, .int l.2.1, .int l.2.2.1, .int l.2.2.2])) := h11
  refine a_enter rfl (Nat.le_of_ble_eq_true rfl) ?_
  refine a_aload_n d_X_turnOver_0 rfl rfl ?_
  apply a_getfield d_X_turnOver_1 f_X_14
  · (repeat (first | with_reducible assumption | with_reducible exact a_us | with_reducible exact a_ns | refine a_un (by first | with_reducible assumption | omega) ?_ | refine a_nn (by first | with_reducible assumption | omega | (simp only [a_upd_1, a_new_1]; omega)) ?_ | exact a_us | exact a_ns))
  · rfl
  refine a_aload_n d_X_turnOver_4 rfl rfl ?_
  apply a_getfield d_X_turnOver_5 f_X_18
  · (repeat (first | with_reducible assumption | with_reducible exact a_us | with_reducible exact a_ns | refine a_un (by first | with_reducible assumption | omega) ?_ | refine a_nn (by first | with_reducible assumption | omega | (simp only [a_upd_1, a_new_1]; omega)) ?_ | exact a_us | exact a_ns))
  · rfl
  apply a_callV (ci := 0) 1 43 [_] _ d_X_turnOver_8 l_X_95 ⟨im_B_become, se_B_become⟩ rfl rfl rfl rfl (Nat.le_of_ble_eq_true rfl) ⟨Nat.le_of_ble_eq_true rfl, Nat.le_of_ble_eq_true rfl⟩
  · (repeat (first | with_reducible assumption | with_reducible exact a_us | with_reducible exact a_ns | refine a_un (by first | with_reducible assumption | omega) ?_ | refine a_nn (by first | with_reducible assumption | omega | (simp only [a_upd_1, a_new_1]; omega)) ?_ | exact a_us | exact a_ns))
  refine sp_B_become h4 h5 (by omega) (fun e => ?_) (fun e τ hf2 hB2 => ?_)
  · exact a_ireturn d_X_turnOver_11 rfl rfl (hK0 e)
  · exact a_ireturn d_X_turnOver_11 rfl rfl (hK1 e τ (hf2.wide (by omega) (by omega)) (hX.text hf2 hB2))

set_option maxHeartbeats 1000000 in
set_option maxRecDepth 100000 in
theorem sp_X_stand {a b : Int32} (hX : XS σ X n f m g q l ft pl) (hK0 : stF q a b = 0 → K (some (.int 0)) σ) (hK1 : ¬ stF q a b = 0 → (∀ τ, a_fr σ τ X (X + 34) → XS τ X n f m g (q.1, q.2.1, updA q.2.2 6 (hrow q 0 a).toNatClampNeg b) l ft pl → K (some (.int 1)) τ)) : a_C G m_X_stand 2 45 [.ref X, .int a, .int b] σ K := by
  obtain ⟨pr, dr, p, sp, n2, g2, q2, p0, k0, rf, tp, gp, h1, h2, h3, h4, h5, h6, h7, h8, h9, h10, h11, h12, h13, h14⟩ := id hX
  obtain ⟨w1, hb1, -⟩ := id h4
  obtain ⟨w2, hb2, -⟩ := id h5
  obtain ⟨w3, hb3, -⟩ := id h6
  have hp0 := h7.1
  have hs0 := h8.1
  have hr0 := h9.1
  have hc0 : σ.2.2 (X + 33) = some (.inr (1, [.int l.1, .int l.2.1, .int l.2.2.1, .int l.2.2.2])) := h11
  refine a_enter rfl (Nat.le_of_ble_eq_true rfl) ?_
  refine a_aload_n d_X_stand_0 rfl rfl ?_
  apply a_getfield d_X_stand_1 f_X_27
  · (repeat (first | with_reducible assumption | with_reducible exact a_us | with_reducible exact a_ns | refine a_un (by first | with_reducible assumption | omega) ?_ | refine a_nn (by first | with_reducible assumption | omega | (simp only [a_upd_1, a_new_1]; omega)) ?_ | exact a_us | exact a_ns))
  · rfl
  refine a_iload_n d_X_stand_4 rfl rfl ?_
  refine a_iload_n d_X_stand_5 rfl rfl ?_
  apply a_callV (ci := 2) 1 22 [_, _] _ d_X_stand_6 l_X_99 ⟨im_P_setStand, se_P_setStand⟩ rfl rfl rfl rfl (Nat.le_of_ble_eq_true rfl) ⟨Nat.le_of_ble_eq_true rfl, Nat.le_of_ble_eq_true rfl⟩
  · (repeat (first | with_reducible assumption | with_reducible exact a_us | with_reducible exact a_ns | refine a_un (by first | with_reducible assumption | omega) ?_ | refine a_nn (by first | with_reducible assumption | omega | (simp only [a_upd_1, a_new_1]; omega)) ?_ | exact a_us | exact a_ns))
  refine sp_P_setStand h7 (fun e => ?_) (fun e τ hf2 hP2 => ?_)
  · exact a_ireturn d_X_stand_9 rfl rfl (hK0 e)
  · exact a_ireturn d_X_stand_9 rfl rfl (hK1 e τ (hf2.wide (by omega) (by omega)) (XQ.pol ⟨h1, h2, h3, h4, h5, h6, h7, h8, h9, h10, h11, h12, h13, h14⟩ hf2 hP2))

set_option maxHeartbeats 1000000 in
set_option maxRecDepth 100000 in
theorem sp_X_call {a b d e : Int32} (hX : XS σ X n f m g q l ft pl) (hK0 : (a < 0 ∨ 16 ≤ a) → K (some (.int 0)) σ) (hK1 : ¬ a < 0 → a < 16 → ∀ τ, a_fr σ τ X (X + 34) → XS τ X n f m g q (a, b, d, e) ft pl → K (some (.int 1)) τ) : a_C G m_X_call 1 24 [.ref X, .int a, .int b, .int d, .int e] σ K := by
  obtain ⟨pr, dr, p, sp, n2, g2, q2, p0, k0, rf, tp, gp, h1, h2, h3, h4, h5, h6, h7, h8, h9, h10, h11, h12, h13, h14⟩ := id hX
  obtain ⟨w1, hb1, -⟩ := id h4
  obtain ⟨w2, hb2, -⟩ := id h5
  obtain ⟨w3, hb3, -⟩ := id h6
  have hp0 := h7.1
  have hs0 := h8.1
  have hr0 := h9.1
  have hc0 : σ.2.2 (X + 33) = some (.inr (1, [.int l.1, .int l.2.1, .int l.2.2.1, .int l.2.2.2])) := h11
  refine a_enter rfl (Nat.le_of_ble_eq_true rfl) ?_
  refine a_iload_n d_X_call_0 rfl rfl ?_
  refine a_if_lt (tgt := 10) d_X_call_1 (by decide) (fun c_1 => ?_) (fun c_1 => ?_)
  · refine a_iconst (v := 0) d_X_call_10 (by decide) ?_
    exact a_ireturn d_X_call_11 rfl rfl (hK0 (by first | exact Or.inl (by assumption) | exact Or.inr (Int32.not_lt.mp (by assumption))))
  · refine a_iload_n d_X_call_4 rfl rfl ?_
    refine a_bipush (v := 16) d_X_call_5 (by decide) ?_
    refine a_icmp_lt (tgt := 12) d_X_call_7 (by decide) (fun c_2 => ?_) (fun c_2 => ?_)
    · refine a_aload_n d_X_call_12 rfl rfl ?_
      apply a_getfield d_X_call_13 f_X_46
      · (repeat (first | with_reducible assumption | with_reducible exact a_us | with_reducible exact a_ns | refine a_un (by first | with_reducible assumption | omega) ?_ | refine a_nn (by first | with_reducible assumption | omega | (simp only [a_upd_1, a_new_1]; omega)) ?_ | exact a_us | exact a_ns))
      · rfl
      refine a_iload_n d_X_call_16 rfl rfl ?_
      refine a_iload_n d_X_call_17 rfl rfl ?_
      refine a_iload_n d_X_call_18 rfl rfl ?_
      refine a_iload d_X_call_19 rfl ?_
      apply a_callV (ci := 1) 0 0 [_, _, _, _] _ d_X_call_21 l_X_123 ⟨im_C_become, se_C_become⟩ rfl rfl rfl rfl (Nat.le_of_ble_eq_true rfl) ⟨Nat.le_of_ble_eq_true rfl, Nat.le_of_ble_eq_true rfl⟩
      · (repeat (first | with_reducible assumption | with_reducible exact a_us | with_reducible exact a_ns | refine a_un (by first | with_reducible assumption | omega) ?_ | refine a_nn (by first | with_reducible assumption | omega | (simp only [a_upd_1, a_new_1]; omega)) ?_ | exact a_us | exact a_ns))
      refine sp_C_become h11 (fun τ hf2 hC2 => ?_)
      refine a_iconst (v := 1) d_X_call_24 (by decide) ?_
      exact a_ireturn d_X_call_25 rfl rfl (hK1 (by assumption) (by assumption) τ (hf2.wide (by omega) (by omega)) (hX.call hf2 hC2))
    · refine a_iconst (v := 0) d_X_call_10 (by decide) ?_
      exact a_ireturn d_X_call_11 rfl rfl (hK0 (by first | exact Or.inl (by assumption) | exact Or.inr (Int32.not_lt.mp (by assumption))))

set_option maxHeartbeats 1000000 in
set_option maxRecDepth 100000 in
theorem sp_X_make {a : Int32} (hX : XS σ X n f m g q l ft pl) (hK0 : rchF q l a = -1 → K (some (.int (-1))) σ) (hK1 : ¬ rchF q l a = -1 → ∀ (τ : aS) (L S : Nat → Int32), a_fr σ τ X (X + 34) → XS τ X n f m g (q.1, q.2.1, setA (setA q.2.2 7 L) 6 S) l ft pl → (∀ j, j < q.1.1 → S j = saV q l j) → (∀ j, q.1.1 ≤ j → S j = q.2.2 6 j) → K (some (.int (rchF q l a))) τ) : a_C G m_X_make 6 146 [.ref X, .int a] σ K := by
  obtain ⟨pr, dr, p, sp, n2, g2, q2, p0, k0, rf, tp, gp, h1, h2, h3, h4, h5, h6, h7, h8, h9, h10, h11, h12, h13, h14⟩ := id hX
  obtain ⟨w1, hb1, -⟩ := id h4
  obtain ⟨w2, hb2, -⟩ := id h5
  obtain ⟨w3, hb3, -⟩ := id h6
  have hp0 := h7.1
  have hs0 := h8.1
  have hr0 := h9.1
  have hc0 : σ.2.2 (X + 33) = some (.inr (1, [.int l.1, .int l.2.1, .int l.2.2.1, .int l.2.2.2])) := h11
  refine a_enter rfl (Nat.le_of_ble_eq_true rfl) ?_
  refine a_aload_n d_X_make_0 rfl rfl ?_
  apply a_getfield d_X_make_1 f_X_27
  · (repeat (first | with_reducible assumption | with_reducible exact a_us | with_reducible exact a_ns | refine a_un (by first | with_reducible assumption | omega) ?_ | refine a_nn (by first | with_reducible assumption | omega | (simp only [a_upd_1, a_new_1]; omega)) ?_ | exact a_us | exact a_ns))
  · rfl
  refine a_iload_n d_X_make_4 rfl rfl ?_
  refine a_aload_n d_X_make_5 rfl rfl ?_
  apply a_getfield d_X_make_6 f_X_46
  · (repeat (first | with_reducible assumption | with_reducible exact a_us | with_reducible exact a_ns | refine a_un (by first | with_reducible assumption | omega) ?_ | refine a_nn (by first | with_reducible assumption | omega | (simp only [a_upd_1, a_new_1]; omega)) ?_ | exact a_us | exact a_ns))
  · rfl
  apply a_callV (ci := 2) 4 98 [_, _] _ d_X_make_9 l_X_130 ⟨im_P_reachedFrom, se_P_reachedFrom⟩ rfl rfl rfl rfl (Nat.le_of_ble_eq_true rfl) ⟨Nat.le_of_ble_eq_true rfl, Nat.le_of_ble_eq_true rfl⟩
  · (repeat (first | with_reducible assumption | with_reducible exact a_us | with_reducible exact a_ns | refine a_un (by first | with_reducible assumption | omega) ?_ | refine a_nn (by first | with_reducible assumption | omega | (simp only [a_upd_1, a_new_1]; omega)) ?_ | exact a_us | exact a_ns))
  refine sp_P_reachedFrom h7 h11 ?_
  refine a_istore_n d_X_make_12 rfl (by decide) ?_
  refine a_iload_n d_X_make_13 rfl rfl ?_
  refine a_iconst (v := (-1)) d_X_make_14 (by decide) ?_
  refine a_icmp_eq (tgt := 29) d_X_make_15 (by decide) (fun c_1 => ?_) (fun c_1 => ?_)
  · refine a_iload_n d_X_make_29 rfl rfl ?_
    first | exact a_ireturn d_X_make_30 rfl rfl (hK1 (by assumption) τ L S (hf2.wide (by omega) (by omega)) (XQ.pol ⟨h1, h2, h3, h4, h5, h6, h7, h8, h9, h10, h11, h12, h13, h14⟩ hf2 hP2) hS1 hS2) | (refine a_ireturn d_X_make_30 rfl rfl ?_; rw [c_1]; exact hK0 c_1)
  · refine a_aload_n d_X_make_18 rfl rfl ?_
    apply a_getfield d_X_make_19 f_X_27
    · (repeat (first | with_reducible assumption | with_reducible exact a_us | with_reducible exact a_ns | refine a_un (by first | with_reducible assumption | omega) ?_ | refine a_nn (by first | with_reducible assumption | omega | (simp only [a_upd_1, a_new_1]; omega)) ?_ | exact a_us | exact a_ns))
    · rfl
    refine a_aload_n d_X_make_22 rfl rfl ?_
    apply a_getfield d_X_make_23 f_X_46
    · (repeat (first | with_reducible assumption | with_reducible exact a_us | with_reducible exact a_ns | refine a_un (by first | with_reducible assumption | omega) ?_ | refine a_nn (by first | with_reducible assumption | omega | (simp only [a_upd_1, a_new_1]; omega)) ?_ | exact a_us | exact a_ns))
    · rfl
    apply a_callV (ci := 2) 5 124 [_] _ d_X_make_26 l_X_134 ⟨im_P_moveCounters, se_P_moveCounters⟩ rfl rfl rfl rfl (Nat.le_of_ble_eq_true rfl) ⟨Nat.le_of_ble_eq_true rfl, Nat.le_of_ble_eq_true rfl⟩
    · (repeat (first | with_reducible assumption | with_reducible exact a_us | with_reducible exact a_ns | refine a_un (by first | with_reducible assumption | omega) ?_ | refine a_nn (by first | with_reducible assumption | omega | (simp only [a_upd_1, a_new_1]; omega)) ?_ | exact a_us | exact a_ns))
    refine sp_P_moveCounters h7 h11 (by omega) (fun τ L S hf2 hP2 hS1 hS2 => ?_)
    refine a_iload_n d_X_make_29 rfl rfl ?_
    first | exact a_ireturn d_X_make_30 rfl rfl (hK1 (by assumption) τ L S (hf2.wide (by omega) (by omega)) (XQ.pol ⟨h1, h2, h3, h4, h5, h6, h7, h8, h9, h10, h11, h12, h13, h14⟩ hf2 hP2) hS1 hS2) | (refine a_ireturn d_X_make_30 rfl rfl ?_; rw [c_1]; exact hK0 c_1)

theorem rs_out {σ0 : aS} {r b p : Nat} {k : aT} {q : aP} {rf tp gp : Nat → Int32} {a : Nat} (h : a < r ∨ r + 4 ≤ a) (h2 : a < p ∨ p + 11 ≤ a) : (rs σ0 r b p k q rf tp gp).2.2 a = σ0.2.2 a := by
  dsimp only [rs]
  rw [if_neg (by omega), if_neg (by omega), if_neg (by omega), if_neg (by omega), if_neg (by omega)]
theorem BY.of {σ τ : aS} {b cap n : Nat} {f : Nat → Nat} (h : BY σ b cap n f) (e1 : τ.2.2 b = σ.2.2 b) (e2 : τ.2.2 (b + 1) = σ.2.2 (b + 1)) : BY τ b cap n f := by
  obtain ⟨w, h1, h2, h3⟩ := h
  exact ⟨w, e1.trans h1, e2.trans h2, h3⟩
theorem PO.of {σ τ : aS} {p : Nat} {q : aP} (h : PO σ p q) (e : ∀ i, i < 11 → τ.2.2 (p + i) = σ.2.2 (p + i)) : PO τ p q := by
  obtain ⟨h0, h1, h2, h3, h4, h5, h6, h7, h8, h9, h10, h11⟩ := h
  exact ⟨(e 0 (by omega)).trans h0, (e 1 (by omega)).trans h1, (e 2 (by omega)).trans h2, (e 3 (by omega)).trans h3, (e 4 (by omega)).trans h4, (e 5 (by omega)).trans h5, (e 6 (by omega)).trans h6, (e 7 (by omega)).trans h7, (e 8 (by omega)).trans h8, (e 9 (by omega)).trans h9, (e 10 (by omega)).trans h10, h11⟩
theorem lnk1_FA {c : aN} (l : Nat) (h : c.1 2 0 < 8) : (lnk1 c l).1 2 0 < 8 := by
  unfold lnk1
  split
  · split
    · show 6 < 8; decide
    · exact h
  · split
    · split
      · show 5 < 8; decide
      · exact h
    · split
      · show 5 < 8; decide
      · exact h
theorem lnkF_FA : ∀ (m l : Nat) {c : aN}, c.1 2 0 < 8 → (lnkF m l c).1 2 0 < 8
  | 0, _, _, h => h
  | m + 1, l, c, h => by
    rw [lnkF]
    split
    · exact lnkF_FA m (l + 1) (lnk1_FA l h)
    · exact h
theorem RDN_FA {n : Nat} {f : Nat → Nat} {c : aN} (h : RDN n f c) : c.1 2 0 < 8 := by
  obtain ⟨d, h1, h2, rfl⟩ := h
  have := FA_b h1
  unfold aEnd
  split
  · exact lnkF_FA _ _ (by omega)
  · omega
set_option maxHeartbeats 1000000 in
set_option maxRecDepth 100000 in
theorem sp_X_read (hX : XS σ X n f m g q l ft pl) (hK0 : ∀ (c : aN), RDN n f c → ¬ c.1 2 0 = 0 → ∀ τ, a_fr σ τ X (X + 34) → XS τ X n f m g q l (nI (c.1 2 0)) (nI (c.1 3 0)) → K (some (.int (nI (c.1 2 0)))) τ) (hK1 : ∀ (c : aN) (q2 : aP), RDN n f c → c.1 2 0 = 0 → PC c q2 → (∀ k, k < c.1 4 0 → q2.2.2 6 k = 0) → ∀ τ, a_fr σ τ X (X + 34) → XS τ X n f m g q2 l 0 (-1) → K (some (.int 0)) τ) : a_C G m_X_read 9 195 [.ref X] σ K := by
  obtain ⟨pr, dr, p, sp, n2, g2, q2, p0, k0, rf, tp, gp, h1, h2, h3, h4, h5, h6, h7, h8, h9, h10, h11, h12, h13, h14⟩ := id hX
  obtain ⟨w1, hb1, -⟩ := id h4
  obtain ⟨w2, hb2, -⟩ := id h5
  obtain ⟨w3, hb3, -⟩ := id h6
  have hp0 := h7.1
  have hs0 := h8.1
  have hr0 := h9.1
  have hc0 : σ.2.2 (X + 33) = some (.inr (1, [.int l.1, .int l.2.1, .int l.2.2.1, .int l.2.2.2])) := h11
  refine a_enter rfl (Nat.le_of_ble_eq_true rfl) ?_
  refine a_aload_n d_X_read_0 rfl rfl ?_
  apply a_getfield d_X_read_1 f_X_39
  · (repeat (first | with_reducible assumption | with_reducible exact a_us | with_reducible exact a_ns | refine a_un (by first | with_reducible assumption | omega) ?_ | refine a_nn (by first | with_reducible assumption | omega | (simp only [a_upd_1, a_new_1]; omega)) ?_ | exact a_us | exact a_ns))
  · rfl
  refine a_aload_n d_X_read_4 rfl rfl ?_
  apply a_getfield d_X_read_5 f_X_31
  · (repeat (first | with_reducible assumption | with_reducible exact a_us | with_reducible exact a_ns | refine a_un (by first | with_reducible assumption | omega) ?_ | refine a_nn (by first | with_reducible assumption | omega | (simp only [a_upd_1, a_new_1]; omega)) ?_ | exact a_us | exact a_ns))
  · rfl
  apply a_callV (ci := 4) 8 172 [_] _ d_X_read_8 l_X_69 ⟨im_R_readInto, se_R_readInto⟩ rfl rfl rfl rfl (Nat.le_of_ble_eq_true rfl) ⟨Nat.le_of_ble_eq_true rfl, Nat.le_of_ble_eq_true rfl⟩
  · (repeat (first | with_reducible assumption | with_reducible exact a_us | with_reducible exact a_ns | refine a_un (by first | with_reducible assumption | omega) ?_ | refine a_nn (by first | with_reducible assumption | omega | (simp only [a_upd_1, a_new_1]; omega)) ?_ | exact a_us | exact a_ns))
  refine sp_R_readInto h9 h10 h8 h4 (by omega) (show n ≤ 4096 by obtain ⟨w9, -, -, h9b, -⟩ := id h4; exact h9b) h12 (fun cc kk qq rf2 tp2 gp2 hRD hRX => ?_)
  obtain ⟨xP, xV, x4, x5, x6⟩ := hRX
  have hso : ∀ a, (a < X + 29 ∨ X + 29 + 4 ≤ a) → (a < sp ∨ sp + 11 ≤ a) → (rs σ (X + 29) (X + 1) sp kk qq rf2 tp2 gp2).2.2 a = σ.2.2 a := fun a ha hb => rs_out ha hb
  have hfr : a_fr σ (rs σ (X + 29) (X + 1) sp kk qq rf2 tp2 gp2) X (X + 34) := ⟨rfl, rfl, fun a ha => rs_out (by omega) (by omega)⟩
  have hqo : XQ (rs σ (X + 29) (X + 1) sp kk qq rf2 tp2 gp2) X n f m g q l (nI (cc.1 2 0)) (if cc.1 2 0 = 0 then -1 else nI (cc.1 3 0)) pr dr p sp n2 g2 qq sp kk rf2 tp2 gp2 := ⟨h1, h2, (hso X (by omega) (by omega)).trans h3, h4.of (hso _ (by omega) (by omega)) (hso _ (by omega) (by omega)), h5.of (hso _ (by omega) (by omega)) (hso _ (by omega) (by omega)), h6.of (hso _ (by omega) (by omega)) (hso _ (by omega) (by omega)), h7.of (fun i hi => hso _ (by omega) (by omega)), rsP (by omega) xP, rsO (by omega), rsT, (hso _ (by omega) (by omega)).trans h11, xV, x4, x5⟩
  have hx0 := hqo.2.2.1
  refine a_istore_n d_X_read_11 rfl (by decide) ?_
  refine a_iload_n d_X_read_12 rfl rfl ?_
  refine a_if_ne (tgt := 34) d_X_read_13 (by decide) (fun c_1 => ?_) (fun c_1 => ?_)
  · refine a_iload_n d_X_read_34 rfl rfl ?_
    have hz : ¬ cc.1 2 0 = 0 := fun e => c_1 (by rw [e]; rfl)
    rw [if_neg hz] at hqo
    exact a_ireturn d_X_read_35 rfl rfl (hK0 cc hRD hz _ hfr ⟨_, _, _, _, _, _, _, _, _, _, _, _, hqo⟩)
  · refine a_aload_n d_X_read_16 rfl rfl ?_
    apply a_getfield d_X_read_17 f_X_27
    · (repeat (first | with_reducible assumption | with_reducible exact a_us | with_reducible exact a_ns | refine a_un (by first | with_reducible assumption | omega) ?_ | refine a_nn (by first | with_reducible assumption | omega | (simp only [a_upd_1, a_new_1]; omega)) ?_ | exact a_us | exact a_ns))
    · rfl
    refine a_astore_n d_X_read_20 rfl (by decide) ?_
    refine a_aload_n d_X_read_21 rfl rfl ?_
    refine a_aload_n d_X_read_22 rfl rfl ?_
    apply a_getfield d_X_read_23 f_X_31
    · (repeat (first | with_reducible assumption | with_reducible exact a_us | with_reducible exact a_ns | refine a_un (by first | with_reducible assumption | omega) ?_ | refine a_nn (by first | with_reducible assumption | omega | (simp only [a_upd_1, a_new_1]; omega)) ?_ | exact a_us | exact a_ns))
    · rfl
    apply a_putfield d_X_read_26 p_X_27
    · (repeat (first | with_reducible assumption | with_reducible exact a_us | with_reducible exact a_ns | refine a_un (by first | with_reducible assumption | omega) ?_ | refine a_nn (by first | with_reducible assumption | omega | (simp only [a_upd_1, a_new_1]; omega)) ?_ | exact a_us | exact a_ns))
    · first | rfl | assumption
    · first | rfl | assumption
    · exact Nat.le_of_ble_eq_true rfl
    refine a_aload_n d_X_read_29 rfl rfl ?_
    refine a_aload_n d_X_read_30 rfl rfl ?_
    apply a_putfield d_X_read_31 p_X_31
    · (repeat (first | with_reducible assumption | with_reducible exact a_us | with_reducible exact a_ns | refine a_un (by first | with_reducible assumption | omega) ?_ | refine a_nn (by first | with_reducible assumption | omega | (simp only [a_upd_1, a_new_1]; omega)) ?_ | exact a_us | exact a_ns))
    · first | rfl | assumption
    · first | rfl | assumption
    · exact Nat.le_of_ble_eq_true rfl
    refine a_iload_n d_X_read_34 rfl rfl ?_
    have hz : cc.1 2 0 = 0 := (nI_eq (by have := RDN_FA hRD; omega) (by decide)).mp (c_1.trans rfl)
    obtain ⟨y1, y2, y3, y4, y5, y6, y7, y8, y9, y10, y11, y12, y13, y14⟩ := hqo
    refine a_ireturn d_X_read_35 rfl rfl ?_
    rw [c_1]
    have hf3 : ∀ (o1 o2 : aE), a_fr (rs σ (X + 29) (X + 1) sp kk qq rf2 tp2 gp2) (a_upd (a_upd (rs σ (X + 29) (X + 1) sp kk qq rf2 tp2 gp2) X o1) X o2) X (X + 1) := fun o1 o2 => (a_fr.rf.upd (Nat.le_refl X) (Nat.lt_succ_self X)).upd (Nat.le_refl X) (Nat.lt_succ_self X)
    refine hK1 cc qq hRD hz (x6 hz).1 (x6 hz).2 _ (hfr.trans ((hf3 _ _).wide (Nat.le_refl _) (by omega))) ⟨pr, dr, sp, p, n2, g2, q, sp, kk, rf2, tp2, gp2, y1, by omega, a_us, y4.fr (hf3 _ _) (by omega), y5.fr (hf3 _ _) (by omega), y6.fr (hf3 _ _) (by omega), y8.fr (hf3 _ _) (by omega), y7.fr (hf3 _ _) (by omega), y9.fr (hf3 _ _) (by omega), y10.fr (hf3 _ _) (by omega), y11.fr (hf3 _ _) (by omega), y12, by rw [y13, hz]; rfl, by rw [y14, if_pos hz]⟩

end ModX2
