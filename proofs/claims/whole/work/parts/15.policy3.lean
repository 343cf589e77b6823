/-! POLICY, third part: what changes it -/
theorem updA_ne {A : Nat → Nat → Int32} {i a k : Nat} {x : Int32} (h : a ≠ i) : updA A i k x a = A a := by simp [updA, h]
theorem updA_eq {A : Nat → Nat → Int32} {i k : Nat} {x : Int32} : updA A i k x i = upd (A i) k x := by simp [updA]
/-- addHead, where it can -/
def ah (q : aP) (w : Int32) (nm : Int64) : aP := if w = 0 then ((q.1.1 + 1, q.1.2.1, q.1.2.2), vp_updL q.2.1 q.1.1 nm, updA (updA (updA q.2.2 4 q.1.1 0) 5 q.1.1 0) 6 q.1.1 0) else ((q.1.1, q.1.2.1 + 1, q.1.2.2), vp_updL q.2.1 (6 + q.1.2.1) nm, updA q.2.2 4 (6 + q.1.2.1) 0)
theorem PI_cnt0 {q : aP} (h : PI q) {k : Nat} {a : Nat × Nat × Nat} {n : Nat → Int64} (h1 : a.1 ≤ 6) (h2 : a.2.1 ≤ 24) {A : Nat → Nat → Int32} (e4 : A 4 = upd (q.2.2 4) k 0) (e10 : A 10 = q.2.2 10) : PI (a, n, A) := by
  refine ⟨h1, h2, fun j hj => ?_, fun j hj => ?_, fun j hj => ?_⟩
  · show ∃ c : Nat, c ≤ 4 ∧ A 4 j = nI c
    rw [e4]
    by_cases e : j = k
    · exact ⟨0, by omega, by rw [e, pk_us]; rfl⟩
    · rw [pk_un e]; exact h.2.2.1 j hj
  · show ∃ c : Nat, c ≤ 8 ∧ A 4 (6 + j) = nI c
    rw [e4]
    by_cases e : 6 + j = k
    · exact ⟨0, by omega, by rw [e, pk_us]; rfl⟩
    · rw [pk_un e]; exact h.2.2.2.1 j hj
  · show ∃ c : Nat, c ≤ 4 ∧ A 10 j = nI c
    rw [e10]; exact h.2.2.2.2 j hj
section ModP3
variable {G : aG} {σ : aS} {K : Option Value → aS → Prop} {p : Nat} {q : aP}
set_option maxHeartbeats 4000000 in
set_option maxRecDepth 100000 in
theorem sp_P_clear (hP : PO σ p q) (hK : ∀ τ, a_fr σ τ p (p + 11) → PO τ p ((0, 0, 0), q.2) → K none τ) : a_C G m_P_clear 0 0 [.ref p] σ K := by
  obtain ⟨h0, h1, h2, h3, h4, h5, h6, h7, h8, h9, h10, hI⟩ := id hP
  refine a_enter rfl (Nat.le_of_ble_eq_true rfl) ?_
  refine a_aload_n d_P_clear_0 rfl rfl ?_
  refine a_iconst (v := 0) d_P_clear_1 (by decide) ?_
  apply a_putfield d_P_clear_2 p_P_47
  · (repeat (first | with_reducible assumption | with_reducible exact a_us | with_reducible exact a_ns | refine a_un (by first | with_reducible assumption | omega) ?_ | refine a_nn (by first | with_reducible assumption | omega | (simp only [a_upd_1, a_new_1]; omega)) ?_ | exact a_us | exact a_ns))
  · first | rfl | assumption
  · first | rfl | assumption
  · exact Nat.le_of_ble_eq_true rfl
  refine a_aload_n d_P_clear_5 rfl rfl ?_
  refine a_iconst (v := 0) d_P_clear_6 (by decide) ?_
  apply a_putfield d_P_clear_7 p_P_43
  · (repeat (first | with_reducible assumption | with_reducible exact a_us | with_reducible exact a_ns | refine a_un (by first | with_reducible assumption | omega) ?_ | refine a_nn (by first | with_reducible assumption | omega | (simp only [a_upd_1, a_new_1]; omega)) ?_ | exact a_us | exact a_ns))
  · first | rfl | assumption
  · first | rfl | assumption
  · exact Nat.le_of_ble_eq_true rfl
  refine a_aload_n d_P_clear_10 rfl rfl ?_
  refine a_iconst (v := 0) d_P_clear_11 (by decide) ?_
  apply a_putfield d_P_clear_12 p_P_50
  · (repeat (first | with_reducible assumption | with_reducible exact a_us | with_reducible exact a_ns | refine a_un (by first | with_reducible assumption | omega) ?_ | refine a_nn (by first | with_reducible assumption | omega | (simp only [a_upd_1, a_new_1]; omega)) ?_ | exact a_us | exact a_ns))
  · first | rfl | assumption
  · first | rfl | assumption
  · exact Nat.le_of_ble_eq_true rfl
  refine a_return d_P_clear_15 rfl ?_
  refine hK _ ?_ ⟨?_, ?_, ?_, ?_, ?_, ?_, ?_, ?_, ?_, ?_, ?_, ?_⟩
  · (repeat (first | exact a_fr.rf | refine a_fr.upd ?_ (by omega) (by omega)))
  · (repeat (first | with_reducible assumption | with_reducible exact a_us | refine a_un (by omega) ?_ | exact a_us | (rw [← nI_1]; exact a_us) | assumption))
  · (repeat (first | with_reducible assumption | with_reducible exact a_us | refine a_un (by omega) ?_ | exact a_us | (rw [← nI_1]; exact a_us) | assumption))
  · (repeat (first | with_reducible assumption | with_reducible exact a_us | refine a_un (by omega) ?_ | exact a_us | (rw [← nI_1]; exact a_us) | assumption))
  · (repeat (first | with_reducible assumption | with_reducible exact a_us | refine a_un (by omega) ?_ | exact a_us | (rw [← nI_1]; exact a_us) | assumption))
  · (repeat (first | with_reducible assumption | with_reducible exact a_us | refine a_un (by omega) ?_ | exact a_us | (rw [← nI_1]; exact a_us) | assumption))
  · (repeat (first | with_reducible assumption | with_reducible exact a_us | refine a_un (by omega) ?_ | exact a_us | (rw [← nI_1]; exact a_us) | assumption))
  · (repeat (first | with_reducible assumption | with_reducible exact a_us | refine a_un (by omega) ?_ | exact a_us | (rw [← nI_1]; exact a_us) | assumption))
  · (repeat (first | with_reducible assumption | with_reducible exact a_us | refine a_un (by omega) ?_ | exact a_us | (rw [← nI_1]; exact a_us) | assumption))
  · (repeat (first | with_reducible assumption | with_reducible exact a_us | refine a_un (by omega) ?_ | exact a_us | (rw [← nI_1]; exact a_us) | assumption))
  · (repeat (first | with_reducible assumption | with_reducible exact a_us | refine a_un (by omega) ?_ | exact a_us | (rw [← nI_1]; exact a_us) | assumption))
  · (repeat (first | with_reducible assumption | with_reducible exact a_us | refine a_un (by omega) ?_ | exact a_us | (rw [← nI_1]; exact a_us) | assumption))
  · exact ⟨Nat.zero_le _, Nat.zero_le _, hI.2.2⟩

def stF (q : aP) (k v : Int32) : Int32 := if hrow q 0 k = -1 then 0 else if v < 0 then 0 else if v ≤ q.2.2 5 (hrow q 0 k).toNatClampNeg then 1 else 0
theorem PI_keep {q : aP} (h : PI q) {a : Nat × Nat × Nat} {n : Nat → Int64} {A : Nat → Nat → Int32} (h1 : a.1 ≤ 6) (h2 : a.2.1 ≤ 24) (e4 : A 4 = q.2.2 4) (e10 : A 10 = q.2.2 10) : PI (a, n, A) := by
  refine ⟨h1, h2, ?_⟩
  show (∀ k, k < 6 → ∃ c : Nat, c ≤ 4 ∧ A 4 k = nI c) ∧ (∀ k, k < 24 → ∃ c : Nat, c ≤ 8 ∧ A 4 (6 + k) = nI c) ∧ (∀ k, k < 216 → ∃ c : Nat, c ≤ 4 ∧ A 10 k = nI c)
  rw [e4, e10]
  exact h.2.2
set_option maxHeartbeats 4000000 in
set_option maxRecDepth 100000 in
theorem sp_P_setStand {k v : Int32} (hP : PO σ p q) (hK0 : stF q k v = 0 → K (some (.int 0)) σ) (hK1 : ¬ stF q k v = 0 → ∀ τ, a_fr σ τ p (p + 11) → PO τ p (q.1, q.2.1, updA q.2.2 6 (hrow q 0 k).toNatClampNeg v) → K (some (.int 1)) τ) : a_C G m_P_setStand 1 22 [.ref p, .int k, .int v] σ K := by
  obtain ⟨h0, h1, h2, h3, h4, h5, h6, h7, h8, h9, h10, hI⟩ := id hP
  refine a_enter rfl (Nat.le_of_ble_eq_true rfl) ?_
  refine a_aload_n d_P_setStand_0 rfl rfl ?_
  refine a_iconst (v := 0) d_P_setStand_1 (by decide) ?_
  refine a_iload_n d_P_setStand_2 rfl rfl ?_
  apply a_callV (ci := 2) 0 0 [_, _] _ d_P_setStand_3 l_P_53 ⟨im_P_headRow, se_P_headRow⟩ rfl rfl rfl rfl (Nat.le_of_ble_eq_true rfl) ⟨Nat.le_of_ble_eq_true rfl, Nat.le_of_ble_eq_true rfl⟩
  · (repeat (first | with_reducible assumption | with_reducible exact a_us | with_reducible exact a_ns | refine a_un (by first | with_reducible assumption | omega) ?_ | refine a_nn (by first | with_reducible assumption | omega | (simp only [a_upd_1, a_new_1]; omega)) ?_ | exact a_us | exact a_ns))
  refine sp_P_headRow hP ?_
  refine a_istore_n d_P_setStand_6 rfl (by decide) ?_
  refine a_iload_n d_P_setStand_7 rfl rfl ?_
  refine a_iconst (v := (-1)) d_P_setStand_8 (by decide) ?_
  refine a_icmp_eq (tgt := 26) d_P_setStand_9 (by decide) (fun c_1 => ?_) (fun c_1 => ?_)
  · refine a_iconst (v := 0) d_P_setStand_26 (by decide) ?_
    refine a_ireturn d_P_setStand_27 rfl rfl ?_
    exact hK0 (by simp only [stF, if_pos c_1, if_true])
  · refine a_iload_n d_P_setStand_12 rfl rfl ?_
    refine a_if_lt (tgt := 26) d_P_setStand_13 (by decide) (fun c_2 => ?_) (fun c_2 => ?_)
    · refine a_iconst (v := 0) d_P_setStand_26 (by decide) ?_
      refine a_ireturn d_P_setStand_27 rfl rfl ?_
      exact hK0 (by simp only [stF, if_neg c_1, if_pos c_2, if_neg (Int32.not_le.mpr c_2), if_true])
    · refine a_iload_n d_P_setStand_16 rfl rfl ?_
      refine a_aload_n d_P_setStand_17 rfl rfl ?_
      apply a_getfield d_P_setStand_18 f_P_19
      · (repeat (first | with_reducible assumption | with_reducible exact a_us | with_reducible exact a_ns | refine a_un (by first | with_reducible assumption | omega) ?_ | refine a_nn (by first | with_reducible assumption | omega | (simp only [a_upd_1, a_new_1]; omega)) ?_ | exact a_us | exact a_ns))
      · rfl
      refine a_iload_n d_P_setStand_21 rfl rfl ?_
      apply a_iald (t0 := 0) d_P_setStand_22 rfl
      · (repeat (first | with_reducible assumption | with_reducible exact a_us | with_reducible exact a_ns | refine a_un (by first | with_reducible assumption | omega) ?_ | refine a_nn (by first | with_reducible assumption | omega | (simp only [a_upd_1, a_new_1]; omega)) ?_ | exact a_us | exact a_ns))
      · exact hrow_vp0 hI c_1
      refine a_icmp_le (tgt := 28) d_P_setStand_23 (by decide) (fun c_3 => ?_) (fun c_3 => ?_)
      · refine a_aload_n d_P_setStand_28 rfl rfl ?_
        apply a_getfield d_P_setStand_29 f_P_22
        · (repeat (first | with_reducible assumption | with_reducible exact a_us | with_reducible exact a_ns | refine a_un (by first | with_reducible assumption | omega) ?_ | refine a_nn (by first | with_reducible assumption | omega | (simp only [a_upd_1, a_new_1]; omega)) ?_ | exact a_us | exact a_ns))
        · rfl
        refine a_iload_n d_P_setStand_32 rfl rfl ?_
        refine a_iload_n d_P_setStand_33 rfl rfl ?_
        apply a_iast (t0 := 0) d_P_setStand_34 rfl
        · (repeat (first | with_reducible assumption | with_reducible exact a_us | with_reducible exact a_ns | refine a_un (by first | with_reducible assumption | omega) ?_ | refine a_nn (by first | with_reducible assumption | omega | (simp only [a_upd_1, a_new_1]; omega)) ?_ | exact a_us | exact a_ns))
        · exact hrow_vp0 hI c_1
        refine a_iconst (v := 1) d_P_setStand_35 (by decide) ?_
        refine a_ireturn d_P_setStand_36 rfl rfl ?_
        refine hK1 (by simp only [stF, if_neg c_1, if_neg c_2, if_pos (Int32.not_lt.mp c_2), if_pos c_3, if_neg (Int32.not_lt.mpr c_3), if_true]; decide) _ ?_ ⟨?_, ?_, ?_, ?_, ?_, ?_, ?_, ?_, ?_, ?_, ?_, ?_⟩
        · (repeat (first | exact a_fr.rf | refine a_fr.upd ?_ (by omega) (by omega)))
        · (repeat (first | with_reducible assumption | with_reducible exact a_us | refine a_un (by omega) ?_ | exact a_us | (rw [← nI_1]; exact a_us) | assumption))
        · (repeat (first | with_reducible assumption | with_reducible exact a_us | refine a_un (by omega) ?_ | exact a_us | (rw [← nI_1]; exact a_us) | assumption))
        · (repeat (first | with_reducible assumption | with_reducible exact a_us | refine a_un (by omega) ?_ | exact a_us | (rw [← nI_1]; exact a_us) | assumption))
        · (repeat (first | with_reducible assumption | with_reducible exact a_us | refine a_un (by omega) ?_ | exact a_us | (rw [← nI_1]; exact a_us) | assumption))
        · (repeat (first | with_reducible assumption | with_reducible exact a_us | refine a_un (by omega) ?_ | exact a_us | (rw [← nI_1]; exact a_us) | assumption))
        · (repeat (first | with_reducible assumption | with_reducible exact a_us | refine a_un (by omega) ?_ | exact a_us | (rw [← nI_1]; exact a_us) | assumption))
        · (repeat (first | with_reducible assumption | with_reducible exact a_us | refine a_un (by omega) ?_ | exact a_us | (rw [← nI_1]; exact a_us) | assumption))
        · (repeat (first | with_reducible assumption | with_reducible exact a_us | refine a_un (by omega) ?_ | exact a_us | (rw [← nI_1]; exact a_us) | assumption))
        · (repeat (first | with_reducible assumption | with_reducible exact a_us | refine a_un (by omega) ?_ | exact a_us | (rw [← nI_1]; exact a_us) | assumption))
        · (repeat (first | with_reducible assumption | with_reducible exact a_us | refine a_un (by omega) ?_ | exact a_us | (rw [← nI_1]; exact a_us) | assumption))
        · (repeat (first | with_reducible assumption | with_reducible exact a_us | refine a_un (by omega) ?_ | exact a_us | (rw [← nI_1]; exact a_us) | assumption))
        · exact PI_keep hI hI.1 hI.2.1 rfl rfl
      · refine a_iconst (v := 0) d_P_setStand_26 (by decide) ?_
        refine a_ireturn d_P_setStand_27 rfl rfl ?_
        exact hK0 (by simp only [stF, if_neg c_1, if_neg c_2, if_pos (Int32.not_lt.mp c_2), if_neg c_3, if_pos (Int32.not_le.mp c_3), if_true])

set_option maxHeartbeats 4000000 in
set_option maxRecDepth 100000 in
theorem sp_P_setTopOfLast {v : Int32} (hP : PO σ p q) (hr : ¬ hrow q 0 (nI q.1.1 - 1) = -1) (hK : ∀ τ, a_fr σ τ p (p + 11) → PO τ p (q.1, q.2.1, updA q.2.2 5 (hrow q 0 (nI q.1.1 - 1)).toNatClampNeg v) → K none τ) : a_C G m_P_setTopOfLast 1 22 [.ref p, .int v] σ K := by
  obtain ⟨h0, h1, h2, h3, h4, h5, h6, h7, h8, h9, h10, hI⟩ := id hP
  refine a_enter rfl (Nat.le_of_ble_eq_true rfl) ?_
  refine a_aload_n d_P_setTopOfLast_0 rfl rfl ?_
  refine a_iconst (v := 0) d_P_setTopOfLast_1 (by decide) ?_
  refine a_aload_n d_P_setTopOfLast_2 rfl rfl ?_
  apply a_getfield d_P_setTopOfLast_3 f_P_47
  · (repeat (first | with_reducible assumption | with_reducible exact a_us | with_reducible exact a_ns | refine a_un (by first | with_reducible assumption | omega) ?_ | refine a_nn (by first | with_reducible assumption | omega | (simp only [a_upd_1, a_new_1]; omega)) ?_ | exact a_us | exact a_ns))
  · rfl
  refine a_iconst (v := 1) d_P_setTopOfLast_6 (by decide) ?_
  refine a_isub d_P_setTopOfLast_7 ?_
  apply a_callV (ci := 2) 0 0 [_, _] _ d_P_setTopOfLast_8 l_P_53 ⟨im_P_headRow, se_P_headRow⟩ rfl rfl rfl rfl (Nat.le_of_ble_eq_true rfl) ⟨Nat.le_of_ble_eq_true rfl, Nat.le_of_ble_eq_true rfl⟩
  · (repeat (first | with_reducible assumption | with_reducible exact a_us | with_reducible exact a_ns | refine a_un (by first | with_reducible assumption | omega) ?_ | refine a_nn (by first | with_reducible assumption | omega | (simp only [a_upd_1, a_new_1]; omega)) ?_ | exact a_us | exact a_ns))
  refine sp_P_headRow hP ?_
  refine a_istore_n d_P_setTopOfLast_11 rfl (by decide) ?_
  refine a_iload_n d_P_setTopOfLast_12 rfl rfl ?_
  refine a_iconst (v := (-1)) d_P_setTopOfLast_13 (by decide) ?_
  refine a_icmp_eq (tgt := 24) d_P_setTopOfLast_14 (by decide) (fun n9 => absurd n9 (hr)) (fun c_1 => ?_)
  refine a_aload_n d_P_setTopOfLast_17 rfl rfl ?_
  apply a_getfield d_P_setTopOfLast_18 f_P_19
  · (repeat (first | with_reducible assumption | with_reducible exact a_us | with_reducible exact a_ns | refine a_un (by first | with_reducible assumption | omega) ?_ | refine a_nn (by first | with_reducible assumption | omega | (simp only [a_upd_1, a_new_1]; omega)) ?_ | exact a_us | exact a_ns))
  · rfl
  refine a_iload_n d_P_setTopOfLast_21 rfl rfl ?_
  refine a_iload_n d_P_setTopOfLast_22 rfl rfl ?_
  apply a_iast (t0 := 0) d_P_setTopOfLast_23 rfl
  · (repeat (first | with_reducible assumption | with_reducible exact a_us | with_reducible exact a_ns | refine a_un (by first | with_reducible assumption | omega) ?_ | refine a_nn (by first | with_reducible assumption | omega | (simp only [a_upd_1, a_new_1]; omega)) ?_ | exact a_us | exact a_ns))
  · exact hrow_vp0 hI c_1
  refine a_return d_P_setTopOfLast_24 rfl ?_
  refine hK _ ?_ ⟨?_, ?_, ?_, ?_, ?_, ?_, ?_, ?_, ?_, ?_, ?_, ?_⟩
  · (repeat (first | exact a_fr.rf | refine a_fr.upd ?_ (by omega) (by omega)))
  · (repeat (first | with_reducible assumption | with_reducible exact a_us | refine a_un (by omega) ?_ | exact a_us | (rw [← nI_1]; exact a_us) | assumption))
  · (repeat (first | with_reducible assumption | with_reducible exact a_us | refine a_un (by omega) ?_ | exact a_us | (rw [← nI_1]; exact a_us) | assumption))
  · (repeat (first | with_reducible assumption | with_reducible exact a_us | refine a_un (by omega) ?_ | exact a_us | (rw [← nI_1]; exact a_us) | assumption))
  · (repeat (first | with_reducible assumption | with_reducible exact a_us | refine a_un (by omega) ?_ | exact a_us | (rw [← nI_1]; exact a_us) | assumption))
  · (repeat (first | with_reducible assumption | with_reducible exact a_us | refine a_un (by omega) ?_ | exact a_us | (rw [← nI_1]; exact a_us) | assumption))
  · (repeat (first | with_reducible assumption | with_reducible exact a_us | refine a_un (by omega) ?_ | exact a_us | (rw [← nI_1]; exact a_us) | assumption))
  · (repeat (first | with_reducible assumption | with_reducible exact a_us | refine a_un (by omega) ?_ | exact a_us | (rw [← nI_1]; exact a_us) | assumption))
  · (repeat (first | with_reducible assumption | with_reducible exact a_us | refine a_un (by omega) ?_ | exact a_us | (rw [← nI_1]; exact a_us) | assumption))
  · (repeat (first | with_reducible assumption | with_reducible exact a_us | refine a_un (by omega) ?_ | exact a_us | (rw [← nI_1]; exact a_us) | assumption))
  · (repeat (first | with_reducible assumption | with_reducible exact a_us | refine a_un (by omega) ?_ | exact a_us | (rw [← nI_1]; exact a_us) | assumption))
  · (repeat (first | with_reducible assumption | with_reducible exact a_us | refine a_un (by omega) ?_ | exact a_us | (rw [← nI_1]; exact a_us) | assumption))
  · exact PI_keep hI hI.1 hI.2.1 rfl rfl

theorem vp_nle {x M : Int32} {N : Nat} (h : vp_in x N) (hN : N < 2 ^ 31) (hM : M = nI N) : ¬ M ≤ x := by
  obtain ⟨j, hj, rfl⟩ := vp_in_of h hN
  rw [hM]
  exact nI_ge hj hN
set_option maxHeartbeats 4000000 in
set_option maxRecDepth 100000 in
theorem sp_P_setGoal {c g : Int32} (hP : PO σ p q) (hc : vp_in c 216) (hK : ∀ τ, a_fr σ τ p (p + 11) → PO τ p (q.1, q.2.1, updA q.2.2 9 c.toNatClampNeg g) → K none τ) : a_C G m_P_setGoal 0 0 [.ref p, .int c, .int g] σ K := by
  obtain ⟨h0, h1, h2, h3, h4, h5, h6, h7, h8, h9, h10, hI⟩ := id hP
  refine a_enter rfl (Nat.le_of_ble_eq_true rfl) ?_
  refine a_iload_n d_P_setGoal_0 rfl rfl ?_
  refine a_if_lt (tgt := 18) d_P_setGoal_1 (by decide) (fun n9 => absurd n9 (fun e => hc (Or.inl e))) (fun c_1 => ?_)
  refine a_iload_n d_P_setGoal_4 rfl rfl ?_
  refine a_sipush (v := 216) d_P_setGoal_5 (by decide) ?_
  refine a_icmp_ge (tgt := 18) d_P_setGoal_8 (by decide) (fun n9 => absurd n9 (vp_nle hc (by decide) (by decide))) (fun c_2 => ?_)
  refine a_aload_n d_P_setGoal_11 rfl rfl ?_
  apply a_getfield d_P_setGoal_12 f_P_31
  · (repeat (first | with_reducible assumption | with_reducible exact a_us | with_reducible exact a_ns | refine a_un (by first | with_reducible assumption | omega) ?_ | refine a_nn (by first | with_reducible assumption | omega | (simp only [a_upd_1, a_new_1]; omega)) ?_ | exact a_us | exact a_ns))
  · rfl
  refine a_iload_n d_P_setGoal_15 rfl rfl ?_
  refine a_iload_n d_P_setGoal_16 rfl rfl ?_
  apply a_iast (t0 := 0) d_P_setGoal_17 rfl
  · (repeat (first | with_reducible assumption | with_reducible exact a_us | with_reducible exact a_ns | refine a_un (by first | with_reducible assumption | omega) ?_ | refine a_nn (by first | with_reducible assumption | omega | (simp only [a_upd_1, a_new_1]; omega)) ?_ | exact a_us | exact a_ns))
  · exact hc
  refine a_return d_P_setGoal_18 rfl ?_
  refine hK _ ?_ ⟨?_, ?_, ?_, ?_, ?_, ?_, ?_, ?_, ?_, ?_, ?_, ?_⟩
  · (repeat (first | exact a_fr.rf | refine a_fr.upd ?_ (by omega) (by omega)))
  · (repeat (first | with_reducible assumption | with_reducible exact a_us | refine a_un (by omega) ?_ | exact a_us | (rw [← nI_1]; exact a_us) | assumption))
  · (repeat (first | with_reducible assumption | with_reducible exact a_us | refine a_un (by omega) ?_ | exact a_us | (rw [← nI_1]; exact a_us) | assumption))
  · (repeat (first | with_reducible assumption | with_reducible exact a_us | refine a_un (by omega) ?_ | exact a_us | (rw [← nI_1]; exact a_us) | assumption))
  · (repeat (first | with_reducible assumption | with_reducible exact a_us | refine a_un (by omega) ?_ | exact a_us | (rw [← nI_1]; exact a_us) | assumption))
  · (repeat (first | with_reducible assumption | with_reducible exact a_us | refine a_un (by omega) ?_ | exact a_us | (rw [← nI_1]; exact a_us) | assumption))
  · (repeat (first | with_reducible assumption | with_reducible exact a_us | refine a_un (by omega) ?_ | exact a_us | (rw [← nI_1]; exact a_us) | assumption))
  · (repeat (first | with_reducible assumption | with_reducible exact a_us | refine a_un (by omega) ?_ | exact a_us | (rw [← nI_1]; exact a_us) | assumption))
  · (repeat (first | with_reducible assumption | with_reducible exact a_us | refine a_un (by omega) ?_ | exact a_us | (rw [← nI_1]; exact a_us) | assumption))
  · (repeat (first | with_reducible assumption | with_reducible exact a_us | refine a_un (by omega) ?_ | exact a_us | (rw [← nI_1]; exact a_us) | assumption))
  · (repeat (first | with_reducible assumption | with_reducible exact a_us | refine a_un (by omega) ?_ | exact a_us | (rw [← nI_1]; exact a_us) | assumption))
  · (repeat (first | with_reducible assumption | with_reducible exact a_us | refine a_un (by omega) ?_ | exact a_us | (rw [← nI_1]; exact a_us) | assumption))
  · exact PI_keep hI hI.1 hI.2.1 rfl rfl

set_option maxHeartbeats 4000000 in
set_option maxRecDepth 100000 in
theorem sp_P_setWhich {c g : Int32} (hP : PO σ p q) (hc : vp_in c 864) (hK : ∀ τ, a_fr σ τ p (p + 11) → PO τ p (q.1, q.2.1, updA q.2.2 11 c.toNatClampNeg (q.2.2 11 c.toNatClampNeg &&& (-8) ||| g &&& 7)) → K none τ) : a_C G m_P_setWhich 0 0 [.ref p, .int c, .int g] σ K := by
  obtain ⟨h0, h1, h2, h3, h4, h5, h6, h7, h8, h9, h10, hI⟩ := id hP
  refine a_enter rfl (Nat.le_of_ble_eq_true rfl) ?_
  refine a_iload_n d_P_setWhich_0 rfl rfl ?_
  refine a_if_lt (tgt := 31) d_P_setWhich_1 (by decide) (fun n9 => absurd n9 (fun e => hc (Or.inl e))) (fun c_1 => ?_)
  refine a_iload_n d_P_setWhich_4 rfl rfl ?_
  refine a_sipush (v := 864) d_P_setWhich_5 (by decide) ?_
  refine a_icmp_ge (tgt := 31) d_P_setWhich_8 (by decide) (fun n9 => absurd n9 (vp_nle hc (by decide) (by decide))) (fun c_2 => ?_)
  refine a_aload_n d_P_setWhich_11 rfl rfl ?_
  apply a_getfield d_P_setWhich_12 f_P_37
  · (repeat (first | with_reducible assumption | with_reducible exact a_us | with_reducible exact a_ns | refine a_un (by first | with_reducible assumption | omega) ?_ | refine a_nn (by first | with_reducible assumption | omega | (simp only [a_upd_1, a_new_1]; omega)) ?_ | exact a_us | exact a_ns))
  · rfl
  refine a_iload_n d_P_setWhich_15 rfl rfl ?_
  refine a_aload_n d_P_setWhich_16 rfl rfl ?_
  apply a_getfield d_P_setWhich_17 f_P_37
  · (repeat (first | with_reducible assumption | with_reducible exact a_us | with_reducible exact a_ns | refine a_un (by first | with_reducible assumption | omega) ?_ | refine a_nn (by first | with_reducible assumption | omega | (simp only [a_upd_1, a_new_1]; omega)) ?_ | exact a_us | exact a_ns))
  · rfl
  refine a_iload_n d_P_setWhich_20 rfl rfl ?_
  apply a_iald (t0 := 0) d_P_setWhich_21 rfl
  · (repeat (first | with_reducible assumption | with_reducible exact a_us | with_reducible exact a_ns | refine a_un (by first | with_reducible assumption | omega) ?_ | refine a_nn (by first | with_reducible assumption | omega | (simp only [a_upd_1, a_new_1]; omega)) ?_ | exact a_us | exact a_ns))
  · exact hc
  refine a_bipush (v := (-8)) d_P_setWhich_22 (by decide) ?_
  refine a_iand d_P_setWhich_24 ?_
  refine a_iload_n d_P_setWhich_25 rfl rfl ?_
  refine a_bipush (v := 7) d_P_setWhich_26 (by decide) ?_
  refine a_iand d_P_setWhich_28 ?_
  refine a_ior d_P_setWhich_29 ?_
  apply a_iast (t0 := 0) d_P_setWhich_30 rfl
  · (repeat (first | with_reducible assumption | with_reducible exact a_us | with_reducible exact a_ns | refine a_un (by first | with_reducible assumption | omega) ?_ | refine a_nn (by first | with_reducible assumption | omega | (simp only [a_upd_1, a_new_1]; omega)) ?_ | exact a_us | exact a_ns))
  · exact hc
  refine a_return d_P_setWhich_31 rfl ?_
  refine hK _ ?_ ⟨?_, ?_, ?_, ?_, ?_, ?_, ?_, ?_, ?_, ?_, ?_, ?_⟩
  · (repeat (first | exact a_fr.rf | refine a_fr.upd ?_ (by omega) (by omega)))
  · (repeat (first | with_reducible assumption | with_reducible exact a_us | refine a_un (by omega) ?_ | exact a_us | (rw [← nI_1]; exact a_us) | assumption))
  · (repeat (first | with_reducible assumption | with_reducible exact a_us | refine a_un (by omega) ?_ | exact a_us | (rw [← nI_1]; exact a_us) | assumption))
  · (repeat (first | with_reducible assumption | with_reducible exact a_us | refine a_un (by omega) ?_ | exact a_us | (rw [← nI_1]; exact a_us) | assumption))
  · (repeat (first | with_reducible assumption | with_reducible exact a_us | refine a_un (by omega) ?_ | exact a_us | (rw [← nI_1]; exact a_us) | assumption))
  · (repeat (first | with_reducible assumption | with_reducible exact a_us | refine a_un (by omega) ?_ | exact a_us | (rw [← nI_1]; exact a_us) | assumption))
  · (repeat (first | with_reducible assumption | with_reducible exact a_us | refine a_un (by omega) ?_ | exact a_us | (rw [← nI_1]; exact a_us) | assumption))
  · (repeat (first | with_reducible assumption | with_reducible exact a_us | refine a_un (by omega) ?_ | exact a_us | (rw [← nI_1]; exact a_us) | assumption))
  · (repeat (first | with_reducible assumption | with_reducible exact a_us | refine a_un (by omega) ?_ | exact a_us | (rw [← nI_1]; exact a_us) | assumption))
  · (repeat (first | with_reducible assumption | with_reducible exact a_us | refine a_un (by omega) ?_ | exact a_us | (rw [← nI_1]; exact a_us) | assumption))
  · (repeat (first | with_reducible assumption | with_reducible exact a_us | refine a_un (by omega) ?_ | exact a_us | (rw [← nI_1]; exact a_us) | assumption))
  · (repeat (first | with_reducible assumption | with_reducible exact a_us | refine a_un (by omega) ?_ | exact a_us | (rw [← nI_1]; exact a_us) | assumption))
  · exact PI_keep hI hI.1 hI.2.1 rfl rfl

set_option maxHeartbeats 4000000 in
set_option maxRecDepth 100000 in
theorem sp_P_addHead {w : Int32} {nm : Int64} (hP : PO σ p q) (hc : ¬ cah q w = 0) (hK : ∀ τ, a_fr σ τ p (p + 11) → PO τ p (ah q w nm) → K none τ) : a_C G m_P_addHead 1 21 [.ref p, .int w, .long nm] σ K := by
  obtain ⟨h0, h1, h2, h3, h4, h5, h6, h7, h8, h9, h10, hI⟩ := id hP
  refine a_enter rfl (Nat.le_of_ble_eq_true rfl) ?_
  by_cases hw : w = 0
  · refine a_aload_n d_P_addHead_0 rfl rfl ?_
    refine a_iload_n d_P_addHead_1 rfl rfl ?_
    apply a_callV (ci := 2) 0 0 [_] _ d_P_addHead_2 l_P_73 ⟨im_P_canAddHead, se_P_canAddHead⟩ rfl rfl rfl rfl (Nat.le_of_ble_eq_true rfl) ⟨Nat.le_of_ble_eq_true rfl, Nat.le_of_ble_eq_true rfl⟩
    · (repeat (first | with_reducible assumption | with_reducible exact a_us | with_reducible exact a_ns | refine a_un (by first | with_reducible assumption | omega) ?_ | refine a_nn (by first | with_reducible assumption | omega | (simp only [a_upd_1, a_new_1]; omega)) ?_ | exact a_us | exact a_ns))
    refine sp_P_canAddHead hP ?_
    refine a_if_ne (tgt := 9) d_P_addHead_5 (by decide) (fun c_1 => ?_) (fun n9 => absurd n9 (hc))
    have hb := hc
    rw [cah, if_pos hw] at hb
    have hn0 : nI q.1.2.1 = 0 := by
      by_cases e : nI q.1.2.1 = 0
      · exact e
      · rw [if_neg e] at hb; exact absurd rfl hb
    have hlt : q.1.1 < 6 := by
      rw [if_pos hn0] at hb
      by_cases e : nI q.1.1 < 6
      · exact (nI_ltI (a := q.1.1) (b := 6) (by have := hI.1; omega) (by decide)).mp e
      · rw [if_neg e] at hb; exact absurd rfl hb
    have ecl := nI_clamp (show q.1.1 < 2 ^ 31 by have := hI.1; omega)
    refine a_iload_n d_P_addHead_9 rfl rfl ?_
    refine a_if_eq (tgt := 23) d_P_addHead_10 (by decide) (fun c_2 => ?_) (fun n9 => absurd (hw) n9)
    refine a_aload_n d_P_addHead_23 rfl rfl ?_
    apply a_getfield d_P_addHead_24 f_P_47
    · (repeat (first | with_reducible assumption | with_reducible exact a_us | with_reducible exact a_ns | refine a_un (by first | with_reducible assumption | omega) ?_ | refine a_nn (by first | with_reducible assumption | omega | (simp only [a_upd_1, a_new_1]; omega)) ?_ | exact a_us | exact a_ns))
    · rfl
    refine a_istore d_P_addHead_27 (by decide) ?_
    refine a_aload_n d_P_addHead_29 rfl rfl ?_
    apply a_getfield d_P_addHead_30 f_P_11
    · (repeat (first | with_reducible assumption | with_reducible exact a_us | with_reducible exact a_ns | refine a_un (by first | with_reducible assumption | omega) ?_ | refine a_nn (by first | with_reducible assumption | omega | (simp only [a_upd_1, a_new_1]; omega)) ?_ | exact a_us | exact a_ns))
    · rfl
    refine a_iload d_P_addHead_33 rfl ?_
    refine a_lload_n d_P_addHead_35 rfl rfl ?_
    apply a_last (t0 := 1) d_P_addHead_36 rfl
    · (repeat (first | with_reducible assumption | with_reducible exact a_us | with_reducible exact a_ns | refine a_un (by first | with_reducible assumption | omega) ?_ | refine a_nn (by first | with_reducible assumption | omega | (simp only [a_upd_1, a_new_1]; omega)) ?_ | exact a_us | exact a_ns))
    · exact vp_in_nI (by omega) (by decide)
    refine a_aload_n d_P_addHead_37 rfl rfl ?_
    apply a_getfield d_P_addHead_38 f_P_15
    · (repeat (first | with_reducible assumption | with_reducible exact a_us | with_reducible exact a_ns | refine a_un (by first | with_reducible assumption | omega) ?_ | refine a_nn (by first | with_reducible assumption | omega | (simp only [a_upd_1, a_new_1]; omega)) ?_ | exact a_us | exact a_ns))
    · rfl
    refine a_iload d_P_addHead_41 rfl ?_
    refine a_iconst (v := 0) d_P_addHead_43 (by decide) ?_
    apply a_iast (t0 := 0) d_P_addHead_44 rfl
    · (repeat (first | with_reducible assumption | with_reducible exact a_us | with_reducible exact a_ns | refine a_un (by first | with_reducible assumption | omega) ?_ | refine a_nn (by first | with_reducible assumption | omega | (simp only [a_upd_1, a_new_1]; omega)) ?_ | exact a_us | exact a_ns))
    · exact vp_in_nI (by omega) (by decide)
    refine a_iload_n d_P_addHead_45 rfl rfl ?_
    refine a_if_eq (tgt := 60) d_P_addHead_46 (by decide) (fun c_3 => ?_) (fun n9 => absurd (hw) n9)
    refine a_aload_n d_P_addHead_60 rfl rfl ?_
    apply a_getfield d_P_addHead_61 f_P_19
    · (repeat (first | with_reducible assumption | with_reducible exact a_us | with_reducible exact a_ns | refine a_un (by first | with_reducible assumption | omega) ?_ | refine a_nn (by first | with_reducible assumption | omega | (simp only [a_upd_1, a_new_1]; omega)) ?_ | exact a_us | exact a_ns))
    · rfl
    refine a_iload d_P_addHead_64 rfl ?_
    refine a_iconst (v := 0) d_P_addHead_66 (by decide) ?_
    apply a_iast (t0 := 0) d_P_addHead_67 rfl
    · (repeat (first | with_reducible assumption | with_reducible exact a_us | with_reducible exact a_ns | refine a_un (by first | with_reducible assumption | omega) ?_ | refine a_nn (by first | with_reducible assumption | omega | (simp only [a_upd_1, a_new_1]; omega)) ?_ | exact a_us | exact a_ns))
    · exact vp_in_nI (by omega) (by decide)
    refine a_aload_n d_P_addHead_68 rfl rfl ?_
    apply a_getfield d_P_addHead_69 f_P_22
    · (repeat (first | with_reducible assumption | with_reducible exact a_us | with_reducible exact a_ns | refine a_un (by first | with_reducible assumption | omega) ?_ | refine a_nn (by first | with_reducible assumption | omega | (simp only [a_upd_1, a_new_1]; omega)) ?_ | exact a_us | exact a_ns))
    · rfl
    refine a_iload d_P_addHead_72 rfl ?_
    refine a_iconst (v := 0) d_P_addHead_74 (by decide) ?_
    apply a_iast (t0 := 0) d_P_addHead_75 rfl
    · (repeat (first | with_reducible assumption | with_reducible exact a_us | with_reducible exact a_ns | refine a_un (by first | with_reducible assumption | omega) ?_ | refine a_nn (by first | with_reducible assumption | omega | (simp only [a_upd_1, a_new_1]; omega)) ?_ | exact a_us | exact a_ns))
    · exact vp_in_nI (by omega) (by decide)
    refine a_aload_n d_P_addHead_76 rfl rfl ?_
    refine a_dup d_P_addHead_77 rfl ?_
    apply a_getfield d_P_addHead_78 f_P_47
    · (repeat (first | with_reducible assumption | with_reducible exact a_us | with_reducible exact a_ns | refine a_un (by first | with_reducible assumption | omega) ?_ | refine a_nn (by first | with_reducible assumption | omega | (simp only [a_upd_1, a_new_1]; omega)) ?_ | exact a_us | exact a_ns))
    · rfl
    refine a_iconst (v := 1) d_P_addHead_81 (by decide) ?_
    refine a_iadd d_P_addHead_82 ?_
    apply a_putfield d_P_addHead_83 p_P_47
    · (repeat (first | with_reducible assumption | with_reducible exact a_us | with_reducible exact a_ns | refine a_un (by first | with_reducible assumption | omega) ?_ | refine a_nn (by first | with_reducible assumption | omega | (simp only [a_upd_1, a_new_1]; omega)) ?_ | exact a_us | exact a_ns))
    · first | rfl | assumption
    · first | rfl | assumption
    · exact Nat.le_of_ble_eq_true rfl
    refine a_return d_P_addHead_86 rfl ?_
    rw [ecl]
    have e1 : ah q w nm = ((q.1.1 + 1, q.1.2.1, q.1.2.2), vp_updL q.2.1 q.1.1 nm, updA (updA (updA q.2.2 4 q.1.1 0) 5 q.1.1 0) 6 q.1.1 0) := by rw [ah, if_pos hw]
    rw [e1] at hK
    refine hK _ ?_ ⟨?_, ?_, ?_, ?_, ?_, ?_, ?_, ?_, ?_, ?_, ?_, ?_⟩
    · (repeat (first | exact a_fr.rf | refine a_fr.upd ?_ (by omega) (by omega)))
    · (repeat (first | with_reducible assumption | with_reducible exact a_us | refine a_un (by omega) ?_ | exact a_us | (rw [← nI_1]; exact a_us) | assumption))
    · (repeat (first | with_reducible assumption | with_reducible exact a_us | refine a_un (by omega) ?_ | exact a_us | (rw [← nI_1]; exact a_us) | assumption))
    · (repeat (first | with_reducible assumption | with_reducible exact a_us | refine a_un (by omega) ?_ | exact a_us | (rw [← nI_1]; exact a_us) | assumption))
    · (repeat (first | with_reducible assumption | with_reducible exact a_us | refine a_un (by omega) ?_ | exact a_us | (rw [← nI_1]; exact a_us) | assumption))
    · (repeat (first | with_reducible assumption | with_reducible exact a_us | refine a_un (by omega) ?_ | exact a_us | (rw [← nI_1]; exact a_us) | assumption))
    · (repeat (first | with_reducible assumption | with_reducible exact a_us | refine a_un (by omega) ?_ | exact a_us | (rw [← nI_1]; exact a_us) | assumption))
    · (repeat (first | with_reducible assumption | with_reducible exact a_us | refine a_un (by omega) ?_ | exact a_us | (rw [← nI_1]; exact a_us) | assumption))
    · (repeat (first | with_reducible assumption | with_reducible exact a_us | refine a_un (by omega) ?_ | exact a_us | (rw [← nI_1]; exact a_us) | assumption))
    · (repeat (first | with_reducible assumption | with_reducible exact a_us | refine a_un (by omega) ?_ | exact a_us | (rw [← nI_1]; exact a_us) | assumption))
    · (repeat (first | with_reducible assumption | with_reducible exact a_us | refine a_un (by omega) ?_ | exact a_us | (rw [← nI_1]; exact a_us) | assumption))
    · (repeat (first | with_reducible assumption | with_reducible exact a_us | refine a_un (by omega) ?_ | exact a_us | (rw [← nI_1]; exact a_us) | assumption))
    · apply PI_cnt0 (k := q.1.1) hI
      · exact hlt
      · exact hI.2.1
      · rfl
      · rfl
  · refine a_aload_n d_P_addHead_0 rfl rfl ?_
    refine a_iload_n d_P_addHead_1 rfl rfl ?_
    apply a_callV (ci := 2) 0 0 [_] _ d_P_addHead_2 l_P_73 ⟨im_P_canAddHead, se_P_canAddHead⟩ rfl rfl rfl rfl (Nat.le_of_ble_eq_true rfl) ⟨Nat.le_of_ble_eq_true rfl, Nat.le_of_ble_eq_true rfl⟩
    · (repeat (first | with_reducible assumption | with_reducible exact a_us | with_reducible exact a_ns | refine a_un (by first | with_reducible assumption | omega) ?_ | refine a_nn (by first | with_reducible assumption | omega | (simp only [a_upd_1, a_new_1]; omega)) ?_ | exact a_us | exact a_ns))
    refine sp_P_canAddHead hP ?_
    refine a_if_ne (tgt := 9) d_P_addHead_5 (by decide) (fun c_1 => ?_) (fun n9 => absurd n9 (hc))
    have hb := hc
    rw [cah, if_neg hw] at hb
    have hlt : q.1.2.1 < 24 := by
      by_cases e : nI q.1.2.1 < 24
      · exact (nI_ltI (a := q.1.2.1) (b := 24) (by have := hI.2.1; omega) (by decide)).mp e
      · rw [if_neg e] at hb; exact absurd rfl hb
    have ecl : (nI (6 + q.1.2.1)).toNatClampNeg = 6 + q.1.2.1 := nI_clamp (by omega)
    refine a_iload_n d_P_addHead_9 rfl rfl ?_
    refine a_if_eq (tgt := 23) d_P_addHead_10 (by decide) (fun n9 => absurd n9 (hw)) (fun c_2 => ?_)
    refine a_bipush (v := 6) d_P_addHead_13 (by decide) ?_
    refine a_aload_n d_P_addHead_15 rfl rfl ?_
    apply a_getfield d_P_addHead_16 f_P_43
    · (repeat (first | with_reducible assumption | with_reducible exact a_us | with_reducible exact a_ns | refine a_un (by first | with_reducible assumption | omega) ?_ | refine a_nn (by first | with_reducible assumption | omega | (simp only [a_upd_1, a_new_1]; omega)) ?_ | exact a_us | exact a_ns))
    · rfl
    refine a_iadd d_P_addHead_19 ?_
    rw [show (6 : Int32) + nI q.1.2.1 = nI (6 + q.1.2.1) from nI_add 6 q.1.2.1]
    refine a_goto (tgt := 27) d_P_addHead_20 (by decide) ?_
    refine a_istore d_P_addHead_27 (by decide) ?_
    refine a_aload_n d_P_addHead_29 rfl rfl ?_
    apply a_getfield d_P_addHead_30 f_P_11
    · (repeat (first | with_reducible assumption | with_reducible exact a_us | with_reducible exact a_ns | refine a_un (by first | with_reducible assumption | omega) ?_ | refine a_nn (by first | with_reducible assumption | omega | (simp only [a_upd_1, a_new_1]; omega)) ?_ | exact a_us | exact a_ns))
    · rfl
    refine a_iload d_P_addHead_33 rfl ?_
    refine a_lload_n d_P_addHead_35 rfl rfl ?_
    apply a_last (t0 := 1) d_P_addHead_36 rfl
    · (repeat (first | with_reducible assumption | with_reducible exact a_us | with_reducible exact a_ns | refine a_un (by first | with_reducible assumption | omega) ?_ | refine a_nn (by first | with_reducible assumption | omega | (simp only [a_upd_1, a_new_1]; omega)) ?_ | exact a_us | exact a_ns))
    · exact vp_in_nI (by omega) (by decide)
    refine a_aload_n d_P_addHead_37 rfl rfl ?_
    apply a_getfield d_P_addHead_38 f_P_15
    · (repeat (first | with_reducible assumption | with_reducible exact a_us | with_reducible exact a_ns | refine a_un (by first | with_reducible assumption | omega) ?_ | refine a_nn (by first | with_reducible assumption | omega | (simp only [a_upd_1, a_new_1]; omega)) ?_ | exact a_us | exact a_ns))
    · rfl
    refine a_iload d_P_addHead_41 rfl ?_
    refine a_iconst (v := 0) d_P_addHead_43 (by decide) ?_
    apply a_iast (t0 := 0) d_P_addHead_44 rfl
    · (repeat (first | with_reducible assumption | with_reducible exact a_us | with_reducible exact a_ns | refine a_un (by first | with_reducible assumption | omega) ?_ | refine a_nn (by first | with_reducible assumption | omega | (simp only [a_upd_1, a_new_1]; omega)) ?_ | exact a_us | exact a_ns))
    · exact vp_in_nI (by omega) (by decide)
    refine a_iload_n d_P_addHead_45 rfl rfl ?_
    refine a_if_eq (tgt := 60) d_P_addHead_46 (by decide) (fun n9 => absurd n9 (hw)) (fun c_3 => ?_)
    refine a_aload_n d_P_addHead_49 rfl rfl ?_
    refine a_dup d_P_addHead_50 rfl ?_
    apply a_getfield d_P_addHead_51 f_P_43
    · (repeat (first | with_reducible assumption | with_reducible exact a_us | with_reducible exact a_ns | refine a_un (by first | with_reducible assumption | omega) ?_ | refine a_nn (by first | with_reducible assumption | omega | (simp only [a_upd_1, a_new_1]; omega)) ?_ | exact a_us | exact a_ns))
    · rfl
    refine a_iconst (v := 1) d_P_addHead_54 (by decide) ?_
    refine a_iadd d_P_addHead_55 ?_
    apply a_putfield d_P_addHead_56 p_P_43
    · (repeat (first | with_reducible assumption | with_reducible exact a_us | with_reducible exact a_ns | refine a_un (by first | with_reducible assumption | omega) ?_ | refine a_nn (by first | with_reducible assumption | omega | (simp only [a_upd_1, a_new_1]; omega)) ?_ | exact a_us | exact a_ns))
    · first | rfl | assumption
    · first | rfl | assumption
    · exact Nat.le_of_ble_eq_true rfl
    refine a_return d_P_addHead_59 rfl ?_
    rw [ecl]
    have e1 : ah q w nm = ((q.1.1, q.1.2.1 + 1, q.1.2.2), vp_updL q.2.1 (6 + q.1.2.1) nm, updA q.2.2 4 (6 + q.1.2.1) 0) := by rw [ah, if_neg hw]
    rw [e1] at hK
    refine hK _ ?_ ⟨?_, ?_, ?_, ?_, ?_, ?_, ?_, ?_, ?_, ?_, ?_, ?_⟩
    · (repeat (first | exact a_fr.rf | refine a_fr.upd ?_ (by omega) (by omega)))
    · (repeat (first | with_reducible assumption | with_reducible exact a_us | refine a_un (by omega) ?_ | exact a_us | (rw [← nI_1]; exact a_us) | assumption))
    · (repeat (first | with_reducible assumption | with_reducible exact a_us | refine a_un (by omega) ?_ | exact a_us | (rw [← nI_1]; exact a_us) | assumption))
    · (repeat (first | with_reducible assumption | with_reducible exact a_us | refine a_un (by omega) ?_ | exact a_us | (rw [← nI_1]; exact a_us) | assumption))
    · (repeat (first | with_reducible assumption | with_reducible exact a_us | refine a_un (by omega) ?_ | exact a_us | (rw [← nI_1]; exact a_us) | assumption))
    · (repeat (first | with_reducible assumption | with_reducible exact a_us | refine a_un (by omega) ?_ | exact a_us | (rw [← nI_1]; exact a_us) | assumption))
    · (repeat (first | with_reducible assumption | with_reducible exact a_us | refine a_un (by omega) ?_ | exact a_us | (rw [← nI_1]; exact a_us) | assumption))
    · (repeat (first | with_reducible assumption | with_reducible exact a_us | refine a_un (by omega) ?_ | exact a_us | (rw [← nI_1]; exact a_us) | assumption))
    · (repeat (first | with_reducible assumption | with_reducible exact a_us | refine a_un (by omega) ?_ | exact a_us | (rw [← nI_1]; exact a_us) | assumption))
    · (repeat (first | with_reducible assumption | with_reducible exact a_us | refine a_un (by omega) ?_ | exact a_us | (rw [← nI_1]; exact a_us) | assumption))
    · (repeat (first | with_reducible assumption | with_reducible exact a_us | refine a_un (by omega) ?_ | exact a_us | (rw [← nI_1]; exact a_us) | assumption))
    · (repeat (first | with_reducible assumption | with_reducible exact a_us | refine a_un (by omega) ?_ | exact a_us | (rw [← nI_1]; exact a_us) | assumption))
    · apply PI_cnt0 (k := 6 + q.1.2.1) hI
      · exact hI.1
      · exact hlt
      · rfl
      · rfl

end ModP3
