/-! POLICY, fourth part: addClause, addTest -/
theorem nI_m1 {n : Nat} (h : n < 2 ^ 31) : ¬ nI n = -1 := fun e => nI_pos h (by rw [e]; decide)
theorem PI_set4 {q : aP} (h : PI q) {k c : Nat} (h1 : k < 6 → c ≤ 4) (h2 : 6 ≤ k → c ≤ 8) : PI (q.1, q.2.1, updA q.2.2 4 k (nI c)) := by
  refine ⟨h.1, h.2.1, fun j hj => ?_, fun j hj => ?_, fun j hj => ?_⟩
  · show ∃ x : Nat, x ≤ 4 ∧ upd (q.2.2 4) k (nI c) j = nI x
    by_cases e : j = k
    · exact ⟨c, h1 (by omega), by rw [e, pk_us]⟩
    · rw [pk_un e]; exact h.2.2.1 j hj
  · show ∃ x : Nat, x ≤ 8 ∧ upd (q.2.2 4) k (nI c) (6 + j) = nI x
    by_cases e : 6 + j = k
    · exact ⟨c, h2 (by omega), by rw [e, pk_us]⟩
    · rw [pk_un e]; exact h.2.2.2.1 j hj
  · exact h.2.2.2.2 j hj
theorem PI_set10 {q : aP} (h : PI q) {a : Nat × Nat × Nat} {n : Nat → Int64} {A : Nat → Nat → Int32} {k c : Nat} (h1 : a.1 ≤ 6) (h2 : a.2.1 ≤ 24) (e4 : A 4 = q.2.2 4) (e10 : A 10 = upd (q.2.2 10) k (nI c)) (hc : c ≤ 4) : PI (a, n, A) := by
  refine ⟨h1, h2, fun j hj => ?_, fun j hj => ?_, fun j hj => ?_⟩
  · show ∃ x : Nat, x ≤ 4 ∧ A 4 j = nI x
    rw [e4]; exact h.2.2.1 j hj
  · show ∃ x : Nat, x ≤ 8 ∧ A 4 (6 + j) = nI x
    rw [e4]; exact h.2.2.2.1 j hj
  · show ∃ x : Nat, x ≤ 4 ∧ A 10 j = nI x
    rw [e10]
    by_cases e : j = k
    · exact ⟨c, hc, by rw [e, pk_us]⟩
    · rw [pk_un e]; exact h.2.2.2.2 j hj
theorem hrow_c {q : aP} {k : Nat} (hq : PI q) (h : k < q.1.1) : hrow q 0 (nI k) = nI k := by
  have := hq.1
  rw [hrow, if_neg (nI_pos (by omega)), if_pos rfl, if_pos (nI_lt h (by omega))]
theorem hrow_n {q : aP} {k : Nat} {w : Int32} (hw : ¬ w = 0) (hq : PI q) (h : k < q.1.2.1) : hrow q w (nI k) = nI (6 + k) := by
  have := hq.2.1
  rw [hrow, if_neg (nI_pos (by omega)), if_neg hw, if_pos (nI_lt h (by omega))]
  exact nI_add 6 k
theorem crow_c {q : aP} {k c j : Nat} (hq : PI q) (h : k < q.1.1) (hc : q.2.2 4 k = nI c) (hj : j < c) (hc4 : c < 2 ^ 31) : crow q 0 (nI k) (nI j) = nI (k * 4 + j) := by
  have := hq.1
  rw [crow, hrow_c hq h, if_neg (nI_m1 (by omega)), if_neg (nI_pos (by omega)), nI_clamp (by omega), hc, if_pos (nI_lt hj hc4), if_pos rfl, show (4 : Int32) = nI 4 from rfl, pk_mul, nI_add]
theorem crow_n {q : aP} {k c j : Nat} {w : Int32} (hw : ¬ w = 0) (hq : PI q) (h : k < q.1.2.1) (hc : q.2.2 4 (6 + k) = nI c) (hj : j < c) (hc4 : c < 2 ^ 31) : crow q w (nI k) (nI j) = nI (24 + k * 8 + j) := by
  have := hq.2.1
  rw [crow, hrow_n hw hq h, if_neg (nI_m1 (by omega)), if_neg (nI_pos (by omega)), nI_clamp (by omega), hc, if_pos (nI_lt hj hc4), if_neg hw, show (8 : Int32) = nI 8 from rfl, show (24 : Int32) = nI 24 from rfl, pk_mul, nI_add, nI_add]
section ModP4
variable {G : aG} {σ : aS} {K : Option Value → aS → Prop} {p : Nat} {q : aP}
set_option maxHeartbeats 4000000 in
set_option maxRecDepth 100000 in
theorem sp_P_addClause0 {n g : Int32} {k c : Nat} (hP : PO σ p q) (hn : q.1.1 = k + 1) (hct : q.2.2 4 k = nI c) (hc : c < 4) (hK : ∀ τ, a_fr σ τ p (p + 11) → PO τ p (q.1, q.2.1, updA (updA (updA (updA q.2.2 4 k (nI (c + 1))) 8 (k * 4 + c) n) 9 (k * 4 + c) g) 10 (k * 4 + c) 0) → K (some (.int (nI (k * 4 + c)))) τ) : a_C G m_P_addClause 2 46 [.ref p, .int 0, .int n, .int g] σ K := by
  obtain ⟨h0, h1, h2, h3, h4, h5, h6, h7, h8, h9, h10, hI⟩ := id hP
  have hk6 := hI.1
  have hk24 := hI.2.1
  have e0 : nI (hcnt q 0) - 1 = nI k := by rw [hcnt, if_pos rfl, hn]; exact nI_pred k
  have e1 : hrow q 0 (nI k) = nI k := hrow_c hI (by omega)
  have hcac : ¬ cac q 0 = 0 := by rw [cac, e0, e1, if_neg (nI_m1 (by omega)), if_pos rfl, nI_clamp (by omega), hct, if_pos (show nI c < 4 from nI_lt (b := 4) hc (by omega))]; decide
  have ecl : (nI k).toNatClampNeg = k := nI_clamp (by omega)
  have ecr : (nI (k * 4 + c)).toNatClampNeg = k * 4 + c := nI_clamp (by omega)
  refine a_enter rfl (Nat.le_of_ble_eq_true rfl) ?_
  refine a_aload_n d_P_addClause_0 rfl rfl ?_
  refine a_iload_n d_P_addClause_1 rfl rfl ?_
  apply a_callV (ci := 2) 0 0 [_] _ d_P_addClause_2 l_P_69 ⟨im_P_heads, se_P_heads⟩ rfl rfl rfl rfl (Nat.le_of_ble_eq_true rfl) ⟨Nat.le_of_ble_eq_true rfl, Nat.le_of_ble_eq_true rfl⟩
  · (repeat (first | with_reducible assumption | with_reducible exact a_us | with_reducible exact a_ns | refine a_un (by first | with_reducible assumption | omega) ?_ | refine a_nn (by first | with_reducible assumption | omega | (simp only [a_upd_1, a_new_1]; omega)) ?_ | exact a_us | exact a_ns))
  refine sp_P_heads hP ?_
  refine a_iconst (v := 1) d_P_addClause_5 (by decide) ?_
  refine a_isub d_P_addClause_6 ?_
  rw [e0]
  refine a_istore d_P_addClause_7 (by decide) ?_
  refine a_aload_n d_P_addClause_9 rfl rfl ?_
  refine a_iload_n d_P_addClause_10 rfl rfl ?_
  refine a_iload d_P_addClause_11 rfl ?_
  apply a_callV (ci := 2) 0 0 [_, _] _ d_P_addClause_13 l_P_53 ⟨im_P_headRow, se_P_headRow⟩ rfl rfl rfl rfl (Nat.le_of_ble_eq_true rfl) ⟨Nat.le_of_ble_eq_true rfl, Nat.le_of_ble_eq_true rfl⟩
  · (repeat (first | with_reducible assumption | with_reducible exact a_us | with_reducible exact a_ns | refine a_un (by first | with_reducible assumption | omega) ?_ | refine a_nn (by first | with_reducible assumption | omega | (simp only [a_upd_1, a_new_1]; omega)) ?_ | exact a_us | exact a_ns))
  refine sp_P_headRow hP ?_
  rw [e1]
  refine a_istore d_P_addClause_16 (by decide) ?_
  refine a_iload d_P_addClause_18 rfl ?_
  refine a_iconst (v := (-1)) d_P_addClause_20 (by decide) ?_
  refine a_icmp_eq (tgt := 32) d_P_addClause_21 (by decide) (fun n9 => absurd n9 (nI_m1 (by omega))) (fun c_1 => ?_)
  refine a_aload_n d_P_addClause_24 rfl rfl ?_
  refine a_iload_n d_P_addClause_25 rfl rfl ?_
  apply a_callV (ci := 2) 1 22 [_] _ d_P_addClause_26 l_P_77 ⟨im_P_canAddClause, se_P_canAddClause⟩ rfl rfl rfl rfl (Nat.le_of_ble_eq_true rfl) ⟨Nat.le_of_ble_eq_true rfl, Nat.le_of_ble_eq_true rfl⟩
  · (repeat (first | with_reducible assumption | with_reducible exact a_us | with_reducible exact a_ns | refine a_un (by first | with_reducible assumption | omega) ?_ | refine a_nn (by first | with_reducible assumption | omega | (simp only [a_upd_1, a_new_1]; omega)) ?_ | exact a_us | exact a_ns))
  refine sp_P_canAddClause hP ?_
  refine a_if_ne (tgt := 34) d_P_addClause_29 (by decide) (fun c_2 => ?_) (fun n9 => absurd n9 (hcac))
  refine a_aload_n d_P_addClause_34 rfl rfl ?_
  apply a_getfield d_P_addClause_35 f_P_15
  · (repeat (first | with_reducible assumption | with_reducible exact a_us | with_reducible exact a_ns | refine a_un (by first | with_reducible assumption | omega) ?_ | refine a_nn (by first | with_reducible assumption | omega | (simp only [a_upd_1, a_new_1]; omega)) ?_ | exact a_us | exact a_ns))
  · rfl
  refine a_iload d_P_addClause_38 rfl ?_
  refine a_dup2 d_P_addClause_40 rfl rfl ?_
  apply a_iald (t0 := 0) d_P_addClause_41 rfl
  · (repeat (first | with_reducible assumption | with_reducible exact a_us | with_reducible exact a_ns | refine a_un (by first | with_reducible assumption | omega) ?_ | refine a_nn (by first | with_reducible assumption | omega | (simp only [a_upd_1, a_new_1]; omega)) ?_ | exact a_us | exact a_ns))
  · exact vp_in_nI (by omega) (by decide)
  rw [ecl, hct]
  refine a_iconst (v := 1) d_P_addClause_42 (by decide) ?_
  refine a_iadd d_P_addClause_43 ?_
  rw [nI_1]
  apply a_iast (t0 := 0) d_P_addClause_44 rfl
  · (repeat (first | with_reducible assumption | with_reducible exact a_us | with_reducible exact a_ns | refine a_un (by first | with_reducible assumption | omega) ?_ | refine a_nn (by first | with_reducible assumption | omega | (simp only [a_upd_1, a_new_1]; omega)) ?_ | exact a_us | exact a_ns))
  · exact vp_in_nI (by omega) (by decide)
  rw [ecl]
  have hP1 : PO (a_upd σ (p + 2) (.inl (.int, 30, .inl (upd (q.2.2 4) k (nI (c + 1)))))) p (q.1, q.2.1, updA q.2.2 4 k (nI (c + 1))) := by
    refine ⟨?_, ?_, ?_, ?_, ?_, ?_, ?_, ?_, ?_, ?_, ?_, ?_⟩
    · (repeat (first | with_reducible assumption | with_reducible exact a_us | refine a_un (by omega) ?_ | exact a_us | (rw [← nI_1]; exact a_us) | assumption))
    · (repeat (first | with_reducible assumption | with_reducible exact a_us | refine a_un (by omega) ?_ | exact a_us | (rw [← nI_1]; exact a_us) | assumption))
    · (repeat (first | with_reducible assumption | with_reducible exact a_us | refine a_un (by omega) ?_ | exact a_us | (rw [← nI_1]; exact a_us) | assumption))
    · (repeat (first | with_reducible assumption | with_reducible exact a_us | refine a_un (by omega) ?_ | exact a_us | (rw [← nI_1]; exact a_us) | assumption))
    · (repeat (first | with_reducible assumption | with_reducible exact a_us | refine a_un (by omega) ?_ | exact a_us | (rw [← nI_1]; exact a_us) | assumption))
    · (repeat (first | with_reducible assumption | with_reducible exact a_us | refine a_un (by omega) ?_ | exact a_us | (rw [← nI_1]; exact a_us) | assumption))
    · (repeat (first | with_reducible assumption | with_reducible exact a_us | refine a_un (by omega) ?_ | exact a_us | (rw [← nI_1]; exact a_us) | assumption))
    · (repeat (first | with_reducible assumption | with_reducible exact a_us | refine a_un (by omega) ?_ | exact a_us | (rw [← nI_1]; exact a_us) | assumption))
    · (repeat (first | with_reducible assumption | with_reducible exact a_us | refine a_un (by omega) ?_ | exact a_us | (rw [← nI_1]; exact a_us) | assumption))
    · (repeat (first | with_reducible assumption | with_reducible exact a_us | refine a_un (by omega) ?_ | exact a_us | (rw [← nI_1]; exact a_us) | assumption))
    · (repeat (first | with_reducible assumption | with_reducible exact a_us | refine a_un (by omega) ?_ | exact a_us | (rw [← nI_1]; exact a_us) | assumption))
    · exact PI_set4 hI (fun _ => by omega) (fun _ => by omega)
  have e2 : crow (q.1, q.2.1, updA q.2.2 4 k (nI (c + 1))) 0 (nI k) (nI c) = nI (k * 4 + c) := crow_c hP1.2.2.2.2.2.2.2.2.2.2.2 (show k < q.1.1 by omega) (show upd (q.2.2 4) k (nI (c + 1)) k = nI (c + 1) from pk_us) (Nat.lt_succ_self c) (by omega)
  refine a_aload_n d_P_addClause_45 rfl rfl ?_
  refine a_iload_n d_P_addClause_46 rfl rfl ?_
  refine a_iload d_P_addClause_47 rfl ?_
  refine a_aload_n d_P_addClause_49 rfl rfl ?_
  apply a_getfield d_P_addClause_50 f_P_15
  · (repeat (first | with_reducible assumption | with_reducible exact a_us | with_reducible exact a_ns | refine a_un (by first | with_reducible assumption | omega) ?_ | refine a_nn (by first | with_reducible assumption | omega | (simp only [a_upd_1, a_new_1]; omega)) ?_ | exact a_us | exact a_ns))
  · rfl
  refine a_iload d_P_addClause_53 rfl ?_
  apply a_iald (t0 := 0) d_P_addClause_55 rfl
  · (repeat (first | with_reducible assumption | with_reducible exact a_us | with_reducible exact a_ns | refine a_un (by first | with_reducible assumption | omega) ?_ | refine a_nn (by first | with_reducible assumption | omega | (simp only [a_upd_1, a_new_1]; omega)) ?_ | exact a_us | exact a_ns))
  · exact vp_in_nI (by omega) (by decide)
  rw [ecl, pk_us]
  refine a_iconst (v := 1) d_P_addClause_56 (by decide) ?_
  refine a_isub d_P_addClause_57 ?_
  rw [nI_pred]
  apply a_callV (ci := 2) 1 22 [_, _, _] _ d_P_addClause_58 l_P_57 ⟨im_P_clauseRow, se_P_clauseRow⟩ rfl rfl rfl rfl (Nat.le_of_ble_eq_true rfl) ⟨Nat.le_of_ble_eq_true rfl, Nat.le_of_ble_eq_true rfl⟩
  · (repeat (first | with_reducible assumption | with_reducible exact a_us | with_reducible exact a_ns | refine a_un (by first | with_reducible assumption | omega) ?_ | refine a_nn (by first | with_reducible assumption | omega | (simp only [a_upd_1, a_new_1]; omega)) ?_ | exact a_us | exact a_ns))
  refine sp_P_clauseRow hP1 ?_
  rw [e2]
  refine a_istore d_P_addClause_61 (by decide) ?_
  refine a_iload d_P_addClause_63 rfl ?_
  refine a_iconst (v := (-1)) d_P_addClause_65 (by decide) ?_
  refine a_icmp_eq (tgt := 93) d_P_addClause_66 (by decide) (fun n9 => absurd n9 (nI_m1 (by omega))) (fun c_3 => ?_)
  refine a_aload_n d_P_addClause_69 rfl rfl ?_
  apply a_getfield d_P_addClause_70 f_P_28
  · (repeat (first | with_reducible assumption | with_reducible exact a_us | with_reducible exact a_ns | refine a_un (by first | with_reducible assumption | omega) ?_ | refine a_nn (by first | with_reducible assumption | omega | (simp only [a_upd_1, a_new_1]; omega)) ?_ | exact a_us | exact a_ns))
  · rfl
  refine a_iload d_P_addClause_73 rfl ?_
  refine a_iload_n d_P_addClause_75 rfl rfl ?_
  apply a_iast (t0 := 0) d_P_addClause_76 rfl
  · (repeat (first | with_reducible assumption | with_reducible exact a_us | with_reducible exact a_ns | refine a_un (by first | with_reducible assumption | omega) ?_ | refine a_nn (by first | with_reducible assumption | omega | (simp only [a_upd_1, a_new_1]; omega)) ?_ | exact a_us | exact a_ns))
  · exact vp_in_nI (by omega) (by decide)
  refine a_aload_n d_P_addClause_77 rfl rfl ?_
  apply a_getfield d_P_addClause_78 f_P_31
  · (repeat (first | with_reducible assumption | with_reducible exact a_us | with_reducible exact a_ns | refine a_un (by first | with_reducible assumption | omega) ?_ | refine a_nn (by first | with_reducible assumption | omega | (simp only [a_upd_1, a_new_1]; omega)) ?_ | exact a_us | exact a_ns))
  · rfl
  refine a_iload d_P_addClause_81 rfl ?_
  refine a_iload_n d_P_addClause_83 rfl rfl ?_
  apply a_iast (t0 := 0) d_P_addClause_84 rfl
  · (repeat (first | with_reducible assumption | with_reducible exact a_us | with_reducible exact a_ns | refine a_un (by first | with_reducible assumption | omega) ?_ | refine a_nn (by first | with_reducible assumption | omega | (simp only [a_upd_1, a_new_1]; omega)) ?_ | exact a_us | exact a_ns))
  · exact vp_in_nI (by omega) (by decide)
  refine a_aload_n d_P_addClause_85 rfl rfl ?_
  apply a_getfield d_P_addClause_86 f_P_34
  · (repeat (first | with_reducible assumption | with_reducible exact a_us | with_reducible exact a_ns | refine a_un (by first | with_reducible assumption | omega) ?_ | refine a_nn (by first | with_reducible assumption | omega | (simp only [a_upd_1, a_new_1]; omega)) ?_ | exact a_us | exact a_ns))
  · rfl
  refine a_iload d_P_addClause_89 rfl ?_
  refine a_iconst (v := 0) d_P_addClause_91 (by decide) ?_
  apply a_iast (t0 := 0) d_P_addClause_92 rfl
  · (repeat (first | with_reducible assumption | with_reducible exact a_us | with_reducible exact a_ns | refine a_un (by first | with_reducible assumption | omega) ?_ | refine a_nn (by first | with_reducible assumption | omega | (simp only [a_upd_1, a_new_1]; omega)) ?_ | exact a_us | exact a_ns))
  · exact vp_in_nI (by omega) (by decide)
  refine a_iload d_P_addClause_93 rfl ?_
  rw [ecr]
  refine a_ireturn d_P_addClause_95 rfl rfl ?_
  refine hK _ ?_ ⟨?_, ?_, ?_, ?_, ?_, ?_, ?_, ?_, ?_, ?_, ?_, ?_⟩
  · (repeat (first | exact a_fr.rf | refine a_fr.upd ?_ (by omega) (by omega)))
  · (repeat (first | with_reducible assumption | with_reducible exact a_us | refine a_un (by omega) ?_ | exact a_us | (rw [← nI_1]; exact a_us) | assumption))
  · (repeat (first | with_reducible assumption | with_reducible exact a_us | refine a_un (by omega) ?_ | exact a_us | (rw [← nI_1]; exact a_us) | assumption))
  · (repeat (first | with_reducible assumption | with_reducible exact a_us | refine a_un (by omega) ?_ | exact a_us | (rw [← nI_1]; exact a_us) | assumption))
  · (repeat (first | with_reducible assumption | with_reducible exact a_us | refine a_un (by omega) ?_ | exact a_us | (rw [← nI_1]; exact a_us) | assumption))
  · (repeat (first | with_reducible assumption | with_reducible exact a_us | refine a_un (by omega) ?_ | exact a_us | (rw [← nI_1]; exact a_us) | assumption))
  · (repeat (first | with_reducible assumption | with_reducible exact a_us | refine a_un (by omega) ?_ | exact a_us | (rw [← nI_1]; exact a_us) | assumption))
  · (repeat (first | with_reducible assumption | with_reducible exact a_us | refine a_un (by omega) ?_ | exact a_us | (rw [← nI_1]; exact a_us) | assumption))
  · (repeat (first | with_reducible assumption | with_reducible exact a_us | refine a_un (by omega) ?_ | exact a_us | (rw [← nI_1]; exact a_us) | assumption))
  · (repeat (first | with_reducible assumption | with_reducible exact a_us | refine a_un (by omega) ?_ | exact a_us | (rw [← nI_1]; exact a_us) | assumption))
  · (repeat (first | with_reducible assumption | with_reducible exact a_us | refine a_un (by omega) ?_ | exact a_us | (rw [← nI_1]; exact a_us) | assumption))
  · (repeat (first | with_reducible assumption | with_reducible exact a_us | refine a_un (by omega) ?_ | exact a_us | (rw [← nI_1]; exact a_us) | assumption))
  · apply PI_set10 (c := 0) (PI_set4 hI (k := k) (c := c + 1) (fun _ => by omega) (fun _ => by omega))
    · exact hI.1
    · exact hI.2.1
    · rfl
    · rfl
    · omega

set_option maxHeartbeats 4000000 in
set_option maxRecDepth 100000 in
theorem sp_P_addClause1 {w : Int32} (hw : ¬ w = 0) {n g : Int32} {k c : Nat} (hP : PO σ p q) (hn : q.1.2.1 = k + 1) (hct : q.2.2 4 (6 + k) = nI c) (hc : c < 8) (hK : ∀ τ, a_fr σ τ p (p + 11) → PO τ p (q.1, q.2.1, updA (updA (updA (updA q.2.2 4 (6 + k) (nI (c + 1))) 8 (24 + k * 8 + c) n) 9 (24 + k * 8 + c) g) 10 (24 + k * 8 + c) 0) → K (some (.int (nI (24 + k * 8 + c)))) τ) : a_C G m_P_addClause 2 46 [.ref p, .int w, .int n, .int g] σ K := by
  obtain ⟨h0, h1, h2, h3, h4, h5, h6, h7, h8, h9, h10, hI⟩ := id hP
  have hk6 := hI.1
  have hk24 := hI.2.1
  have e0 : nI (hcnt q w) - 1 = nI k := by rw [hcnt, if_neg hw, hn]; exact nI_pred k
  have e1 : hrow q w (nI k) = nI (6 + k) := hrow_n hw hI (by omega)
  have hcac : ¬ cac q w = 0 := by rw [cac, e0, e1, if_neg (nI_m1 (by omega)), if_neg hw, nI_clamp (by omega), hct, if_pos (show nI c < 8 from nI_lt (b := 8) hc (by omega))]; decide
  have ecl : (nI (6 + k)).toNatClampNeg = (6 + k) := nI_clamp (by omega)
  have ecr : (nI (24 + k * 8 + c)).toNatClampNeg = 24 + k * 8 + c := nI_clamp (by omega)
  refine a_enter rfl (Nat.le_of_ble_eq_true rfl) ?_
  refine a_aload_n d_P_addClause_0 rfl rfl ?_
  refine a_iload_n d_P_addClause_1 rfl rfl ?_
  apply a_callV (ci := 2) 0 0 [_] _ d_P_addClause_2 l_P_69 ⟨im_P_heads, se_P_heads⟩ rfl rfl rfl rfl (Nat.le_of_ble_eq_true rfl) ⟨Nat.le_of_ble_eq_true rfl, Nat.le_of_ble_eq_true rfl⟩
  · (repeat (first | with_reducible assumption | with_reducible exact a_us | with_reducible exact a_ns | refine a_un (by first | with_reducible assumption | omega) ?_ | refine a_nn (by first | with_reducible assumption | omega | (simp only [a_upd_1, a_new_1]; omega)) ?_ | exact a_us | exact a_ns))
  refine sp_P_heads hP ?_
  refine a_iconst (v := 1) d_P_addClause_5 (by decide) ?_
  refine a_isub d_P_addClause_6 ?_
  rw [e0]
  refine a_istore d_P_addClause_7 (by decide) ?_
  refine a_aload_n d_P_addClause_9 rfl rfl ?_
  refine a_iload_n d_P_addClause_10 rfl rfl ?_
  refine a_iload d_P_addClause_11 rfl ?_
  apply a_callV (ci := 2) 0 0 [_, _] _ d_P_addClause_13 l_P_53 ⟨im_P_headRow, se_P_headRow⟩ rfl rfl rfl rfl (Nat.le_of_ble_eq_true rfl) ⟨Nat.le_of_ble_eq_true rfl, Nat.le_of_ble_eq_true rfl⟩
  · (repeat (first | with_reducible assumption | with_reducible exact a_us | with_reducible exact a_ns | refine a_un (by first | with_reducible assumption | omega) ?_ | refine a_nn (by first | with_reducible assumption | omega | (simp only [a_upd_1, a_new_1]; omega)) ?_ | exact a_us | exact a_ns))
  refine sp_P_headRow hP ?_
  rw [e1]
  refine a_istore d_P_addClause_16 (by decide) ?_
  refine a_iload d_P_addClause_18 rfl ?_
  refine a_iconst (v := (-1)) d_P_addClause_20 (by decide) ?_
  refine a_icmp_eq (tgt := 32) d_P_addClause_21 (by decide) (fun n9 => absurd n9 (nI_m1 (by omega))) (fun c_1 => ?_)
  refine a_aload_n d_P_addClause_24 rfl rfl ?_
  refine a_iload_n d_P_addClause_25 rfl rfl ?_
  apply a_callV (ci := 2) 1 22 [_] _ d_P_addClause_26 l_P_77 ⟨im_P_canAddClause, se_P_canAddClause⟩ rfl rfl rfl rfl (Nat.le_of_ble_eq_true rfl) ⟨Nat.le_of_ble_eq_true rfl, Nat.le_of_ble_eq_true rfl⟩
  · (repeat (first | with_reducible assumption | with_reducible exact a_us | with_reducible exact a_ns | refine a_un (by first | with_reducible assumption | omega) ?_ | refine a_nn (by first | with_reducible assumption | omega | (simp only [a_upd_1, a_new_1]; omega)) ?_ | exact a_us | exact a_ns))
  refine sp_P_canAddClause hP ?_
  refine a_if_ne (tgt := 34) d_P_addClause_29 (by decide) (fun c_2 => ?_) (fun n9 => absurd n9 (hcac))
  refine a_aload_n d_P_addClause_34 rfl rfl ?_
  apply a_getfield d_P_addClause_35 f_P_15
  · (repeat (first | with_reducible assumption | with_reducible exact a_us | with_reducible exact a_ns | refine a_un (by first | with_reducible assumption | omega) ?_ | refine a_nn (by first | with_reducible assumption | omega | (simp only [a_upd_1, a_new_1]; omega)) ?_ | exact a_us | exact a_ns))
  · rfl
  refine a_iload d_P_addClause_38 rfl ?_
  refine a_dup2 d_P_addClause_40 rfl rfl ?_
  apply a_iald (t0 := 0) d_P_addClause_41 rfl
  · (repeat (first | with_reducible assumption | with_reducible exact a_us | with_reducible exact a_ns | refine a_un (by first | with_reducible assumption | omega) ?_ | refine a_nn (by first | with_reducible assumption | omega | (simp only [a_upd_1, a_new_1]; omega)) ?_ | exact a_us | exact a_ns))
  · exact vp_in_nI (by omega) (by decide)
  rw [ecl, hct]
  refine a_iconst (v := 1) d_P_addClause_42 (by decide) ?_
  refine a_iadd d_P_addClause_43 ?_
  rw [nI_1]
  apply a_iast (t0 := 0) d_P_addClause_44 rfl
  · (repeat (first | with_reducible assumption | with_reducible exact a_us | with_reducible exact a_ns | refine a_un (by first | with_reducible assumption | omega) ?_ | refine a_nn (by first | with_reducible assumption | omega | (simp only [a_upd_1, a_new_1]; omega)) ?_ | exact a_us | exact a_ns))
  · exact vp_in_nI (by omega) (by decide)
  rw [ecl]
  have hP1 : PO (a_upd σ (p + 2) (.inl (.int, 30, .inl (upd (q.2.2 4) (6 + k) (nI (c + 1)))))) p (q.1, q.2.1, updA q.2.2 4 (6 + k) (nI (c + 1))) := by
    refine ⟨?_, ?_, ?_, ?_, ?_, ?_, ?_, ?_, ?_, ?_, ?_, ?_⟩
    · (repeat (first | with_reducible assumption | with_reducible exact a_us | refine a_un (by omega) ?_ | exact a_us | (rw [← nI_1]; exact a_us) | assumption))
    · (repeat (first | with_reducible assumption | with_reducible exact a_us | refine a_un (by omega) ?_ | exact a_us | (rw [← nI_1]; exact a_us) | assumption))
    · (repeat (first | with_reducible assumption | with_reducible exact a_us | refine a_un (by omega) ?_ | exact a_us | (rw [← nI_1]; exact a_us) | assumption))
    · (repeat (first | with_reducible assumption | with_reducible exact a_us | refine a_un (by omega) ?_ | exact a_us | (rw [← nI_1]; exact a_us) | assumption))
    · (repeat (first | with_reducible assumption | with_reducible exact a_us | refine a_un (by omega) ?_ | exact a_us | (rw [← nI_1]; exact a_us) | assumption))
    · (repeat (first | with_reducible assumption | with_reducible exact a_us | refine a_un (by omega) ?_ | exact a_us | (rw [← nI_1]; exact a_us) | assumption))
    · (repeat (first | with_reducible assumption | with_reducible exact a_us | refine a_un (by omega) ?_ | exact a_us | (rw [← nI_1]; exact a_us) | assumption))
    · (repeat (first | with_reducible assumption | with_reducible exact a_us | refine a_un (by omega) ?_ | exact a_us | (rw [← nI_1]; exact a_us) | assumption))
    · (repeat (first | with_reducible assumption | with_reducible exact a_us | refine a_un (by omega) ?_ | exact a_us | (rw [← nI_1]; exact a_us) | assumption))
    · (repeat (first | with_reducible assumption | with_reducible exact a_us | refine a_un (by omega) ?_ | exact a_us | (rw [← nI_1]; exact a_us) | assumption))
    · (repeat (first | with_reducible assumption | with_reducible exact a_us | refine a_un (by omega) ?_ | exact a_us | (rw [← nI_1]; exact a_us) | assumption))
    · exact PI_set4 hI (fun _ => by omega) (fun _ => by omega)
  have e2 : crow (q.1, q.2.1, updA q.2.2 4 (6 + k) (nI (c + 1))) w (nI k) (nI c) = nI (24 + k * 8 + c) := crow_n hw hP1.2.2.2.2.2.2.2.2.2.2.2 (show k < q.1.2.1 by omega) (show upd (q.2.2 4) (6 + k) (nI (c + 1)) (6 + k) = nI (c + 1) from pk_us) (Nat.lt_succ_self c) (by omega)
  refine a_aload_n d_P_addClause_45 rfl rfl ?_
  refine a_iload_n d_P_addClause_46 rfl rfl ?_
  refine a_iload d_P_addClause_47 rfl ?_
  refine a_aload_n d_P_addClause_49 rfl rfl ?_
  apply a_getfield d_P_addClause_50 f_P_15
  · (repeat (first | with_reducible assumption | with_reducible exact a_us | with_reducible exact a_ns | refine a_un (by first | with_reducible assumption | omega) ?_ | refine a_nn (by first | with_reducible assumption | omega | (simp only [a_upd_1, a_new_1]; omega)) ?_ | exact a_us | exact a_ns))
  · rfl
  refine a_iload d_P_addClause_53 rfl ?_
  apply a_iald (t0 := 0) d_P_addClause_55 rfl
  · (repeat (first | with_reducible assumption | with_reducible exact a_us | with_reducible exact a_ns | refine a_un (by first | with_reducible assumption | omega) ?_ | refine a_nn (by first | with_reducible assumption | omega | (simp only [a_upd_1, a_new_1]; omega)) ?_ | exact a_us | exact a_ns))
  · exact vp_in_nI (by omega) (by decide)
  rw [ecl, pk_us]
  refine a_iconst (v := 1) d_P_addClause_56 (by decide) ?_
  refine a_isub d_P_addClause_57 ?_
  rw [nI_pred]
  apply a_callV (ci := 2) 1 22 [_, _, _] _ d_P_addClause_58 l_P_57 ⟨im_P_clauseRow, se_P_clauseRow⟩ rfl rfl rfl rfl (Nat.le_of_ble_eq_true rfl) ⟨Nat.le_of_ble_eq_true rfl, Nat.le_of_ble_eq_true rfl⟩
  · (repeat (first | with_reducible assumption | with_reducible exact a_us | with_reducible exact a_ns | refine a_un (by first | with_reducible assumption | omega) ?_ | refine a_nn (by first | with_reducible assumption | omega | (simp only [a_upd_1, a_new_1]; omega)) ?_ | exact a_us | exact a_ns))
  refine sp_P_clauseRow hP1 ?_
  rw [e2]
  refine a_istore d_P_addClause_61 (by decide) ?_
  refine a_iload d_P_addClause_63 rfl ?_
  refine a_iconst (v := (-1)) d_P_addClause_65 (by decide) ?_
  refine a_icmp_eq (tgt := 93) d_P_addClause_66 (by decide) (fun n9 => absurd n9 (nI_m1 (by omega))) (fun c_3 => ?_)
  refine a_aload_n d_P_addClause_69 rfl rfl ?_
  apply a_getfield d_P_addClause_70 f_P_28
  · (repeat (first | with_reducible assumption | with_reducible exact a_us | with_reducible exact a_ns | refine a_un (by first | with_reducible assumption | omega) ?_ | refine a_nn (by first | with_reducible assumption | omega | (simp only [a_upd_1, a_new_1]; omega)) ?_ | exact a_us | exact a_ns))
  · rfl
  refine a_iload d_P_addClause_73 rfl ?_
  refine a_iload_n d_P_addClause_75 rfl rfl ?_
  apply a_iast (t0 := 0) d_P_addClause_76 rfl
  · (repeat (first | with_reducible assumption | with_reducible exact a_us | with_reducible exact a_ns | refine a_un (by first | with_reducible assumption | omega) ?_ | refine a_nn (by first | with_reducible assumption | omega | (simp only [a_upd_1, a_new_1]; omega)) ?_ | exact a_us | exact a_ns))
  · exact vp_in_nI (by omega) (by decide)
  refine a_aload_n d_P_addClause_77 rfl rfl ?_
  apply a_getfield d_P_addClause_78 f_P_31
  · (repeat (first | with_reducible assumption | with_reducible exact a_us | with_reducible exact a_ns | refine a_un (by first | with_reducible assumption | omega) ?_ | refine a_nn (by first | with_reducible assumption | omega | (simp only [a_upd_1, a_new_1]; omega)) ?_ | exact a_us | exact a_ns))
  · rfl
  refine a_iload d_P_addClause_81 rfl ?_
  refine a_iload_n d_P_addClause_83 rfl rfl ?_
  apply a_iast (t0 := 0) d_P_addClause_84 rfl
  · (repeat (first | with_reducible assumption | with_reducible exact a_us | with_reducible exact a_ns | refine a_un (by first | with_reducible assumption | omega) ?_ | refine a_nn (by first | with_reducible assumption | omega | (simp only [a_upd_1, a_new_1]; omega)) ?_ | exact a_us | exact a_ns))
  · exact vp_in_nI (by omega) (by decide)
  refine a_aload_n d_P_addClause_85 rfl rfl ?_
  apply a_getfield d_P_addClause_86 f_P_34
  · (repeat (first | with_reducible assumption | with_reducible exact a_us | with_reducible exact a_ns | refine a_un (by first | with_reducible assumption | omega) ?_ | refine a_nn (by first | with_reducible assumption | omega | (simp only [a_upd_1, a_new_1]; omega)) ?_ | exact a_us | exact a_ns))
  · rfl
  refine a_iload d_P_addClause_89 rfl ?_
  refine a_iconst (v := 0) d_P_addClause_91 (by decide) ?_
  apply a_iast (t0 := 0) d_P_addClause_92 rfl
  · (repeat (first | with_reducible assumption | with_reducible exact a_us | with_reducible exact a_ns | refine a_un (by first | with_reducible assumption | omega) ?_ | refine a_nn (by first | with_reducible assumption | omega | (simp only [a_upd_1, a_new_1]; omega)) ?_ | exact a_us | exact a_ns))
  · exact vp_in_nI (by omega) (by decide)
  refine a_iload d_P_addClause_93 rfl ?_
  rw [ecr]
  refine a_ireturn d_P_addClause_95 rfl rfl ?_
  refine hK _ ?_ ⟨?_, ?_, ?_, ?_, ?_, ?_, ?_, ?_, ?_, ?_, ?_, ?_⟩
  · (repeat (first | exact a_fr.rf | refine a_fr.upd ?_ (by omega) (by omega)))
  · (repeat (first | with_reducible assumption | with_reducible exact a_us | refine a_un (by omega) ?_ | exact a_us | (rw [← nI_1]; exact a_us) | assumption))
  · (repeat (first | with_reducible assumption | with_reducible exact a_us | refine a_un (by omega) ?_ | exact a_us | (rw [← nI_1]; exact a_us) | assumption))
  · (repeat (first | with_reducible assumption | with_reducible exact a_us | refine a_un (by omega) ?_ | exact a_us | (rw [← nI_1]; exact a_us) | assumption))
  · (repeat (first | with_reducible assumption | with_reducible exact a_us | refine a_un (by omega) ?_ | exact a_us | (rw [← nI_1]; exact a_us) | assumption))
  · (repeat (first | with_reducible assumption | with_reducible exact a_us | refine a_un (by omega) ?_ | exact a_us | (rw [← nI_1]; exact a_us) | assumption))
  · (repeat (first | with_reducible assumption | with_reducible exact a_us | refine a_un (by omega) ?_ | exact a_us | (rw [← nI_1]; exact a_us) | assumption))
  · (repeat (first | with_reducible assumption | with_reducible exact a_us | refine a_un (by omega) ?_ | exact a_us | (rw [← nI_1]; exact a_us) | assumption))
  · (repeat (first | with_reducible assumption | with_reducible exact a_us | refine a_un (by omega) ?_ | exact a_us | (rw [← nI_1]; exact a_us) | assumption))
  · (repeat (first | with_reducible assumption | with_reducible exact a_us | refine a_un (by omega) ?_ | exact a_us | (rw [← nI_1]; exact a_us) | assumption))
  · (repeat (first | with_reducible assumption | with_reducible exact a_us | refine a_un (by omega) ?_ | exact a_us | (rw [← nI_1]; exact a_us) | assumption))
  · (repeat (first | with_reducible assumption | with_reducible exact a_us | refine a_un (by omega) ?_ | exact a_us | (rw [← nI_1]; exact a_us) | assumption))
  · apply PI_set10 (c := 0) (PI_set4 hI (k := (6 + k)) (c := c + 1) (fun _ => by omega) (fun _ => by omega))
    · exact hI.1
    · exact hI.2.1
    · rfl
    · rfl
    · omega

set_option maxHeartbeats 4000000 in
set_option maxRecDepth 100000 in
theorem sp_P_addTest {s b : Int32} {c t : Nat} (hP : PO σ p q) (hc : c < 216) (hct : q.2.2 10 c = nI t) (ht : t < 4) (hK : ∀ τ, a_fr σ τ p (p + 11) → PO τ p ((q.1.1, q.1.2.1, q.1.2.2 + 1), q.2.1, updA (updA (updA q.2.2 11 (c * 4 + t) s) 12 (c * 4 + t) b) 10 c (nI (t + 1))) → K (some (.int (nI (c * 4 + t)))) τ) : a_C G m_P_addTest 1 21 [.ref p, .int (nI c), .int s, .int b] σ K := by
  obtain ⟨h0, h1, h2, h3, h4, h5, h6, h7, h8, h9, h10, hI⟩ := id hP
  have ecl : (nI c).toNatClampNeg = c := nI_clamp (by omega)
  have ecr : (nI (c * 4 + t)).toNatClampNeg = c * 4 + t := nI_clamp (by omega)
  have hca : ¬ cat q (nI c) = 0 := by rw [cat, if_neg (nI_pos (by omega)), if_pos (show nI c < 216 from nI_lt (b := 216) hc (by decide)), ecl, hct, if_pos (show nI t < 4 from nI_lt (b := 4) ht (by decide))]; decide
  refine a_enter rfl (Nat.le_of_ble_eq_true rfl) ?_
  refine a_aload_n d_P_addTest_0 rfl rfl ?_
  refine a_iload_n d_P_addTest_1 rfl rfl ?_
  apply a_callV (ci := 2) 0 0 [_] _ d_P_addTest_2 l_P_80 ⟨im_P_canAddTest, se_P_canAddTest⟩ rfl rfl rfl rfl (Nat.le_of_ble_eq_true rfl) ⟨Nat.le_of_ble_eq_true rfl, Nat.le_of_ble_eq_true rfl⟩
  · (repeat (first | with_reducible assumption | with_reducible exact a_us | with_reducible exact a_ns | refine a_un (by first | with_reducible assumption | omega) ?_ | refine a_nn (by first | with_reducible assumption | omega | (simp only [a_upd_1, a_new_1]; omega)) ?_ | exact a_us | exact a_ns))
  refine sp_P_canAddTest hP ?_
  refine a_if_ne (tgt := 10) d_P_addTest_5 (by decide) (fun c_1 => ?_) (fun n9 => absurd n9 (hca))
  refine a_iload_n d_P_addTest_10 rfl rfl ?_
  refine a_iconst (v := 4) d_P_addTest_11 (by decide) ?_
  refine a_imul d_P_addTest_12 ?_
  refine a_aload_n d_P_addTest_13 rfl rfl ?_
  apply a_getfield d_P_addTest_14 f_P_34
  · (repeat (first | with_reducible assumption | with_reducible exact a_us | with_reducible exact a_ns | refine a_un (by first | with_reducible assumption | omega) ?_ | refine a_nn (by first | with_reducible assumption | omega | (simp only [a_upd_1, a_new_1]; omega)) ?_ | exact a_us | exact a_ns))
  · rfl
  refine a_iload_n d_P_addTest_17 rfl rfl ?_
  apply a_iald (t0 := 0) d_P_addTest_18 rfl
  · (repeat (first | with_reducible assumption | with_reducible exact a_us | with_reducible exact a_ns | refine a_un (by first | with_reducible assumption | omega) ?_ | refine a_nn (by first | with_reducible assumption | omega | (simp only [a_upd_1, a_new_1]; omega)) ?_ | exact a_us | exact a_ns))
  · exact vp_in_nI hc (by decide)
  rw [ecl, hct]
  refine a_iadd d_P_addTest_19 ?_
  rw [show nI c * 4 + nI t = nI (c * 4 + t) by rw [show (4 : Int32) = nI 4 from rfl, pk_mul, nI_add]]
  refine a_istore d_P_addTest_20 (by decide) ?_
  refine a_aload_n d_P_addTest_22 rfl rfl ?_
  apply a_getfield d_P_addTest_23 f_P_37
  · (repeat (first | with_reducible assumption | with_reducible exact a_us | with_reducible exact a_ns | refine a_un (by first | with_reducible assumption | omega) ?_ | refine a_nn (by first | with_reducible assumption | omega | (simp only [a_upd_1, a_new_1]; omega)) ?_ | exact a_us | exact a_ns))
  · rfl
  refine a_iload d_P_addTest_26 rfl ?_
  refine a_iload_n d_P_addTest_28 rfl rfl ?_
  apply a_iast (t0 := 0) d_P_addTest_29 rfl
  · (repeat (first | with_reducible assumption | with_reducible exact a_us | with_reducible exact a_ns | refine a_un (by first | with_reducible assumption | omega) ?_ | refine a_nn (by first | with_reducible assumption | omega | (simp only [a_upd_1, a_new_1]; omega)) ?_ | exact a_us | exact a_ns))
  · exact vp_in_nI (by omega) (by decide)
  refine a_aload_n d_P_addTest_30 rfl rfl ?_
  apply a_getfield d_P_addTest_31 f_P_40
  · (repeat (first | with_reducible assumption | with_reducible exact a_us | with_reducible exact a_ns | refine a_un (by first | with_reducible assumption | omega) ?_ | refine a_nn (by first | with_reducible assumption | omega | (simp only [a_upd_1, a_new_1]; omega)) ?_ | exact a_us | exact a_ns))
  · rfl
  refine a_iload d_P_addTest_34 rfl ?_
  refine a_iload_n d_P_addTest_36 rfl rfl ?_
  apply a_iast (t0 := 0) d_P_addTest_37 rfl
  · (repeat (first | with_reducible assumption | with_reducible exact a_us | with_reducible exact a_ns | refine a_un (by first | with_reducible assumption | omega) ?_ | refine a_nn (by first | with_reducible assumption | omega | (simp only [a_upd_1, a_new_1]; omega)) ?_ | exact a_us | exact a_ns))
  · exact vp_in_nI (by omega) (by decide)
  refine a_aload_n d_P_addTest_38 rfl rfl ?_
  apply a_getfield d_P_addTest_39 f_P_34
  · (repeat (first | with_reducible assumption | with_reducible exact a_us | with_reducible exact a_ns | refine a_un (by first | with_reducible assumption | omega) ?_ | refine a_nn (by first | with_reducible assumption | omega | (simp only [a_upd_1, a_new_1]; omega)) ?_ | exact a_us | exact a_ns))
  · rfl
  refine a_iload_n d_P_addTest_42 rfl rfl ?_
  refine a_dup2 d_P_addTest_43 rfl rfl ?_
  apply a_iald (t0 := 0) d_P_addTest_44 rfl
  · (repeat (first | with_reducible assumption | with_reducible exact a_us | with_reducible exact a_ns | refine a_un (by first | with_reducible assumption | omega) ?_ | refine a_nn (by first | with_reducible assumption | omega | (simp only [a_upd_1, a_new_1]; omega)) ?_ | exact a_us | exact a_ns))
  · exact vp_in_nI hc (by decide)
  rw [ecl, hct]
  refine a_iconst (v := 1) d_P_addTest_45 (by decide) ?_
  refine a_iadd d_P_addTest_46 ?_
  rw [nI_1]
  apply a_iast (t0 := 0) d_P_addTest_47 rfl
  · (repeat (first | with_reducible assumption | with_reducible exact a_us | with_reducible exact a_ns | refine a_un (by first | with_reducible assumption | omega) ?_ | refine a_nn (by first | with_reducible assumption | omega | (simp only [a_upd_1, a_new_1]; omega)) ?_ | exact a_us | exact a_ns))
  · exact vp_in_nI hc (by decide)
  refine a_aload_n d_P_addTest_48 rfl rfl ?_
  refine a_dup d_P_addTest_49 rfl ?_
  apply a_getfield d_P_addTest_50 f_P_50
  · (repeat (first | with_reducible assumption | with_reducible exact a_us | with_reducible exact a_ns | refine a_un (by first | with_reducible assumption | omega) ?_ | refine a_nn (by first | with_reducible assumption | omega | (simp only [a_upd_1, a_new_1]; omega)) ?_ | exact a_us | exact a_ns))
  · rfl
  refine a_iconst (v := 1) d_P_addTest_53 (by decide) ?_
  refine a_iadd d_P_addTest_54 ?_
  apply a_putfield d_P_addTest_55 p_P_50
  · (repeat (first | with_reducible assumption | with_reducible exact a_us | with_reducible exact a_ns | refine a_un (by first | with_reducible assumption | omega) ?_ | refine a_nn (by first | with_reducible assumption | omega | (simp only [a_upd_1, a_new_1]; omega)) ?_ | exact a_us | exact a_ns))
  · first | rfl | assumption
  · first | rfl | assumption
  · exact Nat.le_of_ble_eq_true rfl
  refine a_iload d_P_addTest_58 rfl ?_
  rw [ecr, ecl]
  refine a_ireturn d_P_addTest_60 rfl rfl ?_
  refine hK _ ?_ ⟨?_, ?_, ?_, ?_, ?_, ?_, ?_, ?_, ?_, ?_, ?_, ?_⟩
  · (repeat (first | exact a_fr.rf | refine a_fr.upd ?_ (by omega) (by omega)))
  · dsimp only; rw [← nI_1 q.1.2.2]; (repeat (first | with_reducible assumption | with_reducible exact a_us | refine a_un (by omega) ?_ | exact a_us | (rw [← nI_1]; exact a_us) | assumption))
  · (repeat (first | with_reducible assumption | with_reducible exact a_us | refine a_un (by omega) ?_ | exact a_us | (rw [← nI_1]; exact a_us) | assumption))
  · (repeat (first | with_reducible assumption | with_reducible exact a_us | refine a_un (by omega) ?_ | exact a_us | (rw [← nI_1]; exact a_us) | assumption))
  · (repeat (first | with_reducible assumption | with_reducible exact a_us | refine a_un (by omega) ?_ | exact a_us | (rw [← nI_1]; exact a_us) | assumption))
  · (repeat (first | with_reducible assumption | with_reducible exact a_us | refine a_un (by omega) ?_ | exact a_us | (rw [← nI_1]; exact a_us) | assumption))
  · (repeat (first | with_reducible assumption | with_reducible exact a_us | refine a_un (by omega) ?_ | exact a_us | (rw [← nI_1]; exact a_us) | assumption))
  · (repeat (first | with_reducible assumption | with_reducible exact a_us | refine a_un (by omega) ?_ | exact a_us | (rw [← nI_1]; exact a_us) | assumption))
  · (repeat (first | with_reducible assumption | with_reducible exact a_us | refine a_un (by omega) ?_ | exact a_us | (rw [← nI_1]; exact a_us) | assumption))
  · (repeat (first | with_reducible assumption | with_reducible exact a_us | refine a_un (by omega) ?_ | exact a_us | (rw [← nI_1]; exact a_us) | assumption))
  · (repeat (first | with_reducible assumption | with_reducible exact a_us | refine a_un (by omega) ?_ | exact a_us | (rw [← nI_1]; exact a_us) | assumption))
  · (repeat (first | with_reducible assumption | with_reducible exact a_us | refine a_un (by omega) ?_ | exact a_us | (rw [← nI_1]; exact a_us) | assumption))
  · apply PI_set10 (k := c) (c := t + 1) hI
    · exact hI.1
    · exact hI.2.1
    · rfl
    · rfl
    · omega

end ModP4
