/-! THE MODEL's numbers, whole; next -/
theorem negT {D : Nat} (h : D < 10000000000000) : (-(lN D)).toInt = -(D : Int) := by
  rw [Int64.toInt_neg, pk_lT (by omega), Int.bmod_def]
  omega
theorem rng_n {D : Nat} (h : D < 10000000000000) : (-2147483648 ≤ -(lN D) ∧ -(lN D) ≤ 2147483647) ↔ D ≤ 2147483648 := by
  rw [Int64.le_iff_toInt_le, Int64.le_iff_toInt_le, negT h, show (-2147483648 : Int64).toInt = -2147483648 from by decide, show (2147483647 : Int64).toInt = 2147483647 from by decide]
  omega
theorem rng_p {D : Nat} (h : D < 10000000000000) : (-2147483648 ≤ lN D ∧ lN D ≤ 2147483647) ↔ D ≤ 2147483647 := by
  rw [Int64.le_iff_toInt_le, Int64.le_iff_toInt_le, pk_lT (by omega), show (-2147483648 : Int64).toInt = -2147483648 from by decide, show (2147483647 : Int64).toInt = 2147483647 from by decide]
  omega
theorem nvW_n {f : Nat → Nat} {P E : Nat} (hb : nI (f P) = 45) (hf : ∀ k, k < E → f k < 256) (hE : P + 1 ≤ E) : nvW f P E = if ¬ alD f (E - (P + 1)) (P + 1) = 0 ∧ dvF f (E - (P + 1)) (P + 1) 0 ≤ 2147483648 then some (lN (dvF f (E - (P + 1)) (P + 1) 0)) else none := by
  unfold nvW tm tq
  rw [if_pos hb, if_pos hb]
  exact nvF_dv (M := 2147483648) (by omega) (E - (P + 1)) (P + 1) 0 (by omega) (fun k hk => hf k (by omega))
theorem nvW_p {f : Nat → Nat} {P E : Nat} (hb : ¬ nI (f P) = 45) (hf : ∀ k, k < E → f k < 256) (hE : P ≤ E) : nvW f P E = if ¬ alD f (E - P) P = 0 ∧ dvF f (E - P) P 0 ≤ 2147483647 then some (lN (dvF f (E - P) P 0)) else none := by
  unfold nvW tm tq
  rw [if_neg hb, if_neg hb]
  exact nvF_dv (M := 2147483647) (by omega) (E - P) P 0 (by omega) (fun k hk => hf k (by omega))
theorem sg_n {f : Nat → Nat} {P D : Nat} (hb : nI (f P) = 45) (h : D ≤ 2147483648) : (sgF f P (lN D)).toInt64 = -(lN D) := by
  unfold sgF
  rw [if_pos hb]
  exact i64_32 (by rw [negT (by omega)]; omega) (by rw [negT (by omega)]; omega)
theorem sg_p {f : Nat → Nat} {P D : Nat} (hb : ¬ nI (f P) = 45) (h : D ≤ 2147483647) : (sgF f P (lN D)).toInt64 = lN D := by
  unfold sgF
  rw [if_neg hb]
  exact i64_32 (by rw [pk_lT (by omega)]; omega) (by rw [pk_lT (by omega)]; omega)
section ModM4
variable {G : aG} {σ0 : aS} {K : Option Value → aS → Prop} {m n : Nat} {f : Nat → Nat} {x : aX}
set_option maxHeartbeats 1000000 in
set_option maxRecDepth 100000 in
theorem sp_M_takeNumber {P E : Nat} (hT : MX x n f) (hP : x.1 19 = nI P) (hPE : P < E) (hE : E ≤ n) (hK1 : ∀ u : Int64, nvW f P E = some u → tq f P < E → K none (mk σ0 m (sJ (sI x 20 3) 23 ((sgF f P u).toInt64)))) (hK0 : (nvW f P E = none ∨ E ≤ tq f P) → ∀ u : Int64, K none (mk σ0 m (wrX (sJ (sI x 20 3) 23 u) 1 (nI P)))) : a_C G m_M_takeNumber 1 22 [.ref m, .int (nI E)] (mk σ0 m x) K := by
  have hn := hT.2.1
  refine a_enter rfl (Nat.le_of_ble_eq_true rfl) ?_
  refine a_aload_n d_M_takeNumber_0 rfl rfl ?_
  refine a_iconst (v := 3) d_M_takeNumber_1 (by decide) ?_
  refine m_putI d_M_takeNumber_2 p_M_149 rfl rfl (by decide) ?_
  refine a_aload_n d_M_takeNumber_5 rfl rfl ?_
  refine m_get d_M_takeNumber_6 f_M_41 rfl ?_
  refine a_aload_n d_M_takeNumber_9 rfl rfl ?_
  refine m_get d_M_takeNumber_10 f_M_139 rfl ?_
  rw [show (sI x 20 3).1 19 = nI P from hP]
  refine m_iald d_M_takeNumber_13 (by decide) rfl (vp_in_nI (show P < 4096 by omega) (by decide)) ?_
  rw [nI_clamp (show P < 2 ^ 31 by omega), show (sI x 20 3).2.2.1 10 P = nI (f P) from (hT.2.2 P (by omega)).1]
  refine a_bipush (v := 45) d_M_takeNumber_14 (by decide) ?_
  refine a_icmp_ne (tgt := 23) d_M_takeNumber_16 (by decide) (fun c_1 => ?_) (fun c_1 => ?_)
  · refine a_iconst (v := 0) d_M_takeNumber_23 (by decide) ?_
    refine a_istore_n d_M_takeNumber_24 rfl (by decide) ?_
    refine a_iload_n d_M_takeNumber_25 rfl rfl ?_
    refine a_if_eq (tgt := 39) d_M_takeNumber_26 (by decide) (fun c_2 => ?_) (fun c_2 => ?_)
    · refine a_iconst (v := 1) d_M_takeNumber_39 (by decide) ?_
      refine a_goto (tgt := 44) d_M_takeNumber_40 (by decide) ?_
      refine a_istore_n d_M_takeNumber_44 rfl (by decide) ?_
      refine a_lconst (v := 0) d_M_takeNumber_45 (by decide) ?_
      refine a_lstore d_M_takeNumber_46 (by decide) ?_
      refine a_iload_n d_M_takeNumber_48 rfl rfl ?_
      refine a_if_eq (tgt := 61) d_M_takeNumber_49 (by decide) (fun c_3 => ?_) (fun c_3 => ?_)
      · refine a_aload_n d_M_takeNumber_61 rfl rfl ?_
        refine m_get d_M_takeNumber_62 f_M_139 rfl ?_
        refine a_istore d_M_takeNumber_65 (by decide) ?_
        have hb : ¬ nI (f P) = 45 := by assumption
        have hq : tq f P = P := by unfold tq; rw [if_neg hb]
        have eW := nvW_p hb (fun k hk => (hT.2.2 k (by omega)).2) (show P ≤ E by omega)
        have hD := dvF_b (f := f) (E - P) P 0 (by omega) (fun k hk => (hT.2.2 k (by omega)).2)
        refine a_lvk (lp_M_num (x := (sI x 20 3)) (b := 0) hT hE (E - P) P 0 (by omega) (by omega) (fun z => ?_) (fun z u => ?_)) ⟨rfl, rfl, rfl, rfl, rfl, by rw [show (sI x 20 3).1 19 = nI P from hP]; rfl, trivial⟩
        · refine tl_M_num1 rfl (fun g => ?_) (fun g => ?_)
          · have g2 := (rng_p hD.2).mp g.2
            rw [← sg_p hb g2]
            exact hK1 _ (by rw [eW, if_pos ⟨z, g2⟩]) (by omega)
          · rw [show (sI x 20 3).1 19 = nI P from hP]
            exact hK0 (Or.inl (by rw [eW, if_neg (fun y => g ⟨by decide, (rng_p hD.2).mpr y.2⟩)])) _
        · refine tl_M_num1 rfl (fun g => absurd rfl g.1) (fun g => ?_)
          rw [show (sI x 20 3).1 19 = nI P from hP]
          exact hK0 (Or.inl (by rw [eW, if_neg (fun y => y.1 z)])) _
      · refine a_aload_n d_M_takeNumber_52 rfl rfl ?_
        refine m_get d_M_takeNumber_53 f_M_139 rfl ?_
        rw [show (sI x 20 3).1 19 = nI P from hP]
        refine a_iconst (v := 1) d_M_takeNumber_56 (by decide) ?_
        refine a_iadd d_M_takeNumber_57 ?_
        rw [nI_1]
        refine a_goto (tgt := 65) d_M_takeNumber_58 (by decide) ?_
        refine a_istore d_M_takeNumber_65 (by decide) ?_
        exact absurd rfl c_3
    · refine a_iload_n d_M_takeNumber_29 rfl rfl ?_
      refine a_aload_n d_M_takeNumber_30 rfl rfl ?_
      refine m_get d_M_takeNumber_31 f_M_139 rfl ?_
      rw [show (sI x 20 3).1 19 = nI P from hP]
      refine a_iconst (v := 1) d_M_takeNumber_34 (by decide) ?_
      refine a_iadd d_M_takeNumber_35 ?_
      rw [nI_1]
      refine a_icmp_le (tgt := 43) d_M_takeNumber_36 (by decide) (fun c_4 => ?_) (fun c_4 => ?_)
      · refine a_iconst (v := 0) d_M_takeNumber_43 (by decide) ?_
        refine a_istore_n d_M_takeNumber_44 rfl (by decide) ?_
        refine a_lconst (v := 0) d_M_takeNumber_45 (by decide) ?_
        refine a_lstore d_M_takeNumber_46 (by decide) ?_
        refine a_iload_n d_M_takeNumber_48 rfl rfl ?_
        refine a_if_eq (tgt := 61) d_M_takeNumber_49 (by decide) (fun c_5 => ?_) (fun c_5 => ?_)
        · refine a_aload_n d_M_takeNumber_61 rfl rfl ?_
          refine m_get d_M_takeNumber_62 f_M_139 rfl ?_
          refine a_istore d_M_takeNumber_65 (by decide) ?_
          exact absurd rfl c_2
        · refine a_aload_n d_M_takeNumber_52 rfl rfl ?_
          refine m_get d_M_takeNumber_53 f_M_139 rfl ?_
          rw [show (sI x 20 3).1 19 = nI P from hP]
          refine a_iconst (v := 1) d_M_takeNumber_56 (by decide) ?_
          refine a_iadd d_M_takeNumber_57 ?_
          rw [nI_1]
          refine a_goto (tgt := 65) d_M_takeNumber_58 (by decide) ?_
          refine a_istore d_M_takeNumber_65 (by decide) ?_
          exact absurd rfl c_2
      · refine a_iconst (v := 1) d_M_takeNumber_39 (by decide) ?_
        refine a_goto (tgt := 44) d_M_takeNumber_40 (by decide) ?_
        refine a_istore_n d_M_takeNumber_44 rfl (by decide) ?_
        refine a_lconst (v := 0) d_M_takeNumber_45 (by decide) ?_
        refine a_lstore d_M_takeNumber_46 (by decide) ?_
        refine a_iload_n d_M_takeNumber_48 rfl rfl ?_
        refine a_if_eq (tgt := 61) d_M_takeNumber_49 (by decide) (fun c_6 => ?_) (fun c_6 => ?_)
        · refine a_aload_n d_M_takeNumber_61 rfl rfl ?_
          refine m_get d_M_takeNumber_62 f_M_139 rfl ?_
          refine a_istore d_M_takeNumber_65 (by decide) ?_
          exact absurd rfl c_2
        · refine a_aload_n d_M_takeNumber_52 rfl rfl ?_
          refine m_get d_M_takeNumber_53 f_M_139 rfl ?_
          rw [show (sI x 20 3).1 19 = nI P from hP]
          refine a_iconst (v := 1) d_M_takeNumber_56 (by decide) ?_
          refine a_iadd d_M_takeNumber_57 ?_
          rw [nI_1]
          refine a_goto (tgt := 65) d_M_takeNumber_58 (by decide) ?_
          refine a_istore d_M_takeNumber_65 (by decide) ?_
          exact absurd rfl c_2
  · refine a_iconst (v := 1) d_M_takeNumber_19 (by decide) ?_
    refine a_goto (tgt := 24) d_M_takeNumber_20 (by decide) ?_
    refine a_istore_n d_M_takeNumber_24 rfl (by decide) ?_
    refine a_iload_n d_M_takeNumber_25 rfl rfl ?_
    refine a_if_eq (tgt := 39) d_M_takeNumber_26 (by decide) (fun c_7 => ?_) (fun c_7 => ?_)
    · refine a_iconst (v := 1) d_M_takeNumber_39 (by decide) ?_
      refine a_goto (tgt := 44) d_M_takeNumber_40 (by decide) ?_
      refine a_istore_n d_M_takeNumber_44 rfl (by decide) ?_
      refine a_lconst (v := 0) d_M_takeNumber_45 (by decide) ?_
      refine a_lstore d_M_takeNumber_46 (by decide) ?_
      refine a_iload_n d_M_takeNumber_48 rfl rfl ?_
      refine a_if_eq (tgt := 61) d_M_takeNumber_49 (by decide) (fun c_8 => ?_) (fun c_8 => ?_)
      · refine a_aload_n d_M_takeNumber_61 rfl rfl ?_
        refine m_get d_M_takeNumber_62 f_M_139 rfl ?_
        refine a_istore d_M_takeNumber_65 (by decide) ?_
        exact absurd c_7 (by decide)
      · refine a_aload_n d_M_takeNumber_52 rfl rfl ?_
        refine m_get d_M_takeNumber_53 f_M_139 rfl ?_
        rw [show (sI x 20 3).1 19 = nI P from hP]
        refine a_iconst (v := 1) d_M_takeNumber_56 (by decide) ?_
        refine a_iadd d_M_takeNumber_57 ?_
        rw [nI_1]
        refine a_goto (tgt := 65) d_M_takeNumber_58 (by decide) ?_
        refine a_istore d_M_takeNumber_65 (by decide) ?_
        exact absurd c_7 (by decide)
    · refine a_iload_n d_M_takeNumber_29 rfl rfl ?_
      refine a_aload_n d_M_takeNumber_30 rfl rfl ?_
      refine m_get d_M_takeNumber_31 f_M_139 rfl ?_
      rw [show (sI x 20 3).1 19 = nI P from hP]
      refine a_iconst (v := 1) d_M_takeNumber_34 (by decide) ?_
      refine a_iadd d_M_takeNumber_35 ?_
      rw [nI_1]
      refine a_icmp_le (tgt := 43) d_M_takeNumber_36 (by decide) (fun c_9 => ?_) (fun c_9 => ?_)
      · refine a_iconst (v := 0) d_M_takeNumber_43 (by decide) ?_
        refine a_istore_n d_M_takeNumber_44 rfl (by decide) ?_
        refine a_lconst (v := 0) d_M_takeNumber_45 (by decide) ?_
        refine a_lstore d_M_takeNumber_46 (by decide) ?_
        refine a_iload_n d_M_takeNumber_48 rfl rfl ?_
        refine a_if_eq (tgt := 61) d_M_takeNumber_49 (by decide) (fun c_10 => ?_) (fun c_10 => ?_)
        · refine a_aload_n d_M_takeNumber_61 rfl rfl ?_
          refine m_get d_M_takeNumber_62 f_M_139 rfl ?_
          refine a_istore d_M_takeNumber_65 (by decide) ?_
          exact absurd c_10 (by decide)
        · refine a_aload_n d_M_takeNumber_52 rfl rfl ?_
          refine m_get d_M_takeNumber_53 f_M_139 rfl ?_
          rw [show (sI x 20 3).1 19 = nI P from hP]
          refine a_iconst (v := 1) d_M_takeNumber_56 (by decide) ?_
          refine a_iadd d_M_takeNumber_57 ?_
          rw [nI_1]
          refine a_goto (tgt := 65) d_M_takeNumber_58 (by decide) ?_
          refine a_istore d_M_takeNumber_65 (by decide) ?_
          have hb : nI (f P) = 45 := by first | assumption | exact Decidable.not_not.mp (by assumption)
          have hle : E ≤ P + 1 := (nI_leI (by omega) (by omega)).mp (by assumption)
          have hq : tq f P = P + 1 := by unfold tq; rw [if_pos hb]
          refine a_lvk (lp_M_num0 (v := 0) (b := 1) ?_) ⟨rfl, rfl, rfl, rfl, rfl, rfl, trivial⟩
          refine tl_M_num0 (by decide) (fun g => absurd rfl g.1) (fun g => ?_)
          rw [show (sI x 20 3).1 19 = nI P from hP]
          exact hK0 (Or.inr (by omega)) _
      · refine a_iconst (v := 1) d_M_takeNumber_39 (by decide) ?_
        refine a_goto (tgt := 44) d_M_takeNumber_40 (by decide) ?_
        refine a_istore_n d_M_takeNumber_44 rfl (by decide) ?_
        refine a_lconst (v := 0) d_M_takeNumber_45 (by decide) ?_
        refine a_lstore d_M_takeNumber_46 (by decide) ?_
        refine a_iload_n d_M_takeNumber_48 rfl rfl ?_
        refine a_if_eq (tgt := 61) d_M_takeNumber_49 (by decide) (fun c_11 => ?_) (fun c_11 => ?_)
        · refine a_aload_n d_M_takeNumber_61 rfl rfl ?_
          refine m_get d_M_takeNumber_62 f_M_139 rfl ?_
          refine a_istore d_M_takeNumber_65 (by decide) ?_
          exact absurd c_11 (by decide)
        · refine a_aload_n d_M_takeNumber_52 rfl rfl ?_
          refine m_get d_M_takeNumber_53 f_M_139 rfl ?_
          rw [show (sI x 20 3).1 19 = nI P from hP]
          refine a_iconst (v := 1) d_M_takeNumber_56 (by decide) ?_
          refine a_iadd d_M_takeNumber_57 ?_
          rw [nI_1]
          refine a_goto (tgt := 65) d_M_takeNumber_58 (by decide) ?_
          refine a_istore d_M_takeNumber_65 (by decide) ?_
          have hb : nI (f P) = 45 := by first | assumption | exact Decidable.not_not.mp (by assumption)
          have hlt : P + 1 < E := (nI_ltI (by omega) (by omega)).mp (Int32.not_le.mp (by assumption))
          have hq : tq f P = P + 1 := by unfold tq; rw [if_pos hb]
          have eW := nvW_n hb (fun k hk => (hT.2.2 k (by omega)).2) (show P + 1 ≤ E by omega)
          have hD := dvF_b (f := f) (E - (P + 1)) (P + 1) 0 (by omega) (fun k hk => (hT.2.2 k (by omega)).2)
          refine a_lvk (lp_M_num (x := (sI x 20 3)) (b := 1) hT hE (E - (P + 1)) (P + 1) 0 (by omega) (by omega) (fun z => ?_) (fun z u => ?_)) ⟨rfl, rfl, rfl, rfl, rfl, rfl, trivial⟩
          · refine tl_M_num0 (by decide) (fun g => ?_) (fun g => ?_)
            · have g2 := (rng_n hD.2).mp g.2
              rw [← sg_n hb g2]
              exact hK1 _ (by rw [eW, if_pos ⟨z, g2⟩]) (by omega)
            · rw [show (sI x 20 3).1 19 = nI P from hP]
              exact hK0 (Or.inl (by rw [eW, if_neg (fun y => g ⟨by decide, (rng_n hD.2).mpr y.2⟩)])) _
          · refine tl_M_num0 (by decide) (fun g => absurd rfl g.1) (fun g => ?_)
            rw [show (sI x 20 3).1 19 = nI P from hP]
            exact hK0 (Or.inl (by rw [eW, if_neg (fun y => y.1 z)])) _

end ModM4
