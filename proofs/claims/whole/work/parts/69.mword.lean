/-! THE MODEL's words, must, expect -/
def mW (x : aX) (j : Nat) : Int32 := if x.1 20 = 2 then (if x.2.1 22 = e27 (jS j) then 1 else 0) else 0
def muX (x : aX) (b : Int32) : aX := if b = 0 then (if x.1 24 = 0 then sI (sI x 24 (if x.1 20 = 4 then 3 else 2)) 25 (if x.1 20 = 4 then x.1 18 else x.1 21) else x) else x
theorem muX_w (x : aX) {b : Int32} (h : b = 0) (h2 : x.1 24 = 0) : muX x b = wrX x (if x.1 20 = 4 then 3 else 2) (if x.1 20 = 4 then x.1 18 else x.1 21) := by
  unfold muX wrX; rw [if_pos h, if_pos h2]
section ModM6
variable {G : aG} {σ0 : aS} {K : Option Value → aS → Prop} {m n : Nat} {f : Nat → Nat} {x : aX}
set_option maxHeartbeats 1000000 in
set_option maxRecDepth 100000 in
theorem lp_M_named {σ : aS} {j : Nat} (hj : j < nJ) (hg : gdL (jS j)) : ∀ (k i v : Nat), i + k = (jS j).length → K (some (.long (lN (nB 27 v ((jS j).drop i))))) σ → a_J G m_M_named 4 85 4 [(0, .ref (G.2.2.2.2.1 j)), (1, .long (lN v)), (3, .int (nI i))] [] σ K := by
  have hjl := jS_len hj
  intro k
  induction k with
  | zero =>
    intro i v hk hK
    refine a_iload_n d_M_named_4 rfl rfl ?_
    refine a_aload_n d_M_named_5 rfl rfl ?_
    refine a_callVS 1 20 [] _ d_M_named_6 l_M_187 ⟨im_S_length, se_S_length⟩ rfl rfl rfl (Nat.le_of_ble_eq_true rfl) ⟨Nat.le_of_ble_eq_true rfl, Nat.le_of_ble_eq_true rfl⟩ hj ?_
    refine sp_S_length hj ?_
    refine a_icmp_ge (tgt := 35) d_M_named_9 (by decide) (fun c_1 => ?_) (fun n9 => absurd (nI_le (by omega) (by omega)) n9)
    refine a_lload_n d_M_named_35 rfl rfl ?_
    rw [List.drop_eq_nil_of_le (by omega)] at hK
    exact a_lreturn d_M_named_36 rfl hK
  | succ k ih =>
    intro i v hk hK
    refine a_iload_n d_M_named_4 rfl rfl ?_
    refine a_aload_n d_M_named_5 rfl rfl ?_
    refine a_callVS 1 20 [] _ d_M_named_6 l_M_187 ⟨im_S_length, se_S_length⟩ rfl rfl rfl (Nat.le_of_ble_eq_true rfl) ⟨Nat.le_of_ble_eq_true rfl, Nat.le_of_ble_eq_true rfl⟩ hj ?_
    refine sp_S_length hj ?_
    refine a_icmp_ge (tgt := 35) d_M_named_9 (by decide) (fun n9 => absurd n9 (nI_ge (by omega) (by omega))) (fun c_1 => ?_)
    refine a_ldc2 d_M_named_12 k_M_170 ?_
    refine a_lload_n d_M_named_15 rfl rfl ?_
    refine a_lmul d_M_named_16 ?_
    refine a_aload_n d_M_named_17 rfl rfl ?_
    refine a_iload_n d_M_named_18 rfl rfl ?_
    refine a_callVS 3 64 [_] _ d_M_named_19 l_M_193 ⟨im_S_charAt, se_S_charAt⟩ rfl rfl rfl (Nat.le_of_ble_eq_true rfl) ⟨Nat.le_of_ble_eq_true rfl, Nat.le_of_ble_eq_true rfl⟩ hj ?_
    refine sp_S_charAt hj (by omega) ?_
    refine a_i2l d_M_named_22 ?_
    refine a_ladd d_M_named_23 ?_
    refine a_ldc2 d_M_named_24 k_M_172 ?_
    refine a_lsub d_M_named_27 ?_
    refine a_lstore_n d_M_named_28 rfl (by decide) ?_
    refine a_iinc (c0 := 1) d_M_named_29 rfl (by decide) (by decide) ?_
    refine a_goto (tgt := 4) d_M_named_32 (by decide) ?_
    have hi : i < (jS j).length := by omega
    have hgi : (jS j).getD i 0 = (jS j)[i] := by simp [hi]
    have hgd := hg _ (List.getElem_mem hi)
    rw [nI_1, hgi]
    have ev : (27 : Int64) * lN v + (nI (jS j)[i]).toInt64 - 96 = lN (v * 27 + ((jS j)[i] - 96)) := by
      rw [nI_l (by omega), show (27 : Int64) = lN 27 from rfl, lN_mul, lN_add, show (96 : Int64) = lN 96 from rfl, lN_sub (by omega)]
      congr 1; omega
    rw [ev]
    rw [List.drop_eq_getElem_cons hi, nB_cons] at hK
    exact a_lvk (ih (i + 1) _ (by omega) hK) ⟨rfl, rfl, rfl, trivial⟩

set_option maxHeartbeats 1000000 in
set_option maxRecDepth 100000 in
theorem sp_M_named {σ : aS} {j : Nat} (hj : j < nJ) (hg : gdL (jS j)) (hK : K (some (.long (e27 (jS j)))) σ) : a_C G m_M_named 4 85 [.ref (G.2.2.2.2.1 j)] σ K := by
  refine a_enter rfl (Nat.le_of_ble_eq_true rfl) ?_
  refine a_lconst (v := 0) d_M_named_0 (by decide) ?_
  refine a_lstore_n d_M_named_1 rfl (by decide) ?_
  refine a_iconst (v := 0) d_M_named_2 (by decide) ?_
  refine a_istore_n d_M_named_3 rfl (by decide) ?_
  exact a_lvk (lp_M_named hj hg (jS j).length 0 0 (by omega) hK) ⟨rfl, rfl, rfl, trivial⟩

set_option maxHeartbeats 1000000 in
set_option maxRecDepth 100000 in
theorem sp_M_isWord {j : Nat} (hj : j < nJ) (hg : gdL (jS j)) (hK : K (some (.int (mW x j))) (mk σ0 m x)) : a_C G m_M_isWord 5 108 [.ref m, .ref (G.2.2.2.2.1 j)] (mk σ0 m x) K := by
  refine a_enter rfl (Nat.le_of_ble_eq_true rfl) ?_
  refine a_aload_n d_M_isWord_0 rfl rfl ?_
  refine m_get d_M_isWord_1 f_M_149 rfl ?_
  refine a_iconst (v := 2) d_M_isWord_4 (by decide) ?_
  refine a_icmp_ne (tgt := 24) d_M_isWord_5 (by decide) (fun c_1 => ?_) (fun c_1 => ?_)
  · refine a_iconst (v := 0) d_M_isWord_24 (by decide) ?_
    refine a_ireturn d_M_isWord_25 rfl rfl ?_
    first | (rw [mW, if_neg (by assumption)] at hK; exact hK) | (rw [mW, if_pos (by first | assumption | exact Decidable.not_not.mp (by assumption)), if_neg (fun e => absurd ((lg_cmp_eq _ _).mpr e) (by assumption))] at hK; exact hK) | (rw [mW, if_pos (by first | assumption | exact Decidable.not_not.mp (by assumption)), if_pos ((lg_cmp_eq _ _).mp (by first | assumption | exact Decidable.not_not.mp (by assumption)))] at hK; exact hK)
  · refine a_aload_n d_M_isWord_8 rfl rfl ?_
    refine m_get d_M_isWord_9 f_M_166 rfl ?_
    refine a_aload_n d_M_isWord_12 rfl rfl ?_
    refine a_callS 4 85 [_] _ d_M_isWord_13 l_M_197 is_M_named rfl rfl (Nat.le_of_ble_eq_true rfl) ⟨Nat.le_of_ble_eq_true rfl, Nat.le_of_ble_eq_true rfl⟩ ?_
    refine sp_M_named hj hg ?_
    refine a_lcmp d_M_isWord_16 ?_
    refine a_if_ne (tgt := 24) d_M_isWord_17 (by decide) (fun c_2 => ?_) (fun c_2 => ?_)
    · refine a_iconst (v := 0) d_M_isWord_24 (by decide) ?_
      refine a_ireturn d_M_isWord_25 rfl rfl ?_
      first | (rw [mW, if_neg (by assumption)] at hK; exact hK) | (rw [mW, if_pos (by first | assumption | exact Decidable.not_not.mp (by assumption)), if_neg (fun e => absurd ((lg_cmp_eq _ _).mpr e) (by assumption))] at hK; exact hK) | (rw [mW, if_pos (by first | assumption | exact Decidable.not_not.mp (by assumption)), if_pos ((lg_cmp_eq _ _).mp (by first | assumption | exact Decidable.not_not.mp (by assumption)))] at hK; exact hK)
    · refine a_iconst (v := 1) d_M_isWord_20 (by decide) ?_
      refine a_goto (tgt := 25) d_M_isWord_21 (by decide) ?_
      refine a_ireturn d_M_isWord_25 rfl rfl ?_
      first | (rw [mW, if_neg (by assumption)] at hK; exact hK) | (rw [mW, if_pos (by first | assumption | exact Decidable.not_not.mp (by assumption)), if_neg (fun e => absurd ((lg_cmp_eq _ _).mpr e) (by assumption))] at hK; exact hK) | (rw [mW, if_pos (by first | assumption | exact Decidable.not_not.mp (by assumption)), if_pos ((lg_cmp_eq _ _).mp (by first | assumption | exact Decidable.not_not.mp (by assumption)))] at hK; exact hK)

theorem jG : ∀ j, j < 49 → 37 ≤ j → gdL (jS j) := by
  intro j h1 h2 c hc
  have : ∀ j, j < 49 → 37 ≤ j → ∀ c ∈ jS j, 97 ≤ c ∧ c ≤ 122 := by decide +kernel
  exact this j h1 h2 c hc
def mR (x : aX) : Int32 := orF [mW x 37, mW x 38, mW x 39, mW x 40, mW x 41, mW x 42, mW x 43, mW x 44, mW x 45, mW x 46, mW x 47, mW x 48]
set_option maxHeartbeats 1000000 in
set_option maxRecDepth 100000 in
theorem sp_M_isReserved (hK : K (some (.int (mR x))) (mk σ0 m x)) : a_C G m_M_isReserved 6 129 [.ref m] (mk σ0 m x) K := by
  refine a_enter rfl (Nat.le_of_ble_eq_true rfl) ?_
  refine a_aload_n d_M_isReserved_0 rfl rfl ?_
  refine a_ldcS 37 d_M_isReserved_1 (by decide) rfl rfl ?_
  apply a_callV (ci := 7) 5 108 [_] _ d_M_isReserved_3 l_M_203 ⟨im_M_isWord, se_M_isWord⟩ rfl rfl rfl rfl (Nat.le_of_ble_eq_true rfl) ⟨Nat.le_of_ble_eq_true rfl, Nat.le_of_ble_eq_true rfl⟩
  · (exact mk_O)
  refine sp_M_isWord (by decide) (jG _ (by decide) (by decide)) ?_
  refine a_if_ne (tgt := 108) d_M_isReserved_6 (by decide) (fun c_1 => ?_) (fun c_1 => ?_)
  · refine a_iconst (v := 1) d_M_isReserved_108 (by decide) ?_
    refine a_goto (tgt := 113) d_M_isReserved_109 (by decide) ?_
    refine a_ireturn d_M_isReserved_113 rfl rfl ?_
    first | (simp only [mR, orF, if_neg c_1, if_true] at hK; exact hK) | contradiction
  · refine a_aload_n d_M_isReserved_9 rfl rfl ?_
    refine a_ldcS 38 d_M_isReserved_10 (by decide) rfl rfl ?_
    apply a_callV (ci := 7) 5 108 [_] _ d_M_isReserved_12 l_M_203 ⟨im_M_isWord, se_M_isWord⟩ rfl rfl rfl rfl (Nat.le_of_ble_eq_true rfl) ⟨Nat.le_of_ble_eq_true rfl, Nat.le_of_ble_eq_true rfl⟩
    · (exact mk_O)
    refine sp_M_isWord (by decide) (jG _ (by decide) (by decide)) ?_
    refine a_if_ne (tgt := 108) d_M_isReserved_15 (by decide) (fun c_2 => ?_) (fun c_2 => ?_)
    · refine a_iconst (v := 1) d_M_isReserved_108 (by decide) ?_
      refine a_goto (tgt := 113) d_M_isReserved_109 (by decide) ?_
      refine a_ireturn d_M_isReserved_113 rfl rfl ?_
      first | (simp only [mR, orF, if_pos c_1, if_neg c_2, if_true] at hK; exact hK) | contradiction
    · refine a_aload_n d_M_isReserved_18 rfl rfl ?_
      refine a_ldcS 39 d_M_isReserved_19 (by decide) rfl rfl ?_
      apply a_callV (ci := 7) 5 108 [_] _ d_M_isReserved_21 l_M_203 ⟨im_M_isWord, se_M_isWord⟩ rfl rfl rfl rfl (Nat.le_of_ble_eq_true rfl) ⟨Nat.le_of_ble_eq_true rfl, Nat.le_of_ble_eq_true rfl⟩
      · (exact mk_O)
      refine sp_M_isWord (by decide) (jG _ (by decide) (by decide)) ?_
      refine a_if_ne (tgt := 108) d_M_isReserved_24 (by decide) (fun c_3 => ?_) (fun c_3 => ?_)
      · refine a_iconst (v := 1) d_M_isReserved_108 (by decide) ?_
        refine a_goto (tgt := 113) d_M_isReserved_109 (by decide) ?_
        refine a_ireturn d_M_isReserved_113 rfl rfl ?_
        first | (simp only [mR, orF, if_pos c_1, if_pos c_2, if_neg c_3, if_true] at hK; exact hK) | contradiction
      · refine a_aload_n d_M_isReserved_27 rfl rfl ?_
        refine a_ldcS 40 d_M_isReserved_28 (by decide) rfl rfl ?_
        apply a_callV (ci := 7) 5 108 [_] _ d_M_isReserved_30 l_M_203 ⟨im_M_isWord, se_M_isWord⟩ rfl rfl rfl rfl (Nat.le_of_ble_eq_true rfl) ⟨Nat.le_of_ble_eq_true rfl, Nat.le_of_ble_eq_true rfl⟩
        · (exact mk_O)
        refine sp_M_isWord (by decide) (jG _ (by decide) (by decide)) ?_
        refine a_if_ne (tgt := 108) d_M_isReserved_33 (by decide) (fun c_4 => ?_) (fun c_4 => ?_)
        · refine a_iconst (v := 1) d_M_isReserved_108 (by decide) ?_
          refine a_goto (tgt := 113) d_M_isReserved_109 (by decide) ?_
          refine a_ireturn d_M_isReserved_113 rfl rfl ?_
          first | (simp only [mR, orF, if_pos c_1, if_pos c_2, if_pos c_3, if_neg c_4, if_true] at hK; exact hK) | contradiction
        · refine a_aload_n d_M_isReserved_36 rfl rfl ?_
          refine a_ldcS 41 d_M_isReserved_37 (by decide) rfl rfl ?_
          apply a_callV (ci := 7) 5 108 [_] _ d_M_isReserved_39 l_M_203 ⟨im_M_isWord, se_M_isWord⟩ rfl rfl rfl rfl (Nat.le_of_ble_eq_true rfl) ⟨Nat.le_of_ble_eq_true rfl, Nat.le_of_ble_eq_true rfl⟩
          · (exact mk_O)
          refine sp_M_isWord (by decide) (jG _ (by decide) (by decide)) ?_
          refine a_if_ne (tgt := 108) d_M_isReserved_42 (by decide) (fun c_5 => ?_) (fun c_5 => ?_)
          · refine a_iconst (v := 1) d_M_isReserved_108 (by decide) ?_
            refine a_goto (tgt := 113) d_M_isReserved_109 (by decide) ?_
            refine a_ireturn d_M_isReserved_113 rfl rfl ?_
            first | (simp only [mR, orF, if_pos c_1, if_pos c_2, if_pos c_3, if_pos c_4, if_neg c_5, if_true] at hK; exact hK) | contradiction
          · refine a_aload_n d_M_isReserved_45 rfl rfl ?_
            refine a_ldcS 42 d_M_isReserved_46 (by decide) rfl rfl ?_
            apply a_callV (ci := 7) 5 108 [_] _ d_M_isReserved_48 l_M_203 ⟨im_M_isWord, se_M_isWord⟩ rfl rfl rfl rfl (Nat.le_of_ble_eq_true rfl) ⟨Nat.le_of_ble_eq_true rfl, Nat.le_of_ble_eq_true rfl⟩
            · (exact mk_O)
            refine sp_M_isWord (by decide) (jG _ (by decide) (by decide)) ?_
            refine a_if_ne (tgt := 108) d_M_isReserved_51 (by decide) (fun c_6 => ?_) (fun c_6 => ?_)
            · refine a_iconst (v := 1) d_M_isReserved_108 (by decide) ?_
              refine a_goto (tgt := 113) d_M_isReserved_109 (by decide) ?_
              refine a_ireturn d_M_isReserved_113 rfl rfl ?_
              first | (simp only [mR, orF, if_pos c_1, if_pos c_2, if_pos c_3, if_pos c_4, if_pos c_5, if_neg c_6, if_true] at hK; exact hK) | contradiction
            · refine a_aload_n d_M_isReserved_54 rfl rfl ?_
              refine a_ldcS 43 d_M_isReserved_55 (by decide) rfl rfl ?_
              apply a_callV (ci := 7) 5 108 [_] _ d_M_isReserved_57 l_M_203 ⟨im_M_isWord, se_M_isWord⟩ rfl rfl rfl rfl (Nat.le_of_ble_eq_true rfl) ⟨Nat.le_of_ble_eq_true rfl, Nat.le_of_ble_eq_true rfl⟩
              · (exact mk_O)
              refine sp_M_isWord (by decide) (jG _ (by decide) (by decide)) ?_
              refine a_if_ne (tgt := 108) d_M_isReserved_60 (by decide) (fun c_7 => ?_) (fun c_7 => ?_)
              · refine a_iconst (v := 1) d_M_isReserved_108 (by decide) ?_
                refine a_goto (tgt := 113) d_M_isReserved_109 (by decide) ?_
                refine a_ireturn d_M_isReserved_113 rfl rfl ?_
                first | (simp only [mR, orF, if_pos c_1, if_pos c_2, if_pos c_3, if_pos c_4, if_pos c_5, if_pos c_6, if_neg c_7, if_true] at hK; exact hK) | contradiction
              · refine a_aload_n d_M_isReserved_63 rfl rfl ?_
                refine a_ldcS 44 d_M_isReserved_64 (by decide) rfl rfl ?_
                apply a_callV (ci := 7) 5 108 [_] _ d_M_isReserved_66 l_M_203 ⟨im_M_isWord, se_M_isWord⟩ rfl rfl rfl rfl (Nat.le_of_ble_eq_true rfl) ⟨Nat.le_of_ble_eq_true rfl, Nat.le_of_ble_eq_true rfl⟩
                · (exact mk_O)
                refine sp_M_isWord (by decide) (jG _ (by decide) (by decide)) ?_
                refine a_if_ne (tgt := 108) d_M_isReserved_69 (by decide) (fun c_8 => ?_) (fun c_8 => ?_)
                · refine a_iconst (v := 1) d_M_isReserved_108 (by decide) ?_
                  refine a_goto (tgt := 113) d_M_isReserved_109 (by decide) ?_
                  refine a_ireturn d_M_isReserved_113 rfl rfl ?_
                  first | (simp only [mR, orF, if_pos c_1, if_pos c_2, if_pos c_3, if_pos c_4, if_pos c_5, if_pos c_6, if_pos c_7, if_neg c_8, if_true] at hK; exact hK) | contradiction
                · refine a_aload_n d_M_isReserved_72 rfl rfl ?_
                  refine a_ldcS 45 d_M_isReserved_73 (by decide) rfl rfl ?_
                  apply a_callV (ci := 7) 5 108 [_] _ d_M_isReserved_75 l_M_203 ⟨im_M_isWord, se_M_isWord⟩ rfl rfl rfl rfl (Nat.le_of_ble_eq_true rfl) ⟨Nat.le_of_ble_eq_true rfl, Nat.le_of_ble_eq_true rfl⟩
                  · (exact mk_O)
                  refine sp_M_isWord (by decide) (jG _ (by decide) (by decide)) ?_
                  refine a_if_ne (tgt := 108) d_M_isReserved_78 (by decide) (fun c_9 => ?_) (fun c_9 => ?_)
                  · refine a_iconst (v := 1) d_M_isReserved_108 (by decide) ?_
                    refine a_goto (tgt := 113) d_M_isReserved_109 (by decide) ?_
                    refine a_ireturn d_M_isReserved_113 rfl rfl ?_
                    first | (simp only [mR, orF, if_pos c_1, if_pos c_2, if_pos c_3, if_pos c_4, if_pos c_5, if_pos c_6, if_pos c_7, if_pos c_8, if_neg c_9, if_true] at hK; exact hK) | contradiction
                  · refine a_aload_n d_M_isReserved_81 rfl rfl ?_
                    refine a_ldcS 46 d_M_isReserved_82 (by decide) rfl rfl ?_
                    apply a_callV (ci := 7) 5 108 [_] _ d_M_isReserved_84 l_M_203 ⟨im_M_isWord, se_M_isWord⟩ rfl rfl rfl rfl (Nat.le_of_ble_eq_true rfl) ⟨Nat.le_of_ble_eq_true rfl, Nat.le_of_ble_eq_true rfl⟩
                    · (exact mk_O)
                    refine sp_M_isWord (by decide) (jG _ (by decide) (by decide)) ?_
                    refine a_if_ne (tgt := 108) d_M_isReserved_87 (by decide) (fun c_10 => ?_) (fun c_10 => ?_)
                    · refine a_iconst (v := 1) d_M_isReserved_108 (by decide) ?_
                      refine a_goto (tgt := 113) d_M_isReserved_109 (by decide) ?_
                      refine a_ireturn d_M_isReserved_113 rfl rfl ?_
                      first | (simp only [mR, orF, if_pos c_1, if_pos c_2, if_pos c_3, if_pos c_4, if_pos c_5, if_pos c_6, if_pos c_7, if_pos c_8, if_pos c_9, if_neg c_10, if_true] at hK; exact hK) | contradiction
                    · refine a_aload_n d_M_isReserved_90 rfl rfl ?_
                      refine a_ldcS 47 d_M_isReserved_91 (by decide) rfl rfl ?_
                      apply a_callV (ci := 7) 5 108 [_] _ d_M_isReserved_93 l_M_203 ⟨im_M_isWord, se_M_isWord⟩ rfl rfl rfl rfl (Nat.le_of_ble_eq_true rfl) ⟨Nat.le_of_ble_eq_true rfl, Nat.le_of_ble_eq_true rfl⟩
                      · (exact mk_O)
                      refine sp_M_isWord (by decide) (jG _ (by decide) (by decide)) ?_
                      refine a_if_ne (tgt := 108) d_M_isReserved_96 (by decide) (fun c_11 => ?_) (fun c_11 => ?_)
                      · refine a_iconst (v := 1) d_M_isReserved_108 (by decide) ?_
                        refine a_goto (tgt := 113) d_M_isReserved_109 (by decide) ?_
                        refine a_ireturn d_M_isReserved_113 rfl rfl ?_
                        first | (simp only [mR, orF, if_pos c_1, if_pos c_2, if_pos c_3, if_pos c_4, if_pos c_5, if_pos c_6, if_pos c_7, if_pos c_8, if_pos c_9, if_pos c_10, if_neg c_11, if_true] at hK; exact hK) | contradiction
                      · refine a_aload_n d_M_isReserved_99 rfl rfl ?_
                        refine a_ldcS 48 d_M_isReserved_100 (by decide) rfl rfl ?_
                        apply a_callV (ci := 7) 5 108 [_] _ d_M_isReserved_102 l_M_203 ⟨im_M_isWord, se_M_isWord⟩ rfl rfl rfl rfl (Nat.le_of_ble_eq_true rfl) ⟨Nat.le_of_ble_eq_true rfl, Nat.le_of_ble_eq_true rfl⟩
                        · (exact mk_O)
                        refine sp_M_isWord (by decide) (jG _ (by decide) (by decide)) ?_
                        refine a_if_eq (tgt := 112) d_M_isReserved_105 (by decide) (fun c_12 => ?_) (fun c_12 => ?_)
                        · refine a_iconst (v := 0) d_M_isReserved_112 (by decide) ?_
                          refine a_ireturn d_M_isReserved_113 rfl rfl ?_
                          first | (simp only [mR, orF, if_pos c_1, if_pos c_2, if_pos c_3, if_pos c_4, if_pos c_5, if_pos c_6, if_pos c_7, if_pos c_8, if_pos c_9, if_pos c_10, if_pos c_11, if_pos c_12, if_true] at hK; exact hK) | contradiction
                        · refine a_iconst (v := 1) d_M_isReserved_108 (by decide) ?_
                          refine a_goto (tgt := 113) d_M_isReserved_109 (by decide) ?_
                          refine a_ireturn d_M_isReserved_113 rfl rfl ?_
                          first | (simp only [mR, orF, if_pos c_1, if_pos c_2, if_pos c_3, if_pos c_4, if_pos c_5, if_pos c_6, if_pos c_7, if_pos c_8, if_pos c_9, if_pos c_10, if_pos c_11, if_neg c_12, if_true] at hK; exact hK) | contradiction

set_option maxHeartbeats 1000000 in
set_option maxRecDepth 100000 in
theorem tl_M_must {b : Int32} (hK : K (some (.int (if x.1 24 = 0 then 1 else 0))) (mk σ0 m x)) : a_J G m_M_must 1 22 47 [(0, .ref m), (1, .int b)] [] (mk σ0 m x) K := by
  refine a_aload_n d_M_must_47 rfl rfl ?_
  refine m_get d_M_must_48 f_M_126 rfl ?_
  refine a_if_ne (tgt := 58) d_M_must_51 (by decide) (fun c_1 => ?_) (fun c_1 => ?_)
  · refine a_iconst (v := 0) d_M_must_58 (by decide) ?_
    refine a_ireturn d_M_must_59 rfl rfl ?_
    simp only [if_neg c_1, if_true] at hK
    exact hK
  · refine a_iconst (v := 1) d_M_must_54 (by decide) ?_
    refine a_goto (tgt := 59) d_M_must_55 (by decide) ?_
    refine a_ireturn d_M_must_59 rfl rfl ?_
    simp only [if_pos c_1, if_true] at hK
    exact hK

set_option maxHeartbeats 1000000 in
set_option maxRecDepth 100000 in
theorem sp_M_must {b : Int32} (hK : K (some (.int (if (muX x b).1 24 = 0 then 1 else 0))) (mk σ0 m (muX x b))) : a_C G m_M_must 1 22 [.ref m, .int b] (mk σ0 m x) K := by
  refine a_enter rfl (Nat.le_of_ble_eq_true rfl) ?_
  refine a_iload_n d_M_must_0 rfl rfl ?_
  refine a_if_ne (tgt := 47) d_M_must_1 (by decide) (fun c_1 => ?_) (fun c_1 => ?_)
  · refine a_lvk (tl_M_must ?_) ⟨rfl, rfl, trivial⟩
    first | (unfold muX at hK; simp only [if_neg c_1, if_true] at hK; first | exact hK | (simp only [if_neg c_1, if_true]; exact hK)) | (rw [muX_w x (by assumption) (by assumption)] at hK; simp only [if_neg c_1, if_true] at hK; exact hK) | contradiction
  · refine a_aload_n d_M_must_4 rfl rfl ?_
    refine m_get d_M_must_5 f_M_126 rfl ?_
    refine a_if_ne (tgt := 47) d_M_must_8 (by decide) (fun c_2 => ?_) (fun c_2 => ?_)
    · refine a_lvk (tl_M_must ?_) ⟨rfl, rfl, trivial⟩
      first | (unfold muX at hK; simp only [if_pos c_1, if_neg c_2, if_true] at hK; first | exact hK | (simp only [if_pos c_1, if_neg c_2, if_true]; exact hK)) | (rw [muX_w x (by assumption) (by assumption)] at hK; simp only [if_pos c_1, if_neg c_2, if_true] at hK; exact hK) | contradiction
    · refine a_aload_n d_M_must_11 rfl rfl ?_
      refine a_aload_n d_M_must_12 rfl rfl ?_
      refine m_get d_M_must_13 f_M_149 rfl ?_
      refine a_iconst (v := 4) d_M_must_16 (by decide) ?_
      refine a_icmp_ne (tgt := 24) d_M_must_17 (by decide) (fun c_3 => ?_) (fun c_3 => ?_)
      · refine a_iconst (v := 2) d_M_must_24 (by decide) ?_
        refine a_aload_n d_M_must_25 rfl rfl ?_
        refine m_get d_M_must_26 f_M_149 rfl ?_
        refine a_iconst (v := 4) d_M_must_29 (by decide) ?_
        refine a_icmp_ne (tgt := 40) d_M_must_30 (by decide) (fun c_4 => ?_) (fun c_4 => ?_)
        · refine a_aload_n d_M_must_40 rfl rfl ?_
          refine m_get d_M_must_41 f_M_146 rfl ?_
          apply a_callV (ci := 7) 0 0 [_, _] _ d_M_must_44 l_M_155 ⟨im_M_wrong, se_M_wrong⟩ rfl rfl rfl rfl (Nat.le_of_ble_eq_true rfl) ⟨Nat.le_of_ble_eq_true rfl, Nat.le_of_ble_eq_true rfl⟩
          · (exact mk_O)
          refine sp_M_wrong ?_
          refine a_lvk (tl_M_must ?_) ⟨rfl, rfl, trivial⟩
          first | (unfold muX at hK; simp only [if_pos c_1, if_pos c_2, if_neg c_3, if_neg c_4, if_true] at hK; first | exact hK | (simp only [if_pos c_1, if_pos c_2, if_neg c_3, if_neg c_4, if_true]; exact hK)) | (rw [muX_w x (by assumption) (by assumption)] at hK; simp only [if_pos c_1, if_pos c_2, if_neg c_3, if_neg c_4, if_true] at hK; exact hK) | contradiction
        · refine a_aload_n d_M_must_33 rfl rfl ?_
          refine m_get d_M_must_34 f_M_109 rfl ?_
          refine a_goto (tgt := 44) d_M_must_37 (by decide) ?_
          apply a_callV (ci := 7) 0 0 [_, _] _ d_M_must_44 l_M_155 ⟨im_M_wrong, se_M_wrong⟩ rfl rfl rfl rfl (Nat.le_of_ble_eq_true rfl) ⟨Nat.le_of_ble_eq_true rfl, Nat.le_of_ble_eq_true rfl⟩
          · (exact mk_O)
          refine sp_M_wrong ?_
          refine a_lvk (tl_M_must ?_) ⟨rfl, rfl, trivial⟩
          first | (unfold muX at hK; simp only [if_pos c_1, if_pos c_2, if_neg c_3, if_pos c_4, if_true] at hK; first | exact hK | (simp only [if_pos c_1, if_pos c_2, if_neg c_3, if_pos c_4, if_true]; exact hK)) | (rw [muX_w x (by assumption) (by assumption)] at hK; simp only [if_pos c_1, if_pos c_2, if_neg c_3, if_pos c_4, if_true] at hK; exact hK) | contradiction
      · refine a_iconst (v := 3) d_M_must_20 (by decide) ?_
        refine a_goto (tgt := 25) d_M_must_21 (by decide) ?_
        refine a_aload_n d_M_must_25 rfl rfl ?_
        refine m_get d_M_must_26 f_M_149 rfl ?_
        refine a_iconst (v := 4) d_M_must_29 (by decide) ?_
        refine a_icmp_ne (tgt := 40) d_M_must_30 (by decide) (fun c_5 => ?_) (fun c_5 => ?_)
        · refine a_aload_n d_M_must_40 rfl rfl ?_
          refine m_get d_M_must_41 f_M_146 rfl ?_
          apply a_callV (ci := 7) 0 0 [_, _] _ d_M_must_44 l_M_155 ⟨im_M_wrong, se_M_wrong⟩ rfl rfl rfl rfl (Nat.le_of_ble_eq_true rfl) ⟨Nat.le_of_ble_eq_true rfl, Nat.le_of_ble_eq_true rfl⟩
          · (exact mk_O)
          refine sp_M_wrong ?_
          refine a_lvk (tl_M_must ?_) ⟨rfl, rfl, trivial⟩
          first | (unfold muX at hK; simp only [if_pos c_1, if_pos c_2, if_pos c_3, if_neg c_5, if_true] at hK; first | exact hK | (simp only [if_pos c_1, if_pos c_2, if_pos c_3, if_neg c_5, if_true]; exact hK)) | (rw [muX_w x (by assumption) (by assumption)] at hK; simp only [if_pos c_1, if_pos c_2, if_pos c_3, if_neg c_5, if_true] at hK; exact hK) | contradiction
        · refine a_aload_n d_M_must_33 rfl rfl ?_
          refine m_get d_M_must_34 f_M_109 rfl ?_
          refine a_goto (tgt := 44) d_M_must_37 (by decide) ?_
          apply a_callV (ci := 7) 0 0 [_, _] _ d_M_must_44 l_M_155 ⟨im_M_wrong, se_M_wrong⟩ rfl rfl rfl rfl (Nat.le_of_ble_eq_true rfl) ⟨Nat.le_of_ble_eq_true rfl, Nat.le_of_ble_eq_true rfl⟩
          · (exact mk_O)
          refine sp_M_wrong ?_
          refine a_lvk (tl_M_must ?_) ⟨rfl, rfl, trivial⟩
          first | (unfold muX at hK; simp only [if_pos c_1, if_pos c_2, if_pos c_3, if_pos c_5, if_true] at hK; first | exact hK | (simp only [if_pos c_1, if_pos c_2, if_pos c_3, if_pos c_5, if_true]; exact hK)) | (rw [muX_w x (by assumption) (by assumption)] at hK; simp only [if_pos c_1, if_pos c_2, if_pos c_3, if_pos c_5, if_true] at hK; exact hK) | contradiction

end ModM6
