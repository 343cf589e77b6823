/-! THE JDK: texts -/
theorem w_value : Cond.fieldLink "java/lang/String" 9 "java/lang/String" "value" "[B" ∈ aTs := mt6 22 (by decide +kernel) rfl
theorem w_coder : Cond.fieldLink "java/lang/String" 15 "java/lang/String" "coder" "B" ∈ aTs := mt6 23 (by decide +kernel) rfl
theorem w_compact : Cond.fieldLink "java/lang/String" 38 "java/lang/String" "COMPACT_STRINGS" "Z" ∈ aTs := mt2 114 (by decide +kernel) rfl
theorem w_sioobe : Cond.fieldLink "java/lang/String" 1053 "jdk/internal/util/Preconditions" "SIOOBE_FORMATTER" "Ljava/util/function/BiFunction;" ∈ aTs := mt2 130 (by decide +kernel) rfl
theorem jS_all : ∀ l ∈ jSl, l.length < 16 ∧ ∀ c ∈ l, c < 128 := by decide +kernel
theorem jS_len {j : Nat} (hj : j < nJ) : (jS j).length < 16 := by
  have h : j < jSl.length := hj
  unfold jS
  rw [List.getD_eq_getElem?_getD, List.getElem?_eq_getElem h]
  exact (jS_all _ (List.getElem_mem h)).1
theorem jS_lt {j i : Nat} (hj : j < nJ) : (jS j).getD i 0 < 128 := by
  have h : j < jSl.length := hj
  have h2 : ∀ c ∈ jS j, c < 128 := by
    unfold jS
    rw [List.getD_eq_getElem?_getD, List.getElem?_eq_getElem h]
    exact (jS_all _ (List.getElem_mem h)).2
  by_cases hi : i < (jS j).length
  · rw [List.getD_eq_getElem?_getD, List.getElem?_eq_getElem hi]
    exact h2 _ (List.getElem_mem hi)
  · rw [List.getD_eq_getElem?_getD, List.getElem?_eq_none (Nat.not_lt.mp hi)]
    decide
theorem ch_ok {c : Nat} (h : c < 256) : ((nI c &&& 255).toUInt32 % 65536).toInt32 = nI c := by
  rw [nI_and255, Nat.mod_eq_of_lt h]
  exact (sb_byte c h).2.1
section ModJ
variable {G : aG} {σ : aS} {K : Option Value → aS → Prop}
set_option maxHeartbeats 4000000 in
set_option maxRecDepth 100000 in
theorem sp_Q_checkIndex {z : Option Nat} {i n : Nat} (hi : i < n) (hn : n < 2 ^ 31) (hK : K (some (.int (nI i))) σ) : a_C G m_Q_checkIndex 0 0 [.int (nI i), .int (nI n), va_rf z] σ K := by
  cases z with
  | none =>
    refine a_enter rfl (Nat.le_of_ble_eq_true rfl) ?_
    refine a_iload_n d_Q_checkIndex_0 rfl rfl ?_
    refine a_if_lt (tgt := 9) d_Q_checkIndex_1 (by decide) (fun n9 => absurd n9 (nI_pos (by omega))) (fun c_1 => ?_)
    refine a_iload_n d_Q_checkIndex_4 rfl rfl ?_
    refine a_iload_n d_Q_checkIndex_5 rfl rfl ?_
    refine a_icmp_lt (tgt := 16) d_Q_checkIndex_6 (by decide) (fun c_2 => ?_) (fun n9 => absurd (nI_lt hi hn) n9)
    refine a_iload_n d_Q_checkIndex_16 rfl rfl ?_
    refine a_ireturn d_Q_checkIndex_17 rfl rfl ?_
    exact hK
  | some t =>
    refine a_enter rfl (Nat.le_of_ble_eq_true rfl) ?_
    refine a_iload_n d_Q_checkIndex_0 rfl rfl ?_
    refine a_if_lt (tgt := 9) d_Q_checkIndex_1 (by decide) (fun n9 => absurd n9 (nI_pos (by omega))) (fun c_1 => ?_)
    refine a_iload_n d_Q_checkIndex_4 rfl rfl ?_
    refine a_iload_n d_Q_checkIndex_5 rfl rfl ?_
    refine a_icmp_lt (tgt := 16) d_Q_checkIndex_6 (by decide) (fun c_2 => ?_) (fun n9 => absurd (nI_lt hi hn) n9)
    refine a_iload_n d_Q_checkIndex_16 rfl rfl ?_
    refine a_ireturn d_Q_checkIndex_17 rfl rfl ?_
    exact hK

set_option maxHeartbeats 4000000 in
set_option maxRecDepth 100000 in
theorem sp_S_checkIndex {i n : Nat} (hi : i < n) (hn : n < 2 ^ 31) (hK : K none σ) : a_C G m_S_checkIndex 1 22 [.int (nI i), .int (nI n)] σ K := by
  refine a_enter rfl (Nat.le_of_ble_eq_true rfl) ?_
  refine a_iload_n d_S_checkIndex_0 rfl rfl ?_
  refine a_iload_n d_S_checkIndex_1 rfl rfl ?_
  refine a_getsF d_S_checkIndex_2 w_sioobe ?_
  refine a_callS 0 0 [_, _, _] _ d_S_checkIndex_5 l_S_1059 is_Q_checkIndex rfl rfl (Nat.le_of_ble_eq_true rfl) ⟨Nat.le_of_ble_eq_true rfl, Nat.le_of_ble_eq_true rfl⟩ ?_
  refine sp_Q_checkIndex hi hn ?_
  refine a_pop d_S_checkIndex_8 rfl ?_
  refine a_return d_S_checkIndex_9 rfl ?_
  exact hK

set_option maxHeartbeats 4000000 in
set_option maxRecDepth 100000 in
theorem sp_SL_charAt {i j : Nat} (hj : j < nJ) (hi : i < (jS j).length) (hK : K (some (.int (nI ((jS j).getD i 0)))) σ) : a_C G m_SL_charAt 2 43 [.ref (G.2.2.2.2.2.1 j), .int (nI i)] σ K := by
  have hl := jS_len hj
  refine a_enter rfl (Nat.le_of_ble_eq_true rfl) ?_
  refine a_iload_n d_SL_charAt_0 rfl rfl ?_
  refine a_aload_n d_SL_charAt_1 rfl rfl ?_
  refine a_slenB d_SL_charAt_2 hj ?_
  refine a_callS 1 22 [_, _] _ d_SL_charAt_3 l_SL_9 is_S_checkIndex rfl rfl (Nat.le_of_ble_eq_true rfl) ⟨Nat.le_of_ble_eq_true rfl, Nat.le_of_ble_eq_true rfl⟩ ?_
  refine sp_S_checkIndex hi (by omega) ?_
  refine a_aload_n d_SL_charAt_6 rfl rfl ?_
  refine a_iload_n d_SL_charAt_7 rfl rfl ?_
  refine a_sbyte d_SL_charAt_8 hj (vp_in_nI hi (by omega)) ?_
  refine a_sipush (v := 255) d_SL_charAt_9 (by decide) ?_
  refine a_iand d_SL_charAt_12 ?_
  refine a_i2c d_SL_charAt_13 ?_
  have hc := jS_lt (i := i) hj
  rw [nI_clamp (by omega), ch_ok (by omega)]
  exact a_ireturn d_SL_charAt_14 rfl (pk_charN (by omega)).1 hK

set_option maxHeartbeats 4000000 in
set_option maxRecDepth 100000 in
theorem sp_S_charAt {i j : Nat} (hj : j < nJ) (hi : i < (jS j).length) (hK : K (some (.int (nI ((jS j).getD i 0)))) σ) : a_C G m_S_charAt 3 64 [.ref (G.2.2.2.2.1 j), .int (nI i)] σ K := by
  have hl := jS_len hj
  refine a_enter rfl (Nat.le_of_ble_eq_true rfl) ?_
  refine a_aload_n d_S_charAt_0 rfl rfl ?_
  refine a_callVS 0 0 [] _ d_S_charAt_1 l_S_492 ⟨im_S_isLatin1, se_S_isLatin1⟩ rfl rfl rfl (Nat.le_of_ble_eq_true rfl) ⟨Nat.le_of_ble_eq_true rfl, Nat.le_of_ble_eq_true rfl⟩ hj ?_
  refine a_enter rfl (Nat.le_of_ble_eq_true rfl) ?_
  refine a_getsC d_S_isLatin1_0 w_compact ?_
  refine a_if_eq (tgt := 17) d_S_isLatin1_3 (by decide) (fun n9 => absurd n9 (by decide)) (fun c_1 => ?_)
  refine a_aload_n d_S_isLatin1_6 rfl rfl ?_
  refine a_scod d_S_isLatin1_7 hj w_coder ?_
  refine a_if_ne (tgt := 17) d_S_isLatin1_10 (by decide) (fun n9 => absurd (by decide) n9) (fun c_2 => ?_)
  refine a_iconst (v := 1) d_S_isLatin1_13 (by decide) ?_
  refine a_goto (tgt := 18) d_S_isLatin1_14 (by decide) ?_
  refine a_ireturn d_S_isLatin1_18 rfl (by first | rfl | assumption) ?_
  refine a_if_eq (tgt := 16) d_S_charAt_4 (by decide) (fun n9 => absurd n9 (by decide)) (fun c_3 => ?_)
  refine a_aload_n d_S_charAt_7 rfl rfl ?_
  refine a_sval d_S_charAt_8 hj w_value ?_
  refine a_iload_n d_S_charAt_11 rfl rfl ?_
  refine a_callS 2 43 [_, _] _ d_S_charAt_12 l_S_495 is_SL_charAt rfl rfl (Nat.le_of_ble_eq_true rfl) ⟨Nat.le_of_ble_eq_true rfl, Nat.le_of_ble_eq_true rfl⟩ ?_
  refine sp_SL_charAt hj hi ?_
  have hc := jS_lt (i := i) hj
  exact a_ireturn d_S_charAt_15 rfl (pk_charN (by omega)).1 hK

set_option maxHeartbeats 4000000 in
set_option maxRecDepth 100000 in
theorem sp_S_length {j : Nat} (hj : j < nJ) (hK : K (some (.int (nI (jS j).length))) σ) : a_C G m_S_length 1 20 [.ref (G.2.2.2.2.1 j)] σ K := by
  have hl := jS_len hj
  refine a_enter rfl (Nat.le_of_ble_eq_true rfl) ?_
  refine a_aload_n d_S_length_0 rfl rfl ?_
  refine a_sval d_S_length_1 hj w_value ?_
  refine a_slenB d_S_length_4 hj ?_
  refine a_aload_n d_S_length_5 rfl rfl ?_
  refine a_callVS 0 0 [] _ d_S_length_6 l_S_335 ⟨im_S_coder, se_S_coder⟩ rfl rfl rfl (Nat.le_of_ble_eq_true rfl) ⟨Nat.le_of_ble_eq_true rfl, Nat.le_of_ble_eq_true rfl⟩ hj ?_
  refine a_enter rfl (Nat.le_of_ble_eq_true rfl) ?_
  refine a_getsC d_S_coder_0 w_compact ?_
  refine a_if_eq (tgt := 13) d_S_coder_3 (by decide) (fun n9 => absurd n9 (by decide)) (fun c_1 => ?_)
  refine a_aload_n d_S_coder_6 rfl rfl ?_
  refine a_scod d_S_coder_7 hj w_coder ?_
  refine a_goto (tgt := 14) d_S_coder_10 (by decide) ?_
  refine a_ireturn d_S_coder_14 rfl (by first | rfl | assumption) ?_
  refine a_ishr d_S_length_9 ?_
  rw [sb_shr0]
  exact a_ireturn d_S_length_10 rfl rfl hK

end ModJ
