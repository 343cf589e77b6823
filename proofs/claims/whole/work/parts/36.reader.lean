/-! READER: an object r, its tokens r + 1, its places r + 2 (of tests, tp) and r + 3 (of goals, gp); rf: its fields by their numbers -/
def RO (σ : aS) (r p : Nat) (rf : Nat → Int32) (tp gp : Nat → Int32) : Prop := σ.2.2 r = some (.inr (4, [.ref (r + 1), .ref (r + 2), .ref (r + 3), .ref p, .int (rf 4), .int (rf 5), .int (rf 6), .int (rf 7), .int (rf 8), .int (rf 9), .int (rf 10), .int (rf 11), .int (rf 12), .int (rf 13), .int (rf 14)])) ∧ σ.2.2 (r + 2) = some (.inl (.int, 864, .inl tp)) ∧ σ.2.2 (r + 3) = some (.inl (.int, 216, .inl gp))
section ModR
variable {G : aG} {σ : aS} {K : Option Value → aS → Prop} {r p : Nat} {rf tp gp : Nat → Int32}
set_option maxHeartbeats 4000000 in
set_option maxRecDepth 100000 in
theorem sp_R_latestFault (hR : RO σ r p rf tp gp) (hK : K (some (.int (rf 4))) σ) : a_C G m_R_latestFault 0 0 [.ref r] σ K := by
  obtain ⟨hR0, hR1, hR2⟩ := id hR
  refine a_enter rfl (Nat.le_of_ble_eq_true rfl) ?_
  refine a_aload_n d_R_latestFault_0 rfl rfl ?_
  apply a_getfield d_R_latestFault_1 f_R_33
  · (repeat (first | with_reducible assumption | with_reducible exact a_us | with_reducible exact a_ns | refine a_un (by first | with_reducible assumption | omega) ?_ | refine a_nn (by first | with_reducible assumption | omega | (simp only [a_upd_1, a_new_1]; omega)) ?_ | exact a_us | exact a_ns))
  · rfl
  exact a_ireturn d_R_latestFault_4 rfl rfl hK

set_option maxHeartbeats 4000000 in
set_option maxRecDepth 100000 in
theorem sp_R_latestPlace (hR : RO σ r p rf tp gp) (hK : K (some (.int (rf 5))) σ) : a_C G m_R_latestPlace 0 0 [.ref r] σ K := by
  obtain ⟨hR0, hR1, hR2⟩ := id hR
  refine a_enter rfl (Nat.le_of_ble_eq_true rfl) ?_
  refine a_aload_n d_R_latestPlace_0 rfl rfl ?_
  apply a_getfield d_R_latestPlace_1 f_R_37
  · (repeat (first | with_reducible assumption | with_reducible exact a_us | with_reducible exact a_ns | refine a_un (by first | with_reducible assumption | omega) ?_ | refine a_nn (by first | with_reducible assumption | omega | (simp only [a_upd_1, a_new_1]; omega)) ?_ | exact a_us | exact a_ns))
  · rfl
  exact a_ireturn d_R_latestPlace_4 rfl rfl hK

set_option maxHeartbeats 4000000 in
set_option maxRecDepth 100000 in
theorem sp_R_fail {a b : Int32} (hR : RO σ r p rf tp gp) (hK : ∀ τ, a_fr σ τ r (r + 1) → RO τ r p (upd (upd rf 4 a) 5 b) tp gp → K none τ) : a_C G m_R_fail 0 0 [.ref r, .int a, .int b] σ K := by
  obtain ⟨hR0, hR1, hR2⟩ := id hR
  refine a_enter rfl (Nat.le_of_ble_eq_true rfl) ?_
  refine a_aload_n d_R_fail_0 rfl rfl ?_
  refine a_iload_n d_R_fail_1 rfl rfl ?_
  apply a_putfield d_R_fail_2 p_R_33
  · (repeat (first | with_reducible assumption | with_reducible exact a_us | with_reducible exact a_ns | refine a_un (by first | with_reducible assumption | omega) ?_ | refine a_nn (by first | with_reducible assumption | omega | (simp only [a_upd_1, a_new_1]; omega)) ?_ | exact a_us | exact a_ns))
  · first | rfl | assumption
  · first | rfl | assumption
  · exact Nat.le_of_ble_eq_true rfl
  refine a_aload_n d_R_fail_5 rfl rfl ?_
  refine a_iload_n d_R_fail_6 rfl rfl ?_
  apply a_putfield d_R_fail_7 p_R_37
  · (repeat (first | with_reducible assumption | with_reducible exact a_us | with_reducible exact a_ns | refine a_un (by first | with_reducible assumption | omega) ?_ | refine a_nn (by first | with_reducible assumption | omega | (simp only [a_upd_1, a_new_1]; omega)) ?_ | exact a_us | exact a_ns))
  · first | rfl | assumption
  · first | rfl | assumption
  · exact Nat.le_of_ble_eq_true rfl
  refine a_return d_R_fail_10 rfl ?_
  exact hK _ ((a_fr.rf.upd (Nat.le_refl r) (Nat.lt_succ_self r)).upd (Nat.le_refl r) (Nat.lt_succ_self r)) ⟨a_us, a_un (by omega) (a_un (by omega) hR1), a_un (by omega) (a_un (by omega) hR2)⟩

def ftF (k : aT) : Int32 := if (if k.2.1 = 5 then (1 : Int32) else 0) = 0 then (if (if k.2.1 = 0 then (1 : Int32) else 0) = 0 then 2 else 3) else 1
set_option maxHeartbeats 4000000 in
set_option maxRecDepth 100000 in
theorem sp_R_faultOfToken {b : Nat} {k : aT} (hR : RO σ r p rf tp gp) (hT : TO σ (r + 1) b k) (hK : K (some (.int (ftF k))) σ) : a_C G m_R_faultOfToken 1 21 [.ref r] σ K := by
  obtain ⟨hR0, hR1, hR2⟩ := id hR
  have hT0 : σ.2.2 (r + 1) = some (.inr (5, [.ref b, .int (nI k.1), .int k.2.1, .int (nI k.2.2.1), .long k.2.2.2.1, .int k.2.2.2.2])) := hT
  refine a_enter rfl (Nat.le_of_ble_eq_true rfl) ?_
  refine a_aload_n d_R_faultOfToken_0 rfl rfl ?_
  apply a_getfield d_R_faultOfToken_1 f_R_14
  · (repeat (first | with_reducible assumption | with_reducible exact a_us | with_reducible exact a_ns | refine a_un (by first | with_reducible assumption | omega) ?_ | refine a_nn (by first | with_reducible assumption | omega | (simp only [a_upd_1, a_new_1]; omega)) ?_ | exact a_us | exact a_ns))
  · rfl
  refine a_iconst (v := 5) d_R_faultOfToken_4 (by decide) ?_
  apply a_callV (ci := 5) 0 0 [_] _ d_R_faultOfToken_5 l_R_74 ⟨im_T_isA, se_T_isA⟩ rfl rfl rfl rfl (Nat.le_of_ble_eq_true rfl) ⟨Nat.le_of_ble_eq_true rfl, Nat.le_of_ble_eq_true rfl⟩
  · (repeat (first | with_reducible assumption | with_reducible exact a_us | with_reducible exact a_ns | refine a_un (by first | with_reducible assumption | omega) ?_ | refine a_nn (by first | with_reducible assumption | omega | (simp only [a_upd_1, a_new_1]; omega)) ?_ | exact a_us | exact a_ns))
  refine sp_T_isA hT ?_
  refine a_if_eq (tgt := 13) d_R_faultOfToken_8 (by decide) (fun c_1 => ?_) (fun c_1 => ?_)
  · refine a_aload_n d_R_faultOfToken_13 rfl rfl ?_
    apply a_getfield d_R_faultOfToken_14 f_R_14
    · (repeat (first | with_reducible assumption | with_reducible exact a_us | with_reducible exact a_ns | refine a_un (by first | with_reducible assumption | omega) ?_ | refine a_nn (by first | with_reducible assumption | omega | (simp only [a_upd_1, a_new_1]; omega)) ?_ | exact a_us | exact a_ns))
    · rfl
    refine a_iconst (v := 0) d_R_faultOfToken_17 (by decide) ?_
    apply a_callV (ci := 5) 0 0 [_] _ d_R_faultOfToken_18 l_R_74 ⟨im_T_isA, se_T_isA⟩ rfl rfl rfl rfl (Nat.le_of_ble_eq_true rfl) ⟨Nat.le_of_ble_eq_true rfl, Nat.le_of_ble_eq_true rfl⟩
    · (repeat (first | with_reducible assumption | with_reducible exact a_us | with_reducible exact a_ns | refine a_un (by first | with_reducible assumption | omega) ?_ | refine a_nn (by first | with_reducible assumption | omega | (simp only [a_upd_1, a_new_1]; omega)) ?_ | exact a_us | exact a_ns))
    refine sp_T_isA hT ?_
    refine a_if_eq (tgt := 28) d_R_faultOfToken_21 (by decide) (fun c_2 => ?_) (fun c_2 => ?_)
    · refine a_iconst (v := 2) d_R_faultOfToken_28 (by decide) ?_
      refine a_ireturn d_R_faultOfToken_29 rfl rfl ?_
      first | (simp only [ftF, if_pos c_1, if_pos c_2, if_true] at hK; exact hK) | contradiction
    · refine a_iconst (v := 3) d_R_faultOfToken_24 (by decide) ?_
      refine a_goto (tgt := 29) d_R_faultOfToken_25 (by decide) ?_
      refine a_ireturn d_R_faultOfToken_29 rfl rfl ?_
      first | (simp only [ftF, if_pos c_1, if_neg c_2, if_true] at hK; exact hK) | contradiction
  · refine a_iconst (v := 1) d_R_faultOfToken_11 (by decide) ?_
    refine a_ireturn d_R_faultOfToken_12 rfl rfl ?_
    first | (simp only [ftF, if_neg c_1, if_true] at hK; exact hK) | contradiction

end ModR
