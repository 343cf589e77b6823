/-! READER: the takes that add clauses and tests -/
section ModR3
variable {G : aG} {σ0 τ : aS} {K : Option Value → aS → Prop} {r b p cap n : Nat} {f : Nat → Nat} {k k' : aT} {q q' : aP} {rf rf' tp tp' gp gp' : Nat → Int32}
def tkCa0 (n : Nat) (f : Nat → Nat) (k : aT) (q : aP) (rf tp gp : Nat → Int32) (kk c : Nat) : Int32 × aP × (Nat → Int32) × (Nat → Int32) × (Nat → Int32) := if isw n f k 17 = 0 then (if (if k.2.1 = 4 then (if k.2.2.2.2 < 0 then (0 : Int32) else if 15 < k.2.2.2.2 then 0 else 1) else 0) = 0 then (-1, q, rf, tp, gp) else (9, (q.1, q.2.1, updA (updA (updA (updA q.2.2 4 kk (nI (c + 1))) 8 (kk * 4 + c) k.2.2.2.2) 9 (kk * 4 + c) (rf 8)) 10 (kk * 4 + c) 0), upd rf 7 (nI (kk * 4 + c)), tp, gp)) else (9, (q.1, q.2.1, updA (updA (updA (updA q.2.2 4 kk (nI (c + 1))) 8 (kk * 4 + c) 16) 9 (kk * 4 + c) (rf 8)) 10 (kk * 4 + c) 0), upd rf 7 (nI (kk * 4 + c)), tp, gp)
set_option maxHeartbeats 4000000 in
set_option maxRecDepth 100000 in
theorem sp_R_takeCall0 {kk c : Nat} (hw : rf 6 = 0) (hn : q.1.1 = kk + 1) (hct : q.2.2 4 kk = nI c) (hc : c < 4) (hd : b + 2 ≤ p ∧ p + 11 ≤ r) (hB : BY σ0 b cap n f) (hq : PI q) (hK : K (some (.int (tkCa0 n f k q rf tp gp kk c).1)) (rs σ0 r b p k (tkCa0 n f k q rf tp gp kk c).2.1 (tkCa0 n f k q rf tp gp kk c).2.2.1 (tkCa0 n f k q rf tp gp kk c).2.2.2.1 (tkCa0 n f k q rf tp gp kk c).2.2.2.2)) : a_C G m_R_takeCall 5 107 [.ref r] (rs σ0 r b p k q rf tp gp) K := by
  refine a_enter rfl (Nat.le_of_ble_eq_true rfl) ?_
  refine a_aload_n d_R_takeCall_0 rfl rfl ?_
  apply a_getfield d_R_takeCall_1 f_R_14
  · first | exact rsR | exact rsT | exact rsTp | exact rsGp | exact rsP0 hd.2
  · rfl
  refine a_ldcS 17 d_R_takeCall_4 (by decide) rfl rfl ?_
  apply a_callV (ci := 5) 4 85 [_] _ d_R_takeCall_6 l_R_131 ⟨im_T_isWord, se_T_isWord⟩ rfl rfl rfl rfl (Nat.le_of_ble_eq_true rfl) ⟨Nat.le_of_ble_eq_true rfl, Nat.le_of_ble_eq_true rfl⟩
  · (first | exact rsR | exact rsT | exact rsTp | exact rsGp | exact rsP0 hd.2)
  refine sp_T_isWord (by decide) (rsB hd.2 hd.1 hB) rsT ?_
  refine a_istore_n d_R_takeCall_9 rfl (by decide) ?_
  refine a_iload_n d_R_takeCall_10 rfl rfl ?_
  refine a_if_ne (tgt := 29) d_R_takeCall_11 (by decide) (fun c_1 => ?_) (fun c_1 => ?_)
  · refine a_aload_n d_R_takeCall_29 rfl rfl ?_
    refine a_aload_n d_R_takeCall_30 rfl rfl ?_
    apply a_getfield d_R_takeCall_31 f_R_29
    · first | exact rsR | exact rsT | exact rsTp | exact rsGp | exact rsP0 hd.2
    · rfl
    refine a_aload_n d_R_takeCall_34 rfl rfl ?_
    apply a_getfield d_R_takeCall_35 f_R_149
    · first | exact rsR | exact rsT | exact rsTp | exact rsGp | exact rsP0 hd.2
    · rfl
    refine a_iload_n d_R_takeCall_38 rfl rfl ?_
    refine a_if_eq (tgt := 47) d_R_takeCall_39 (by decide) (fun c_2 => ?_) (fun c_2 => ?_)
    · refine a_aload_n d_R_takeCall_47 rfl rfl ?_
      apply a_getfield d_R_takeCall_48 f_R_14
      · first | exact rsR | exact rsT | exact rsTp | exact rsGp | exact rsP0 hd.2
      · rfl
      apply a_callV (ci := 5) 0 0 [] _ d_R_takeCall_51 l_R_161 ⟨im_T_number, se_T_number⟩ rfl rfl rfl rfl (Nat.le_of_ble_eq_true rfl) ⟨Nat.le_of_ble_eq_true rfl, Nat.le_of_ble_eq_true rfl⟩
      · (first | exact rsR | exact rsT | exact rsTp | exact rsGp | exact rsP0 hd.2)
      refine sp_T_number rsT ?_
      refine a_aload_n d_R_takeCall_54 rfl rfl ?_
      apply a_getfield d_R_takeCall_55 f_R_171
      · first | exact rsR | exact rsT | exact rsTp | exact rsGp | exact rsP0 hd.2
      · rfl
      apply a_callV (ci := 2) 2 46 [_, _, _] _ d_R_takeCall_58 l_R_182 ⟨im_P_addClause, se_P_addClause⟩ rfl rfl rfl rfl (Nat.le_of_ble_eq_true rfl) ⟨Nat.le_of_ble_eq_true rfl, Nat.le_of_ble_eq_true rfl⟩
      · (first | exact rsR | exact rsT | exact rsTp | exact rsGp | exact rsP0 hd.2)
      rw [hw]
      refine sp_P_addClause0 (rsP hd.2 hq) hn hct hc (fun τ hf hP => ?_)
      obtain rfl := rs_P hd.2 hf hP
      refine a_putR (upd rf 7 (nI (kk * 4 + c))) d_R_takeCall_61 p_R_40 rfl rfl rfl (by decide) ?_
      refine a_bipush (v := 9) d_R_takeCall_64 (by decide) ?_
      refine a_ireturn d_R_takeCall_66 rfl rfl ?_
      first | (simp only [tkCa0, if_neg c_1, if_pos c_2, if_true] at hK; exact hK) | contradiction | (exfalso; revert hK; simp_all [upd]; done)
    · refine a_bipush (v := 16) d_R_takeCall_42 (by decide) ?_
      refine a_goto (tgt := 54) d_R_takeCall_44 (by decide) ?_
      refine a_aload_n d_R_takeCall_54 rfl rfl ?_
      apply a_getfield d_R_takeCall_55 f_R_171
      · first | exact rsR | exact rsT | exact rsTp | exact rsGp | exact rsP0 hd.2
      · rfl
      apply a_callV (ci := 2) 2 46 [_, _, _] _ d_R_takeCall_58 l_R_182 ⟨im_P_addClause, se_P_addClause⟩ rfl rfl rfl rfl (Nat.le_of_ble_eq_true rfl) ⟨Nat.le_of_ble_eq_true rfl, Nat.le_of_ble_eq_true rfl⟩
      · (first | exact rsR | exact rsT | exact rsTp | exact rsGp | exact rsP0 hd.2)
      rw [hw]
      refine sp_P_addClause0 (rsP hd.2 hq) hn hct hc (fun τ hf hP => ?_)
      obtain rfl := rs_P hd.2 hf hP
      refine a_putR (upd rf 7 (nI (kk * 4 + c))) d_R_takeCall_61 p_R_40 rfl rfl rfl (by decide) ?_
      refine a_bipush (v := 9) d_R_takeCall_64 (by decide) ?_
      refine a_ireturn d_R_takeCall_66 rfl rfl ?_
      first | (simp only [tkCa0, if_neg c_1, if_neg c_2, if_true] at hK; exact hK) | contradiction | (exfalso; revert hK; simp_all [upd]; done)
  · refine a_aload_n d_R_takeCall_14 rfl rfl ?_
    apply a_getfield d_R_takeCall_15 f_R_14
    · first | exact rsR | exact rsT | exact rsTp | exact rsGp | exact rsP0 hd.2
    · rfl
    refine a_iconst (v := 0) d_R_takeCall_18 (by decide) ?_
    refine a_bipush (v := 15) d_R_takeCall_19 (by decide) ?_
    apply a_callV (ci := 5) 0 0 [_, _] _ d_R_takeCall_21 l_R_157 ⟨im_T_isNumber, se_T_isNumber⟩ rfl rfl rfl rfl (Nat.le_of_ble_eq_true rfl) ⟨Nat.le_of_ble_eq_true rfl, Nat.le_of_ble_eq_true rfl⟩
    · (first | exact rsR | exact rsT | exact rsTp | exact rsGp | exact rsP0 hd.2)
    refine sp_T_isNumber rsT ?_
    refine a_if_ne (tgt := 29) d_R_takeCall_24 (by decide) (fun c_3 => ?_) (fun c_3 => ?_)
    · refine a_aload_n d_R_takeCall_29 rfl rfl ?_
      refine a_aload_n d_R_takeCall_30 rfl rfl ?_
      apply a_getfield d_R_takeCall_31 f_R_29
      · first | exact rsR | exact rsT | exact rsTp | exact rsGp | exact rsP0 hd.2
      · rfl
      refine a_aload_n d_R_takeCall_34 rfl rfl ?_
      apply a_getfield d_R_takeCall_35 f_R_149
      · first | exact rsR | exact rsT | exact rsTp | exact rsGp | exact rsP0 hd.2
      · rfl
      refine a_iload_n d_R_takeCall_38 rfl rfl ?_
      refine a_if_eq (tgt := 47) d_R_takeCall_39 (by decide) (fun c_4 => ?_) (fun c_4 => ?_)
      · refine a_aload_n d_R_takeCall_47 rfl rfl ?_
        apply a_getfield d_R_takeCall_48 f_R_14
        · first | exact rsR | exact rsT | exact rsTp | exact rsGp | exact rsP0 hd.2
        · rfl
        apply a_callV (ci := 5) 0 0 [] _ d_R_takeCall_51 l_R_161 ⟨im_T_number, se_T_number⟩ rfl rfl rfl rfl (Nat.le_of_ble_eq_true rfl) ⟨Nat.le_of_ble_eq_true rfl, Nat.le_of_ble_eq_true rfl⟩
        · (first | exact rsR | exact rsT | exact rsTp | exact rsGp | exact rsP0 hd.2)
        refine sp_T_number rsT ?_
        refine a_aload_n d_R_takeCall_54 rfl rfl ?_
        apply a_getfield d_R_takeCall_55 f_R_171
        · first | exact rsR | exact rsT | exact rsTp | exact rsGp | exact rsP0 hd.2
        · rfl
        apply a_callV (ci := 2) 2 46 [_, _, _] _ d_R_takeCall_58 l_R_182 ⟨im_P_addClause, se_P_addClause⟩ rfl rfl rfl rfl (Nat.le_of_ble_eq_true rfl) ⟨Nat.le_of_ble_eq_true rfl, Nat.le_of_ble_eq_true rfl⟩
        · (first | exact rsR | exact rsT | exact rsTp | exact rsGp | exact rsP0 hd.2)
        rw [hw]
        refine sp_P_addClause0 (rsP hd.2 hq) hn hct hc (fun τ hf hP => ?_)
        obtain rfl := rs_P hd.2 hf hP
        refine a_putR (upd rf 7 (nI (kk * 4 + c))) d_R_takeCall_61 p_R_40 rfl rfl rfl (by decide) ?_
        refine a_bipush (v := 9) d_R_takeCall_64 (by decide) ?_
        refine a_ireturn d_R_takeCall_66 rfl rfl ?_
        first | (simp only [tkCa0, if_pos c_1, if_neg c_3, if_pos c_4, if_true] at hK; exact hK) | contradiction | (exfalso; revert hK; simp_all [upd]; done)
      · refine a_bipush (v := 16) d_R_takeCall_42 (by decide) ?_
        refine a_goto (tgt := 54) d_R_takeCall_44 (by decide) ?_
        refine a_aload_n d_R_takeCall_54 rfl rfl ?_
        apply a_getfield d_R_takeCall_55 f_R_171
        · first | exact rsR | exact rsT | exact rsTp | exact rsGp | exact rsP0 hd.2
        · rfl
        apply a_callV (ci := 2) 2 46 [_, _, _] _ d_R_takeCall_58 l_R_182 ⟨im_P_addClause, se_P_addClause⟩ rfl rfl rfl rfl (Nat.le_of_ble_eq_true rfl) ⟨Nat.le_of_ble_eq_true rfl, Nat.le_of_ble_eq_true rfl⟩
        · (first | exact rsR | exact rsT | exact rsTp | exact rsGp | exact rsP0 hd.2)
        rw [hw]
        refine sp_P_addClause0 (rsP hd.2 hq) hn hct hc (fun τ hf hP => ?_)
        obtain rfl := rs_P hd.2 hf hP
        refine a_putR (upd rf 7 (nI (kk * 4 + c))) d_R_takeCall_61 p_R_40 rfl rfl rfl (by decide) ?_
        refine a_bipush (v := 9) d_R_takeCall_64 (by decide) ?_
        refine a_ireturn d_R_takeCall_66 rfl rfl ?_
        first | (simp only [tkCa0, if_pos c_1, if_neg c_3, if_neg c_4, if_true] at hK; exact hK) | contradiction | (exfalso; revert hK; simp_all [upd]; done)
    · refine a_iconst (v := (-1)) d_R_takeCall_27 (by decide) ?_
      refine a_ireturn d_R_takeCall_28 rfl rfl ?_
      first | (simp only [tkCa0, if_pos c_1, if_pos c_3, if_true] at hK; exact hK) | contradiction | (exfalso; revert hK; simp_all [upd]; done)

def tkCa1 (n : Nat) (f : Nat → Nat) (k : aT) (q : aP) (rf tp gp : Nat → Int32) (kk c : Nat) : Int32 × aP × (Nat → Int32) × (Nat → Int32) × (Nat → Int32) := if isw n f k 17 = 0 then (if (if k.2.1 = 4 then (if k.2.2.2.2 < 0 then (0 : Int32) else if 15 < k.2.2.2.2 then 0 else 1) else 0) = 0 then (-1, q, rf, tp, gp) else (9, (q.1, q.2.1, updA (updA (updA (updA q.2.2 4 (6 + kk) (nI (c + 1))) 8 (24 + kk * 8 + c) k.2.2.2.2) 9 (24 + kk * 8 + c) (rf 8)) 10 (24 + kk * 8 + c) 0), upd rf 7 (nI (24 + kk * 8 + c)), tp, gp)) else (9, (q.1, q.2.1, updA (updA (updA (updA q.2.2 4 (6 + kk) (nI (c + 1))) 8 (24 + kk * 8 + c) 16) 9 (24 + kk * 8 + c) (rf 8)) 10 (24 + kk * 8 + c) 0), upd rf 7 (nI (24 + kk * 8 + c)), tp, gp)
set_option maxHeartbeats 4000000 in
set_option maxRecDepth 100000 in
theorem sp_R_takeCall1 {kk c : Nat} (hw : ¬ rf 6 = 0) (hn : q.1.2.1 = kk + 1) (hct : q.2.2 4 (6 + kk) = nI c) (hc : c < 8) (hd : b + 2 ≤ p ∧ p + 11 ≤ r) (hB : BY σ0 b cap n f) (hq : PI q) (hK : K (some (.int (tkCa1 n f k q rf tp gp kk c).1)) (rs σ0 r b p k (tkCa1 n f k q rf tp gp kk c).2.1 (tkCa1 n f k q rf tp gp kk c).2.2.1 (tkCa1 n f k q rf tp gp kk c).2.2.2.1 (tkCa1 n f k q rf tp gp kk c).2.2.2.2)) : a_C G m_R_takeCall 5 107 [.ref r] (rs σ0 r b p k q rf tp gp) K := by
  refine a_enter rfl (Nat.le_of_ble_eq_true rfl) ?_
  refine a_aload_n d_R_takeCall_0 rfl rfl ?_
  apply a_getfield d_R_takeCall_1 f_R_14
  · first | exact rsR | exact rsT | exact rsTp | exact rsGp | exact rsP0 hd.2
  · rfl
  refine a_ldcS 17 d_R_takeCall_4 (by decide) rfl rfl ?_
  apply a_callV (ci := 5) 4 85 [_] _ d_R_takeCall_6 l_R_131 ⟨im_T_isWord, se_T_isWord⟩ rfl rfl rfl rfl (Nat.le_of_ble_eq_true rfl) ⟨Nat.le_of_ble_eq_true rfl, Nat.le_of_ble_eq_true rfl⟩
  · (first | exact rsR | exact rsT | exact rsTp | exact rsGp | exact rsP0 hd.2)
  refine sp_T_isWord (by decide) (rsB hd.2 hd.1 hB) rsT ?_
  refine a_istore_n d_R_takeCall_9 rfl (by decide) ?_
  refine a_iload_n d_R_takeCall_10 rfl rfl ?_
  refine a_if_ne (tgt := 29) d_R_takeCall_11 (by decide) (fun c_1 => ?_) (fun c_1 => ?_)
  · refine a_aload_n d_R_takeCall_29 rfl rfl ?_
    refine a_aload_n d_R_takeCall_30 rfl rfl ?_
    apply a_getfield d_R_takeCall_31 f_R_29
    · first | exact rsR | exact rsT | exact rsTp | exact rsGp | exact rsP0 hd.2
    · rfl
    refine a_aload_n d_R_takeCall_34 rfl rfl ?_
    apply a_getfield d_R_takeCall_35 f_R_149
    · first | exact rsR | exact rsT | exact rsTp | exact rsGp | exact rsP0 hd.2
    · rfl
    refine a_iload_n d_R_takeCall_38 rfl rfl ?_
    refine a_if_eq (tgt := 47) d_R_takeCall_39 (by decide) (fun c_2 => ?_) (fun c_2 => ?_)
    · refine a_aload_n d_R_takeCall_47 rfl rfl ?_
      apply a_getfield d_R_takeCall_48 f_R_14
      · first | exact rsR | exact rsT | exact rsTp | exact rsGp | exact rsP0 hd.2
      · rfl
      apply a_callV (ci := 5) 0 0 [] _ d_R_takeCall_51 l_R_161 ⟨im_T_number, se_T_number⟩ rfl rfl rfl rfl (Nat.le_of_ble_eq_true rfl) ⟨Nat.le_of_ble_eq_true rfl, Nat.le_of_ble_eq_true rfl⟩
      · (first | exact rsR | exact rsT | exact rsTp | exact rsGp | exact rsP0 hd.2)
      refine sp_T_number rsT ?_
      refine a_aload_n d_R_takeCall_54 rfl rfl ?_
      apply a_getfield d_R_takeCall_55 f_R_171
      · first | exact rsR | exact rsT | exact rsTp | exact rsGp | exact rsP0 hd.2
      · rfl
      apply a_callV (ci := 2) 2 46 [_, _, _] _ d_R_takeCall_58 l_R_182 ⟨im_P_addClause, se_P_addClause⟩ rfl rfl rfl rfl (Nat.le_of_ble_eq_true rfl) ⟨Nat.le_of_ble_eq_true rfl, Nat.le_of_ble_eq_true rfl⟩
      · (first | exact rsR | exact rsT | exact rsTp | exact rsGp | exact rsP0 hd.2)
      refine sp_P_addClause1 hw (rsP hd.2 hq) hn hct hc (fun τ hf hP => ?_)
      obtain rfl := rs_P hd.2 hf hP
      refine a_putR (upd rf 7 (nI (24 + kk * 8 + c))) d_R_takeCall_61 p_R_40 rfl rfl rfl (by decide) ?_
      refine a_bipush (v := 9) d_R_takeCall_64 (by decide) ?_
      refine a_ireturn d_R_takeCall_66 rfl rfl ?_
      first | (simp only [tkCa1, if_neg c_1, if_pos c_2, if_true] at hK; exact hK) | contradiction | (exfalso; revert hK; simp_all [upd]; done)
    · refine a_bipush (v := 16) d_R_takeCall_42 (by decide) ?_
      refine a_goto (tgt := 54) d_R_takeCall_44 (by decide) ?_
      refine a_aload_n d_R_takeCall_54 rfl rfl ?_
      apply a_getfield d_R_takeCall_55 f_R_171
      · first | exact rsR | exact rsT | exact rsTp | exact rsGp | exact rsP0 hd.2
      · rfl
      apply a_callV (ci := 2) 2 46 [_, _, _] _ d_R_takeCall_58 l_R_182 ⟨im_P_addClause, se_P_addClause⟩ rfl rfl rfl rfl (Nat.le_of_ble_eq_true rfl) ⟨Nat.le_of_ble_eq_true rfl, Nat.le_of_ble_eq_true rfl⟩
      · (first | exact rsR | exact rsT | exact rsTp | exact rsGp | exact rsP0 hd.2)
      refine sp_P_addClause1 hw (rsP hd.2 hq) hn hct hc (fun τ hf hP => ?_)
      obtain rfl := rs_P hd.2 hf hP
      refine a_putR (upd rf 7 (nI (24 + kk * 8 + c))) d_R_takeCall_61 p_R_40 rfl rfl rfl (by decide) ?_
      refine a_bipush (v := 9) d_R_takeCall_64 (by decide) ?_
      refine a_ireturn d_R_takeCall_66 rfl rfl ?_
      first | (simp only [tkCa1, if_neg c_1, if_neg c_2, if_true] at hK; exact hK) | contradiction | (exfalso; revert hK; simp_all [upd]; done)
  · refine a_aload_n d_R_takeCall_14 rfl rfl ?_
    apply a_getfield d_R_takeCall_15 f_R_14
    · first | exact rsR | exact rsT | exact rsTp | exact rsGp | exact rsP0 hd.2
    · rfl
    refine a_iconst (v := 0) d_R_takeCall_18 (by decide) ?_
    refine a_bipush (v := 15) d_R_takeCall_19 (by decide) ?_
    apply a_callV (ci := 5) 0 0 [_, _] _ d_R_takeCall_21 l_R_157 ⟨im_T_isNumber, se_T_isNumber⟩ rfl rfl rfl rfl (Nat.le_of_ble_eq_true rfl) ⟨Nat.le_of_ble_eq_true rfl, Nat.le_of_ble_eq_true rfl⟩
    · (first | exact rsR | exact rsT | exact rsTp | exact rsGp | exact rsP0 hd.2)
    refine sp_T_isNumber rsT ?_
    refine a_if_ne (tgt := 29) d_R_takeCall_24 (by decide) (fun c_3 => ?_) (fun c_3 => ?_)
    · refine a_aload_n d_R_takeCall_29 rfl rfl ?_
      refine a_aload_n d_R_takeCall_30 rfl rfl ?_
      apply a_getfield d_R_takeCall_31 f_R_29
      · first | exact rsR | exact rsT | exact rsTp | exact rsGp | exact rsP0 hd.2
      · rfl
      refine a_aload_n d_R_takeCall_34 rfl rfl ?_
      apply a_getfield d_R_takeCall_35 f_R_149
      · first | exact rsR | exact rsT | exact rsTp | exact rsGp | exact rsP0 hd.2
      · rfl
      refine a_iload_n d_R_takeCall_38 rfl rfl ?_
      refine a_if_eq (tgt := 47) d_R_takeCall_39 (by decide) (fun c_4 => ?_) (fun c_4 => ?_)
      · refine a_aload_n d_R_takeCall_47 rfl rfl ?_
        apply a_getfield d_R_takeCall_48 f_R_14
        · first | exact rsR | exact rsT | exact rsTp | exact rsGp | exact rsP0 hd.2
        · rfl
        apply a_callV (ci := 5) 0 0 [] _ d_R_takeCall_51 l_R_161 ⟨im_T_number, se_T_number⟩ rfl rfl rfl rfl (Nat.le_of_ble_eq_true rfl) ⟨Nat.le_of_ble_eq_true rfl, Nat.le_of_ble_eq_true rfl⟩
        · (first | exact rsR | exact rsT | exact rsTp | exact rsGp | exact rsP0 hd.2)
        refine sp_T_number rsT ?_
        refine a_aload_n d_R_takeCall_54 rfl rfl ?_
        apply a_getfield d_R_takeCall_55 f_R_171
        · first | exact rsR | exact rsT | exact rsTp | exact rsGp | exact rsP0 hd.2
        · rfl
        apply a_callV (ci := 2) 2 46 [_, _, _] _ d_R_takeCall_58 l_R_182 ⟨im_P_addClause, se_P_addClause⟩ rfl rfl rfl rfl (Nat.le_of_ble_eq_true rfl) ⟨Nat.le_of_ble_eq_true rfl, Nat.le_of_ble_eq_true rfl⟩
        · (first | exact rsR | exact rsT | exact rsTp | exact rsGp | exact rsP0 hd.2)
        refine sp_P_addClause1 hw (rsP hd.2 hq) hn hct hc (fun τ hf hP => ?_)
        obtain rfl := rs_P hd.2 hf hP
        refine a_putR (upd rf 7 (nI (24 + kk * 8 + c))) d_R_takeCall_61 p_R_40 rfl rfl rfl (by decide) ?_
        refine a_bipush (v := 9) d_R_takeCall_64 (by decide) ?_
        refine a_ireturn d_R_takeCall_66 rfl rfl ?_
        first | (simp only [tkCa1, if_pos c_1, if_neg c_3, if_pos c_4, if_true] at hK; exact hK) | contradiction | (exfalso; revert hK; simp_all [upd]; done)
      · refine a_bipush (v := 16) d_R_takeCall_42 (by decide) ?_
        refine a_goto (tgt := 54) d_R_takeCall_44 (by decide) ?_
        refine a_aload_n d_R_takeCall_54 rfl rfl ?_
        apply a_getfield d_R_takeCall_55 f_R_171
        · first | exact rsR | exact rsT | exact rsTp | exact rsGp | exact rsP0 hd.2
        · rfl
        apply a_callV (ci := 2) 2 46 [_, _, _] _ d_R_takeCall_58 l_R_182 ⟨im_P_addClause, se_P_addClause⟩ rfl rfl rfl rfl (Nat.le_of_ble_eq_true rfl) ⟨Nat.le_of_ble_eq_true rfl, Nat.le_of_ble_eq_true rfl⟩
        · (first | exact rsR | exact rsT | exact rsTp | exact rsGp | exact rsP0 hd.2)
        refine sp_P_addClause1 hw (rsP hd.2 hq) hn hct hc (fun τ hf hP => ?_)
        obtain rfl := rs_P hd.2 hf hP
        refine a_putR (upd rf 7 (nI (24 + kk * 8 + c))) d_R_takeCall_61 p_R_40 rfl rfl rfl (by decide) ?_
        refine a_bipush (v := 9) d_R_takeCall_64 (by decide) ?_
        refine a_ireturn d_R_takeCall_66 rfl rfl ?_
        first | (simp only [tkCa1, if_pos c_1, if_neg c_3, if_neg c_4, if_true] at hK; exact hK) | contradiction | (exfalso; revert hK; simp_all [upd]; done)
    · refine a_iconst (v := (-1)) d_R_takeCall_27 (by decide) ?_
      refine a_ireturn d_R_takeCall_28 rfl rfl ?_
      first | (simp only [tkCa1, if_pos c_1, if_pos c_3, if_true] at hK; exact hK) | contradiction | (exfalso; revert hK; simp_all [upd]; done)

def tkTG (n : Nat) (f : Nat → Nat) (k : aT) (q : aP) (rf tp gp : Nat → Int32) (c : Nat) : Int32 × aP × (Nat → Int32) × (Nat → Int32) × (Nat → Int32) := if (if k.2.1 = 1 then (1 : Int32) else 0) = 0 then (if rf 6 = 0 then (if (if k.2.1 = 2 then (1 : Int32) else 0) = 0 then (-1, q, rf, tp, gp) else (6, q, rf, tp, gp)) else if frF n f k = 0 then (-1, q, rf, tp, gp) else (10, q, rf, tp, upd gp c (nI k.2.2.1))) else if cat q (nI c) = 0 then (if rf 6 = 0 then (if (if k.2.1 = 2 then (1 : Int32) else 0) = 0 then (-1, q, rf, tp, gp) else (6, q, rf, tp, gp)) else if frF n f k = 0 then (-1, q, rf, tp, gp) else (10, q, rf, tp, upd gp c (nI k.2.2.1))) else (11, q, upd rf 9 0, tp, gp)
set_option maxHeartbeats 4000000 in
set_option maxRecDepth 100000 in
theorem sp_R_takeTestOrGoal {c : Nat} (hc7 : rf 7 = nI c) (hc : c < 216) (hd : b + 2 ≤ p ∧ p + 11 ≤ r) (hB : BY σ0 b cap n f) (hq : PI q) (hK : K (some (.int (tkTG n f k q rf tp gp c).1)) (rs σ0 r b p k (tkTG n f k q rf tp gp c).2.1 (tkTG n f k q rf tp gp c).2.2.1 (tkTG n f k q rf tp gp c).2.2.2.1 (tkTG n f k q rf tp gp c).2.2.2.2)) : a_C G m_R_takeTestOrGoal 6 129 [.ref r] (rs σ0 r b p k q rf tp gp) K := by
  refine a_enter rfl (Nat.le_of_ble_eq_true rfl) ?_
  refine a_aload_n d_R_takeTestOrGoal_0 rfl rfl ?_
  apply a_getfield d_R_takeTestOrGoal_1 f_R_14
  · first | exact rsR | exact rsT | exact rsTp | exact rsGp | exact rsP0 hd.2
  · rfl
  refine a_iconst (v := 1) d_R_takeTestOrGoal_4 (by decide) ?_
  apply a_callV (ci := 5) 0 0 [_] _ d_R_takeTestOrGoal_5 l_R_74 ⟨im_T_isA, se_T_isA⟩ rfl rfl rfl rfl (Nat.le_of_ble_eq_true rfl) ⟨Nat.le_of_ble_eq_true rfl, Nat.le_of_ble_eq_true rfl⟩
  · (first | exact rsR | exact rsT | exact rsTp | exact rsGp | exact rsP0 hd.2)
  refine sp_T_isA rsT ?_
  refine a_if_eq (tgt := 33) d_R_takeTestOrGoal_8 (by decide) (fun c_1 => ?_) (fun c_1 => ?_)
  · refine a_aload_n d_R_takeTestOrGoal_33 rfl rfl ?_
    apply a_getfield d_R_takeTestOrGoal_34 f_R_149
    · first | exact rsR | exact rsT | exact rsTp | exact rsGp | exact rsP0 hd.2
    · rfl
    refine a_if_ne (tgt := 58) d_R_takeTestOrGoal_37 (by decide) (fun c_2 => ?_) (fun c_2 => ?_)
    · refine a_aload_n d_R_takeTestOrGoal_58 rfl rfl ?_
      apply a_getfield d_R_takeTestOrGoal_59 f_R_14
      · first | exact rsR | exact rsT | exact rsTp | exact rsGp | exact rsP0 hd.2
      · rfl
      apply a_callV (ci := 5) 5 107 [] _ d_R_takeTestOrGoal_62 l_R_137 ⟨im_T_isFreeName, se_T_isFreeName⟩ rfl rfl rfl rfl (Nat.le_of_ble_eq_true rfl) ⟨Nat.le_of_ble_eq_true rfl, Nat.le_of_ble_eq_true rfl⟩
      · (first | exact rsR | exact rsT | exact rsTp | exact rsGp | exact rsP0 hd.2)
      refine sp_T_isFreeName (rsB hd.2 hd.1 hB) rsT ?_
      refine a_if_ne (tgt := 70) d_R_takeTestOrGoal_65 (by decide) (fun c_3 => ?_) (fun c_3 => ?_)
      · refine a_aload_n d_R_takeTestOrGoal_70 rfl rfl ?_
        apply a_getfield d_R_takeTestOrGoal_71 f_R_26
        · first | exact rsR | exact rsT | exact rsTp | exact rsGp | exact rsP0 hd.2
        · rfl
        refine a_aload_n d_R_takeTestOrGoal_74 rfl rfl ?_
        apply a_getfield d_R_takeTestOrGoal_75 f_R_40
        · first | exact rsR | exact rsT | exact rsTp | exact rsGp | exact rsP0 hd.2
        · rfl
        refine a_aload_n d_R_takeTestOrGoal_78 rfl rfl ?_
        apply a_getfield d_R_takeTestOrGoal_79 f_R_14
        · first | exact rsR | exact rsT | exact rsTp | exact rsGp | exact rsP0 hd.2
        · rfl
        apply a_callV (ci := 5) 0 0 [] _ d_R_takeTestOrGoal_82 l_R_58 ⟨im_T_place, se_T_place⟩ rfl rfl rfl rfl (Nat.le_of_ble_eq_true rfl) ⟨Nat.le_of_ble_eq_true rfl, Nat.le_of_ble_eq_true rfl⟩
        · (first | exact rsR | exact rsT | exact rsTp | exact rsGp | exact rsP0 hd.2)
        refine sp_T_place rsT ?_
        refine a_callS 0 0 [_, _, _] _ d_R_takeTestOrGoal_85 l_R_192 is_R_keepPlace rfl rfl (Nat.le_of_ble_eq_true rfl) ⟨Nat.le_of_ble_eq_true rfl, Nat.le_of_ble_eq_true rfl⟩ ?_
        refine sp_R_keepPlace (by decide) rsGp (by rw [hc7]; exact vp_in_nI hc (by decide)) ?_
        rw [hc7, nI_clamp (by omega), rs_gp]
        refine a_bipush (v := 10) d_R_takeTestOrGoal_88 (by decide) ?_
        refine a_ireturn d_R_takeTestOrGoal_90 rfl rfl ?_
        first | (simp only [tkTG, if_pos c_1, if_neg c_2, if_neg c_3, if_true] at hK; exact hK) | contradiction | (exfalso; revert hK; simp_all [upd]; done)
      · refine a_iconst (v := (-1)) d_R_takeTestOrGoal_68 (by decide) ?_
        refine a_ireturn d_R_takeTestOrGoal_69 rfl rfl ?_
        first | (simp only [tkTG, if_pos c_1, if_neg c_2, if_pos c_3, if_true] at hK; exact hK) | contradiction | (exfalso; revert hK; simp_all [upd]; done)
    · refine a_aload_n d_R_takeTestOrGoal_40 rfl rfl ?_
      apply a_getfield d_R_takeTestOrGoal_41 f_R_14
      · first | exact rsR | exact rsT | exact rsTp | exact rsGp | exact rsP0 hd.2
      · rfl
      refine a_iconst (v := 2) d_R_takeTestOrGoal_44 (by decide) ?_
      apply a_callV (ci := 5) 0 0 [_] _ d_R_takeTestOrGoal_45 l_R_74 ⟨im_T_isA, se_T_isA⟩ rfl rfl rfl rfl (Nat.le_of_ble_eq_true rfl) ⟨Nat.le_of_ble_eq_true rfl, Nat.le_of_ble_eq_true rfl⟩
      · (first | exact rsR | exact rsT | exact rsTp | exact rsGp | exact rsP0 hd.2)
      refine sp_T_isA rsT ?_
      refine a_if_eq (tgt := 56) d_R_takeTestOrGoal_48 (by decide) (fun c_4 => ?_) (fun c_4 => ?_)
      · refine a_iconst (v := (-1)) d_R_takeTestOrGoal_56 (by decide) ?_
        refine a_ireturn d_R_takeTestOrGoal_57 rfl rfl ?_
        first | (simp only [tkTG, if_pos c_1, if_pos c_2, if_pos c_4, if_true] at hK; exact hK) | contradiction | (exfalso; revert hK; simp_all [upd]; done)
      · refine a_bipush (v := 6) d_R_takeTestOrGoal_51 (by decide) ?_
        refine a_goto (tgt := 57) d_R_takeTestOrGoal_53 (by decide) ?_
        refine a_ireturn d_R_takeTestOrGoal_57 rfl rfl ?_
        first | (simp only [tkTG, if_pos c_1, if_pos c_2, if_neg c_4, if_true] at hK; exact hK) | contradiction | (exfalso; revert hK; simp_all [upd]; done)
  · refine a_aload_n d_R_takeTestOrGoal_11 rfl rfl ?_
    apply a_getfield d_R_takeTestOrGoal_12 f_R_29
    · first | exact rsR | exact rsT | exact rsTp | exact rsGp | exact rsP0 hd.2
    · rfl
    refine a_aload_n d_R_takeTestOrGoal_15 rfl rfl ?_
    apply a_getfield d_R_takeTestOrGoal_16 f_R_40
    · first | exact rsR | exact rsT | exact rsTp | exact rsGp | exact rsP0 hd.2
    · rfl
    apply a_callV (ci := 2) 0 0 [_] _ d_R_takeTestOrGoal_19 l_R_186 ⟨im_P_canAddTest, se_P_canAddTest⟩ rfl rfl rfl rfl (Nat.le_of_ble_eq_true rfl) ⟨Nat.le_of_ble_eq_true rfl, Nat.le_of_ble_eq_true rfl⟩
    · (first | exact rsR | exact rsT | exact rsTp | exact rsGp | exact rsP0 hd.2)
    rw [hc7]
    refine sp_P_canAddTest (rsP hd.2 hq) ?_
    refine a_if_eq (tgt := 33) d_R_takeTestOrGoal_22 (by decide) (fun c_5 => ?_) (fun c_5 => ?_)
    · refine a_aload_n d_R_takeTestOrGoal_33 rfl rfl ?_
      apply a_getfield d_R_takeTestOrGoal_34 f_R_149
      · first | exact rsR | exact rsT | exact rsTp | exact rsGp | exact rsP0 hd.2
      · rfl
      refine a_if_ne (tgt := 58) d_R_takeTestOrGoal_37 (by decide) (fun c_6 => ?_) (fun c_6 => ?_)
      · refine a_aload_n d_R_takeTestOrGoal_58 rfl rfl ?_
        apply a_getfield d_R_takeTestOrGoal_59 f_R_14
        · first | exact rsR | exact rsT | exact rsTp | exact rsGp | exact rsP0 hd.2
        · rfl
        apply a_callV (ci := 5) 5 107 [] _ d_R_takeTestOrGoal_62 l_R_137 ⟨im_T_isFreeName, se_T_isFreeName⟩ rfl rfl rfl rfl (Nat.le_of_ble_eq_true rfl) ⟨Nat.le_of_ble_eq_true rfl, Nat.le_of_ble_eq_true rfl⟩
        · (first | exact rsR | exact rsT | exact rsTp | exact rsGp | exact rsP0 hd.2)
        refine sp_T_isFreeName (rsB hd.2 hd.1 hB) rsT ?_
        refine a_if_ne (tgt := 70) d_R_takeTestOrGoal_65 (by decide) (fun c_7 => ?_) (fun c_7 => ?_)
        · refine a_aload_n d_R_takeTestOrGoal_70 rfl rfl ?_
          apply a_getfield d_R_takeTestOrGoal_71 f_R_26
          · first | exact rsR | exact rsT | exact rsTp | exact rsGp | exact rsP0 hd.2
          · rfl
          refine a_aload_n d_R_takeTestOrGoal_74 rfl rfl ?_
          apply a_getfield d_R_takeTestOrGoal_75 f_R_40
          · first | exact rsR | exact rsT | exact rsTp | exact rsGp | exact rsP0 hd.2
          · rfl
          refine a_aload_n d_R_takeTestOrGoal_78 rfl rfl ?_
          apply a_getfield d_R_takeTestOrGoal_79 f_R_14
          · first | exact rsR | exact rsT | exact rsTp | exact rsGp | exact rsP0 hd.2
          · rfl
          apply a_callV (ci := 5) 0 0 [] _ d_R_takeTestOrGoal_82 l_R_58 ⟨im_T_place, se_T_place⟩ rfl rfl rfl rfl (Nat.le_of_ble_eq_true rfl) ⟨Nat.le_of_ble_eq_true rfl, Nat.le_of_ble_eq_true rfl⟩
          · (first | exact rsR | exact rsT | exact rsTp | exact rsGp | exact rsP0 hd.2)
          refine sp_T_place rsT ?_
          refine a_callS 0 0 [_, _, _] _ d_R_takeTestOrGoal_85 l_R_192 is_R_keepPlace rfl rfl (Nat.le_of_ble_eq_true rfl) ⟨Nat.le_of_ble_eq_true rfl, Nat.le_of_ble_eq_true rfl⟩ ?_
          refine sp_R_keepPlace (by decide) rsGp (by rw [hc7]; exact vp_in_nI hc (by decide)) ?_
          rw [hc7, nI_clamp (by omega), rs_gp]
          refine a_bipush (v := 10) d_R_takeTestOrGoal_88 (by decide) ?_
          refine a_ireturn d_R_takeTestOrGoal_90 rfl rfl ?_
          first | (simp only [tkTG, if_neg c_1, if_pos c_5, if_neg c_6, if_neg c_7, if_true] at hK; exact hK) | contradiction | (exfalso; revert hK; simp_all [upd]; done)
        · refine a_iconst (v := (-1)) d_R_takeTestOrGoal_68 (by decide) ?_
          refine a_ireturn d_R_takeTestOrGoal_69 rfl rfl ?_
          first | (simp only [tkTG, if_neg c_1, if_pos c_5, if_neg c_6, if_pos c_7, if_true] at hK; exact hK) | contradiction | (exfalso; revert hK; simp_all [upd]; done)
      · refine a_aload_n d_R_takeTestOrGoal_40 rfl rfl ?_
        apply a_getfield d_R_takeTestOrGoal_41 f_R_14
        · first | exact rsR | exact rsT | exact rsTp | exact rsGp | exact rsP0 hd.2
        · rfl
        refine a_iconst (v := 2) d_R_takeTestOrGoal_44 (by decide) ?_
        apply a_callV (ci := 5) 0 0 [_] _ d_R_takeTestOrGoal_45 l_R_74 ⟨im_T_isA, se_T_isA⟩ rfl rfl rfl rfl (Nat.le_of_ble_eq_true rfl) ⟨Nat.le_of_ble_eq_true rfl, Nat.le_of_ble_eq_true rfl⟩
        · (first | exact rsR | exact rsT | exact rsTp | exact rsGp | exact rsP0 hd.2)
        refine sp_T_isA rsT ?_
        refine a_if_eq (tgt := 56) d_R_takeTestOrGoal_48 (by decide) (fun c_8 => ?_) (fun c_8 => ?_)
        · refine a_iconst (v := (-1)) d_R_takeTestOrGoal_56 (by decide) ?_
          refine a_ireturn d_R_takeTestOrGoal_57 rfl rfl ?_
          first | (simp only [tkTG, if_neg c_1, if_pos c_5, if_pos c_6, if_pos c_8, if_true] at hK; exact hK) | contradiction | (exfalso; revert hK; simp_all [upd]; done)
        · refine a_bipush (v := 6) d_R_takeTestOrGoal_51 (by decide) ?_
          refine a_goto (tgt := 57) d_R_takeTestOrGoal_53 (by decide) ?_
          refine a_ireturn d_R_takeTestOrGoal_57 rfl rfl ?_
          first | (simp only [tkTG, if_neg c_1, if_pos c_5, if_pos c_6, if_neg c_8, if_true] at hK; exact hK) | contradiction | (exfalso; revert hK; simp_all [upd]; done)
    · refine a_aload_n d_R_takeTestOrGoal_25 rfl rfl ?_
      refine a_iconst (v := 0) d_R_takeTestOrGoal_26 (by decide) ?_
      refine a_putR (upd rf 9 0) d_R_takeTestOrGoal_27 p_R_189 rfl rfl rfl (by decide) ?_
      refine a_bipush (v := 11) d_R_takeTestOrGoal_30 (by decide) ?_
      refine a_ireturn d_R_takeTestOrGoal_32 rfl rfl ?_
      first | (simp only [tkTG, if_neg c_1, if_neg c_5, if_true] at hK; exact hK) | contradiction | (exfalso; revert hK; simp_all [upd]; done)

def tkTW (n : Nat) (f : Nat → Nat) (k : aT) (q : aP) (rf tp gp : Nat → Int32) : Int32 × aP × (Nat → Int32) × (Nat → Int32) × (Nat → Int32) := if isw n f k 18 = 0 then (if isw n f k 19 = 0 then (if isw n f k 20 = 0 then (-1, q, rf, tp, gp) else (14, q, rf, tp, gp)) else (13, q, rf, tp, gp)) else (12, q, upd rf 9 (rf 9 + 1), tp, gp)
set_option maxHeartbeats 4000000 in
set_option maxRecDepth 100000 in
theorem sp_R_takeTestWord (hd : b + 2 ≤ p ∧ p + 11 ≤ r) (hB : BY σ0 b cap n f) (hq : PI q) (hK : K (some (.int (tkTW n f k q rf tp gp).1)) (rs σ0 r b p k (tkTW n f k q rf tp gp).2.1 (tkTW n f k q rf tp gp).2.2.1 (tkTW n f k q rf tp gp).2.2.2.1 (tkTW n f k q rf tp gp).2.2.2.2)) : a_C G m_R_takeTestWord 5 107 [.ref r] (rs σ0 r b p k q rf tp gp) K := by
  refine a_enter rfl (Nat.le_of_ble_eq_true rfl) ?_
  refine a_aload_n d_R_takeTestWord_0 rfl rfl ?_
  apply a_getfield d_R_takeTestWord_1 f_R_14
  · first | exact rsR | exact rsT | exact rsTp | exact rsGp | exact rsP0 hd.2
  · rfl
  refine a_ldcS 18 d_R_takeTestWord_4 (by decide) rfl rfl ?_
  apply a_callV (ci := 5) 4 85 [_] _ d_R_takeTestWord_6 l_R_131 ⟨im_T_isWord, se_T_isWord⟩ rfl rfl rfl rfl (Nat.le_of_ble_eq_true rfl) ⟨Nat.le_of_ble_eq_true rfl, Nat.le_of_ble_eq_true rfl⟩
  · (first | exact rsR | exact rsT | exact rsTp | exact rsGp | exact rsP0 hd.2)
  refine sp_T_isWord (by decide) (rsB hd.2 hd.1 hB) rsT ?_
  refine a_if_eq (tgt := 25) d_R_takeTestWord_9 (by decide) (fun c_1 => ?_) (fun c_1 => ?_)
  · refine a_aload_n d_R_takeTestWord_25 rfl rfl ?_
    apply a_getfield d_R_takeTestWord_26 f_R_14
    · first | exact rsR | exact rsT | exact rsTp | exact rsGp | exact rsP0 hd.2
    · rfl
    refine a_ldcS 19 d_R_takeTestWord_29 (by decide) rfl rfl ?_
    apply a_callV (ci := 5) 4 85 [_] _ d_R_takeTestWord_31 l_R_131 ⟨im_T_isWord, se_T_isWord⟩ rfl rfl rfl rfl (Nat.le_of_ble_eq_true rfl) ⟨Nat.le_of_ble_eq_true rfl, Nat.le_of_ble_eq_true rfl⟩
    · (first | exact rsR | exact rsT | exact rsTp | exact rsGp | exact rsP0 hd.2)
    refine sp_T_isWord (by decide) (rsB hd.2 hd.1 hB) rsT ?_
    refine a_if_eq (tgt := 40) d_R_takeTestWord_34 (by decide) (fun c_2 => ?_) (fun c_2 => ?_)
    · refine a_aload_n d_R_takeTestWord_40 rfl rfl ?_
      apply a_getfield d_R_takeTestWord_41 f_R_14
      · first | exact rsR | exact rsT | exact rsTp | exact rsGp | exact rsP0 hd.2
      · rfl
      refine a_ldcS 20 d_R_takeTestWord_44 (by decide) rfl rfl ?_
      apply a_callV (ci := 5) 4 85 [_] _ d_R_takeTestWord_46 l_R_131 ⟨im_T_isWord, se_T_isWord⟩ rfl rfl rfl rfl (Nat.le_of_ble_eq_true rfl) ⟨Nat.le_of_ble_eq_true rfl, Nat.le_of_ble_eq_true rfl⟩
      · (first | exact rsR | exact rsT | exact rsTp | exact rsGp | exact rsP0 hd.2)
      refine sp_T_isWord (by decide) (rsB hd.2 hd.1 hB) rsT ?_
      refine a_if_eq (tgt := 57) d_R_takeTestWord_49 (by decide) (fun c_3 => ?_) (fun c_3 => ?_)
      · refine a_iconst (v := (-1)) d_R_takeTestWord_57 (by decide) ?_
        refine a_ireturn d_R_takeTestWord_58 rfl rfl ?_
        first | (simp only [tkTW, if_pos c_1, if_pos c_2, if_pos c_3, if_true] at hK; exact hK) | contradiction | (exfalso; revert hK; simp_all [upd]; done)
      · refine a_bipush (v := 14) d_R_takeTestWord_52 (by decide) ?_
        refine a_goto (tgt := 58) d_R_takeTestWord_54 (by decide) ?_
        refine a_ireturn d_R_takeTestWord_58 rfl rfl ?_
        first | (simp only [tkTW, if_pos c_1, if_pos c_2, if_neg c_3, if_true] at hK; exact hK) | contradiction | (exfalso; revert hK; simp_all [upd]; done)
    · refine a_bipush (v := 13) d_R_takeTestWord_37 (by decide) ?_
      refine a_ireturn d_R_takeTestWord_39 rfl rfl ?_
      first | (simp only [tkTW, if_pos c_1, if_neg c_2, if_true] at hK; exact hK) | contradiction | (exfalso; revert hK; simp_all [upd]; done)
  · refine a_aload_n d_R_takeTestWord_12 rfl rfl ?_
    refine a_dup d_R_takeTestWord_13 rfl ?_
    apply a_getfield d_R_takeTestWord_14 f_R_189
    · first | exact rsR | exact rsT | exact rsTp | exact rsGp | exact rsP0 hd.2
    · rfl
    refine a_iconst (v := 1) d_R_takeTestWord_17 (by decide) ?_
    refine a_iadd d_R_takeTestWord_18 ?_
    refine a_putR (upd rf 9 (rf 9 + 1)) d_R_takeTestWord_19 p_R_189 rfl rfl rfl (by decide) ?_
    refine a_bipush (v := 12) d_R_takeTestWord_22 (by decide) ?_
    refine a_ireturn d_R_takeTestWord_24 rfl rfl ?_
    first | (simp only [tkTW, if_neg c_1, if_true] at hK; exact hK) | contradiction | (exfalso; revert hK; simp_all [upd]; done)

def tkAr (n : Nat) (f : Nat → Nat) (k : aT) (q : aP) (rf tp gp : Nat → Int32) : Int32 × aP × (Nat → Int32) × (Nat → Int32) × (Nat → Int32) := if (if k.2.1 = 4 then (if k.2.2.2.2 < 0 then (0 : Int32) else if 2 < k.2.2.2.2 then 0 else 1) else 0) = 0 then (-1, q, rf, tp, gp) else (15, q, upd (upd (upd rf 11 0) 12 k.2.2.2.2) 13 (nI k.2.2.1), tp, gp)
set_option maxHeartbeats 4000000 in
set_option maxRecDepth 100000 in
theorem sp_R_takeArgument (hd : b + 2 ≤ p ∧ p + 11 ≤ r) (hB : BY σ0 b cap n f) (hq : PI q) (hK : K (some (.int (tkAr n f k q rf tp gp).1)) (rs σ0 r b p k (tkAr n f k q rf tp gp).2.1 (tkAr n f k q rf tp gp).2.2.1 (tkAr n f k q rf tp gp).2.2.2.1 (tkAr n f k q rf tp gp).2.2.2.2)) : a_C G m_R_takeArgument 1 22 [.ref r] (rs σ0 r b p k q rf tp gp) K := by
  refine a_enter rfl (Nat.le_of_ble_eq_true rfl) ?_
  refine a_aload_n d_R_takeArgument_0 rfl rfl ?_
  apply a_getfield d_R_takeArgument_1 f_R_14
  · first | exact rsR | exact rsT | exact rsTp | exact rsGp | exact rsP0 hd.2
  · rfl
  refine a_iconst (v := 0) d_R_takeArgument_4 (by decide) ?_
  refine a_iconst (v := 2) d_R_takeArgument_5 (by decide) ?_
  apply a_callV (ci := 5) 0 0 [_, _] _ d_R_takeArgument_6 l_R_157 ⟨im_T_isNumber, se_T_isNumber⟩ rfl rfl rfl rfl (Nat.le_of_ble_eq_true rfl) ⟨Nat.le_of_ble_eq_true rfl, Nat.le_of_ble_eq_true rfl⟩
  · (first | exact rsR | exact rsT | exact rsTp | exact rsGp | exact rsP0 hd.2)
  refine sp_T_isNumber rsT ?_
  refine a_if_ne (tgt := 14) d_R_takeArgument_9 (by decide) (fun c_1 => ?_) (fun c_1 => ?_)
  · refine a_aload_n d_R_takeArgument_14 rfl rfl ?_
    refine a_iconst (v := 0) d_R_takeArgument_15 (by decide) ?_
    refine a_putR (upd rf 11 0) d_R_takeArgument_16 p_R_202 rfl rfl rfl (by decide) ?_
    refine a_aload_n d_R_takeArgument_19 rfl rfl ?_
    refine a_aload_n d_R_takeArgument_20 rfl rfl ?_
    apply a_getfield d_R_takeArgument_21 f_R_14
    · first | exact rsR | exact rsT | exact rsTp | exact rsGp | exact rsP0 hd.2
    · rfl
    apply a_callV (ci := 5) 0 0 [] _ d_R_takeArgument_24 l_R_161 ⟨im_T_number, se_T_number⟩ rfl rfl rfl rfl (Nat.le_of_ble_eq_true rfl) ⟨Nat.le_of_ble_eq_true rfl, Nat.le_of_ble_eq_true rfl⟩
    · (first | exact rsR | exact rsT | exact rsTp | exact rsGp | exact rsP0 hd.2)
    refine sp_T_number rsT ?_
    refine a_putR (upd (upd rf 11 0) 12 k.2.2.2.2) d_R_takeArgument_27 p_R_205 rfl rfl rfl (by decide) ?_
    refine a_aload_n d_R_takeArgument_30 rfl rfl ?_
    refine a_aload_n d_R_takeArgument_31 rfl rfl ?_
    apply a_getfield d_R_takeArgument_32 f_R_14
    · first | exact rsR | exact rsT | exact rsTp | exact rsGp | exact rsP0 hd.2
    · rfl
    apply a_callV (ci := 5) 0 0 [] _ d_R_takeArgument_35 l_R_58 ⟨im_T_place, se_T_place⟩ rfl rfl rfl rfl (Nat.le_of_ble_eq_true rfl) ⟨Nat.le_of_ble_eq_true rfl, Nat.le_of_ble_eq_true rfl⟩
    · (first | exact rsR | exact rsT | exact rsTp | exact rsGp | exact rsP0 hd.2)
    refine sp_T_place rsT ?_
    refine a_putR (upd (upd (upd rf 11 0) 12 k.2.2.2.2) 13 (nI k.2.2.1)) d_R_takeArgument_38 p_R_208 rfl rfl rfl (by decide) ?_
    refine a_bipush (v := 15) d_R_takeArgument_41 (by decide) ?_
    refine a_ireturn d_R_takeArgument_43 rfl rfl ?_
    first | (simp only [tkAr, if_neg c_1, if_true] at hK; exact hK) | contradiction | (exfalso; revert hK; simp_all [upd]; done)
  · refine a_iconst (v := (-1)) d_R_takeArgument_12 (by decide) ?_
    refine a_ireturn d_R_takeArgument_13 rfl rfl ?_
    first | (simp only [tkAr, if_pos c_1, if_true] at hK; exact hK) | contradiction | (exfalso; revert hK; simp_all [upd]; done)

def tkCo (n : Nat) (f : Nat → Nat) (k : aT) (q : aP) (rf tp gp : Nat → Int32) : Int32 × aP × (Nat → Int32) × (Nat → Int32) × (Nat → Int32) := if frF n f k = 0 then (-1, q, rf, tp, gp) else (15, q, upd (upd (upd rf 11 1) 12 0) 13 (nI k.2.2.1), tp, gp)
set_option maxHeartbeats 4000000 in
set_option maxRecDepth 100000 in
theorem sp_R_takeCounted (hd : b + 2 ≤ p ∧ p + 11 ≤ r) (hB : BY σ0 b cap n f) (hq : PI q) (hK : K (some (.int (tkCo n f k q rf tp gp).1)) (rs σ0 r b p k (tkCo n f k q rf tp gp).2.1 (tkCo n f k q rf tp gp).2.2.1 (tkCo n f k q rf tp gp).2.2.2.1 (tkCo n f k q rf tp gp).2.2.2.2)) : a_C G m_R_takeCounted 6 129 [.ref r] (rs σ0 r b p k q rf tp gp) K := by
  refine a_enter rfl (Nat.le_of_ble_eq_true rfl) ?_
  refine a_aload_n d_R_takeCounted_0 rfl rfl ?_
  apply a_getfield d_R_takeCounted_1 f_R_14
  · first | exact rsR | exact rsT | exact rsTp | exact rsGp | exact rsP0 hd.2
  · rfl
  apply a_callV (ci := 5) 5 107 [] _ d_R_takeCounted_4 l_R_137 ⟨im_T_isFreeName, se_T_isFreeName⟩ rfl rfl rfl rfl (Nat.le_of_ble_eq_true rfl) ⟨Nat.le_of_ble_eq_true rfl, Nat.le_of_ble_eq_true rfl⟩
  · (first | exact rsR | exact rsT | exact rsTp | exact rsGp | exact rsP0 hd.2)
  refine sp_T_isFreeName (rsB hd.2 hd.1 hB) rsT ?_
  refine a_if_ne (tgt := 12) d_R_takeCounted_7 (by decide) (fun c_1 => ?_) (fun c_1 => ?_)
  · refine a_aload_n d_R_takeCounted_12 rfl rfl ?_
    refine a_iconst (v := 1) d_R_takeCounted_13 (by decide) ?_
    refine a_putR (upd rf 11 1) d_R_takeCounted_14 p_R_202 rfl rfl rfl (by decide) ?_
    refine a_aload_n d_R_takeCounted_17 rfl rfl ?_
    refine a_iconst (v := 0) d_R_takeCounted_18 (by decide) ?_
    refine a_putR (upd (upd rf 11 1) 12 0) d_R_takeCounted_19 p_R_205 rfl rfl rfl (by decide) ?_
    refine a_aload_n d_R_takeCounted_22 rfl rfl ?_
    refine a_aload_n d_R_takeCounted_23 rfl rfl ?_
    apply a_getfield d_R_takeCounted_24 f_R_14
    · first | exact rsR | exact rsT | exact rsTp | exact rsGp | exact rsP0 hd.2
    · rfl
    apply a_callV (ci := 5) 0 0 [] _ d_R_takeCounted_27 l_R_58 ⟨im_T_place, se_T_place⟩ rfl rfl rfl rfl (Nat.le_of_ble_eq_true rfl) ⟨Nat.le_of_ble_eq_true rfl, Nat.le_of_ble_eq_true rfl⟩
    · (first | exact rsR | exact rsT | exact rsTp | exact rsGp | exact rsP0 hd.2)
    refine sp_T_place rsT ?_
    refine a_putR (upd (upd (upd rf 11 1) 12 0) 13 (nI k.2.2.1)) d_R_takeCounted_30 p_R_208 rfl rfl rfl (by decide) ?_
    refine a_bipush (v := 15) d_R_takeCounted_33 (by decide) ?_
    refine a_ireturn d_R_takeCounted_35 rfl rfl ?_
    first | (simp only [tkCo, if_neg c_1, if_true] at hK; exact hK) | contradiction | (exfalso; revert hK; simp_all [upd]; done)
  · refine a_iconst (v := (-1)) d_R_takeCounted_10 (by decide) ?_
    refine a_ireturn d_R_takeCounted_11 rfl rfl ?_
    first | (simp only [tkCo, if_pos c_1, if_true] at hK; exact hK) | contradiction | (exfalso; revert hK; simp_all [upd]; done)

def tkOp (n : Nat) (f : Nat → Nat) (k : aT) (q : aP) (rf tp gp : Nat → Int32) : Int32 × aP × (Nat → Int32) × (Nat → Int32) × (Nat → Int32) := if opF n f k = -1 then (-1, q, upd rf 14 (opF n f k), tp, gp) else (16, q, upd rf 14 (opF n f k), tp, gp)
set_option maxHeartbeats 4000000 in
set_option maxRecDepth 100000 in
theorem sp_R_takeOp (hd : b + 2 ≤ p ∧ p + 11 ≤ r) (hB : BY σ0 b cap n f) (hq : PI q) (hK : K (some (.int (tkOp n f k q rf tp gp).1)) (rs σ0 r b p k (tkOp n f k q rf tp gp).2.1 (tkOp n f k q rf tp gp).2.2.1 (tkOp n f k q rf tp gp).2.2.2.1 (tkOp n f k q rf tp gp).2.2.2.2)) : a_C G m_R_takeOp 6 127 [.ref r] (rs σ0 r b p k q rf tp gp) K := by
  refine a_enter rfl (Nat.le_of_ble_eq_true rfl) ?_
  refine a_aload_n d_R_takeOp_0 rfl rfl ?_
  refine a_aload_n d_R_takeOp_1 rfl rfl ?_
  apply a_getfield d_R_takeOp_2 f_R_14
  · first | exact rsR | exact rsT | exact rsTp | exact rsGp | exact rsP0 hd.2
  · rfl
  apply a_callV (ci := 5) 5 107 [] _ d_R_takeOp_5 l_R_211 ⟨im_T_opNumber, se_T_opNumber⟩ rfl rfl rfl rfl (Nat.le_of_ble_eq_true rfl) ⟨Nat.le_of_ble_eq_true rfl, Nat.le_of_ble_eq_true rfl⟩
  · (first | exact rsR | exact rsT | exact rsTp | exact rsGp | exact rsP0 hd.2)
  refine sp_T_opNumber (rsB hd.2 hd.1 hB) rsT ?_
  refine a_putR (upd rf 14 (opF n f k)) d_R_takeOp_8 p_R_214 rfl rfl rfl (by decide) ?_
  refine a_aload_n d_R_takeOp_11 rfl rfl ?_
  apply a_getfield d_R_takeOp_12 f_R_214
  · first | exact rsR | exact rsT | exact rsTp | exact rsGp | exact rsP0 hd.2
  · rfl
  rw [show upd rf 14 (opF n f k) 14 = opF n f k from rfl]
  refine a_iconst (v := (-1)) d_R_takeOp_15 (by decide) ?_
  refine a_icmp_ne (tgt := 23) d_R_takeOp_16 (by decide) (fun c_1 => ?_) (fun c_1 => ?_)
  · refine a_bipush (v := 16) d_R_takeOp_23 (by decide) ?_
    refine a_ireturn d_R_takeOp_25 rfl rfl ?_
    first | (simp only [tkOp, if_neg c_1, if_true] at hK; exact hK) | contradiction | (exfalso; revert hK; simp_all [upd]; done)
  · refine a_iconst (v := (-1)) d_R_takeOp_19 (by decide) ?_
    refine a_goto (tgt := 25) d_R_takeOp_20 (by decide) ?_
    refine a_ireturn d_R_takeOp_25 rfl rfl ?_
    first | (simp only [tkOp, if_pos c_1, if_true] at hK; exact hK) | contradiction | (exfalso; revert hK; simp_all [upd]; done)

def tkBo (n : Nat) (f : Nat → Nat) (k : aT) (q : aP) (rf tp gp : Nat → Int32) (c t : Nat) : Int32 × aP × (Nat → Int32) × (Nat → Int32) × (Nat → Int32) := if (if k.2.1 = 4 then (1 : Int32) else 0) = 0 then (-1, q, rf, tp, gp) else (17, ((q.1.1, q.1.2.1, q.1.2.2 + 1), q.2.1, updA (updA (updA q.2.2 11 (c * 4 + t) (shp (rf 11) (rf 12) (rf 14) (if rf 9 &&& 1 = 1 then 1 else 0))) 12 (c * 4 + t) k.2.2.2.2) 10 c (nI (t + 1))), upd rf 10 (rf 9 + 1), upd tp (c * 4 + t) (rf 13), gp)
set_option maxHeartbeats 4000000 in
set_option maxRecDepth 100000 in
theorem sp_R_takeBound {c t : Nat} (hc7 : rf 7 = nI c) (hc : c < 216) (hct : q.2.2 10 c = nI t) (ht : t < 4) (hd : b + 2 ≤ p ∧ p + 11 ≤ r) (hB : BY σ0 b cap n f) (hq : PI q) (hK : K (some (.int (tkBo n f k q rf tp gp c t).1)) (rs σ0 r b p k (tkBo n f k q rf tp gp c t).2.1 (tkBo n f k q rf tp gp c t).2.2.1 (tkBo n f k q rf tp gp c t).2.2.2.1 (tkBo n f k q rf tp gp c t).2.2.2.2)) : a_C G m_R_takeBound 2 45 [.ref r] (rs σ0 r b p k q rf tp gp) K := by
  refine a_enter rfl (Nat.le_of_ble_eq_true rfl) ?_
  refine a_aload_n d_R_takeBound_0 rfl rfl ?_
  apply a_getfield d_R_takeBound_1 f_R_14
  · first | exact rsR | exact rsT | exact rsTp | exact rsGp | exact rsP0 hd.2
  · rfl
  refine a_iconst (v := 4) d_R_takeBound_4 (by decide) ?_
  apply a_callV (ci := 5) 0 0 [_] _ d_R_takeBound_5 l_R_74 ⟨im_T_isA, se_T_isA⟩ rfl rfl rfl rfl (Nat.le_of_ble_eq_true rfl) ⟨Nat.le_of_ble_eq_true rfl, Nat.le_of_ble_eq_true rfl⟩
  · (first | exact rsR | exact rsT | exact rsTp | exact rsGp | exact rsP0 hd.2)
  refine sp_T_isA rsT ?_
  refine a_if_ne (tgt := 13) d_R_takeBound_8 (by decide) (fun c_1 => ?_) (fun c_1 => ?_)
  · refine a_aload_n d_R_takeBound_13 rfl rfl ?_
    apply a_getfield d_R_takeBound_14 f_R_202
    · first | exact rsR | exact rsT | exact rsTp | exact rsGp | exact rsP0 hd.2
    · rfl
    refine a_aload_n d_R_takeBound_17 rfl rfl ?_
    apply a_getfield d_R_takeBound_18 f_R_205
    · first | exact rsR | exact rsT | exact rsTp | exact rsGp | exact rsP0 hd.2
    · rfl
    refine a_aload_n d_R_takeBound_21 rfl rfl ?_
    apply a_getfield d_R_takeBound_22 f_R_214
    · first | exact rsR | exact rsT | exact rsTp | exact rsGp | exact rsP0 hd.2
    · rfl
    refine a_aload_n d_R_takeBound_25 rfl rfl ?_
    apply a_getfield d_R_takeBound_26 f_R_189
    · first | exact rsR | exact rsT | exact rsTp | exact rsGp | exact rsP0 hd.2
    · rfl
    refine a_iconst (v := 1) d_R_takeBound_29 (by decide) ?_
    refine a_iand d_R_takeBound_30 ?_
    refine a_iconst (v := 1) d_R_takeBound_31 (by decide) ?_
    refine a_icmp_ne (tgt := 39) d_R_takeBound_32 (by decide) (fun c_2 => ?_) (fun c_2 => ?_)
    · refine a_iconst (v := 0) d_R_takeBound_39 (by decide) ?_
      refine a_callS 0 0 [_, _, _, _] _ d_R_takeBound_40 l_R_217 is_P_shapeOf rfl rfl (Nat.le_of_ble_eq_true rfl) ⟨Nat.le_of_ble_eq_true rfl, Nat.le_of_ble_eq_true rfl⟩ ?_
      refine sp_P_shapeOf ?_
      refine a_istore_n d_R_takeBound_43 rfl (by decide) ?_
      refine a_aload_n d_R_takeBound_44 rfl rfl ?_
      apply a_getfield d_R_takeBound_45 f_R_29
      · first | exact rsR | exact rsT | exact rsTp | exact rsGp | exact rsP0 hd.2
      · rfl
      refine a_aload_n d_R_takeBound_48 rfl rfl ?_
      apply a_getfield d_R_takeBound_49 f_R_40
      · first | exact rsR | exact rsT | exact rsTp | exact rsGp | exact rsP0 hd.2
      · rfl
      refine a_iload_n d_R_takeBound_52 rfl rfl ?_
      refine a_aload_n d_R_takeBound_53 rfl rfl ?_
      apply a_getfield d_R_takeBound_54 f_R_14
      · first | exact rsR | exact rsT | exact rsTp | exact rsGp | exact rsP0 hd.2
      · rfl
      apply a_callV (ci := 5) 0 0 [] _ d_R_takeBound_57 l_R_161 ⟨im_T_number, se_T_number⟩ rfl rfl rfl rfl (Nat.le_of_ble_eq_true rfl) ⟨Nat.le_of_ble_eq_true rfl, Nat.le_of_ble_eq_true rfl⟩
      · (first | exact rsR | exact rsT | exact rsTp | exact rsGp | exact rsP0 hd.2)
      refine sp_T_number rsT ?_
      apply a_callV (ci := 2) 1 21 [_, _, _] _ d_R_takeBound_60 l_R_221 ⟨im_P_addTest, se_P_addTest⟩ rfl rfl rfl rfl (Nat.le_of_ble_eq_true rfl) ⟨Nat.le_of_ble_eq_true rfl, Nat.le_of_ble_eq_true rfl⟩
      · (first | exact rsR | exact rsT | exact rsTp | exact rsGp | exact rsP0 hd.2)
      rw [hc7]
      refine sp_P_addTest (rsP hd.2 hq) hc hct ht (fun τ hf hP => ?_)
      obtain rfl := rs_P hd.2 hf hP
      refine a_istore_n d_R_takeBound_63 rfl (by decide) ?_
      refine a_aload_n d_R_takeBound_64 rfl rfl ?_
      apply a_getfield d_R_takeBound_65 f_R_22
      · first | exact rsR | exact rsT | exact rsTp | exact rsGp | exact rsP0 hd.2
      · rfl
      refine a_iload_n d_R_takeBound_68 rfl rfl ?_
      refine a_aload_n d_R_takeBound_69 rfl rfl ?_
      apply a_getfield d_R_takeBound_70 f_R_208
      · first | exact rsR | exact rsT | exact rsTp | exact rsGp | exact rsP0 hd.2
      · rfl
      refine a_callS 0 0 [_, _, _] _ d_R_takeBound_73 l_R_192 is_R_keepPlace rfl rfl (Nat.le_of_ble_eq_true rfl) ⟨Nat.le_of_ble_eq_true rfl, Nat.le_of_ble_eq_true rfl⟩ ?_
      refine sp_R_keepPlace (by decide) rsTp (vp_in_nI (show c * 4 + t < 864 by omega) (by decide)) ?_
      rw [nI_clamp (by omega), rs_tp]
      refine a_aload_n d_R_takeBound_76 rfl rfl ?_
      refine a_aload_n d_R_takeBound_77 rfl rfl ?_
      apply a_getfield d_R_takeBound_78 f_R_189
      · first | exact rsR | exact rsT | exact rsTp | exact rsGp | exact rsP0 hd.2
      · rfl
      refine a_iconst (v := 1) d_R_takeBound_81 (by decide) ?_
      refine a_iadd d_R_takeBound_82 ?_
      refine a_putR (upd rf 10 (rf 9 + 1)) d_R_takeBound_83 p_R_225 rfl rfl rfl (by decide) ?_
      refine a_bipush (v := 17) d_R_takeBound_86 (by decide) ?_
      refine a_ireturn d_R_takeBound_88 rfl rfl ?_
      first | (simp only [tkBo, if_neg c_1, if_neg c_2, if_true] at hK; exact hK) | contradiction | (exfalso; revert hK; simp_all [upd]; done)
    · refine a_iconst (v := 1) d_R_takeBound_35 (by decide) ?_
      refine a_goto (tgt := 40) d_R_takeBound_36 (by decide) ?_
      refine a_callS 0 0 [_, _, _, _] _ d_R_takeBound_40 l_R_217 is_P_shapeOf rfl rfl (Nat.le_of_ble_eq_true rfl) ⟨Nat.le_of_ble_eq_true rfl, Nat.le_of_ble_eq_true rfl⟩ ?_
      refine sp_P_shapeOf ?_
      refine a_istore_n d_R_takeBound_43 rfl (by decide) ?_
      refine a_aload_n d_R_takeBound_44 rfl rfl ?_
      apply a_getfield d_R_takeBound_45 f_R_29
      · first | exact rsR | exact rsT | exact rsTp | exact rsGp | exact rsP0 hd.2
      · rfl
      refine a_aload_n d_R_takeBound_48 rfl rfl ?_
      apply a_getfield d_R_takeBound_49 f_R_40
      · first | exact rsR | exact rsT | exact rsTp | exact rsGp | exact rsP0 hd.2
      · rfl
      refine a_iload_n d_R_takeBound_52 rfl rfl ?_
      refine a_aload_n d_R_takeBound_53 rfl rfl ?_
      apply a_getfield d_R_takeBound_54 f_R_14
      · first | exact rsR | exact rsT | exact rsTp | exact rsGp | exact rsP0 hd.2
      · rfl
      apply a_callV (ci := 5) 0 0 [] _ d_R_takeBound_57 l_R_161 ⟨im_T_number, se_T_number⟩ rfl rfl rfl rfl (Nat.le_of_ble_eq_true rfl) ⟨Nat.le_of_ble_eq_true rfl, Nat.le_of_ble_eq_true rfl⟩
      · (first | exact rsR | exact rsT | exact rsTp | exact rsGp | exact rsP0 hd.2)
      refine sp_T_number rsT ?_
      apply a_callV (ci := 2) 1 21 [_, _, _] _ d_R_takeBound_60 l_R_221 ⟨im_P_addTest, se_P_addTest⟩ rfl rfl rfl rfl (Nat.le_of_ble_eq_true rfl) ⟨Nat.le_of_ble_eq_true rfl, Nat.le_of_ble_eq_true rfl⟩
      · (first | exact rsR | exact rsT | exact rsTp | exact rsGp | exact rsP0 hd.2)
      rw [hc7]
      refine sp_P_addTest (rsP hd.2 hq) hc hct ht (fun τ hf hP => ?_)
      obtain rfl := rs_P hd.2 hf hP
      refine a_istore_n d_R_takeBound_63 rfl (by decide) ?_
      refine a_aload_n d_R_takeBound_64 rfl rfl ?_
      apply a_getfield d_R_takeBound_65 f_R_22
      · first | exact rsR | exact rsT | exact rsTp | exact rsGp | exact rsP0 hd.2
      · rfl
      refine a_iload_n d_R_takeBound_68 rfl rfl ?_
      refine a_aload_n d_R_takeBound_69 rfl rfl ?_
      apply a_getfield d_R_takeBound_70 f_R_208
      · first | exact rsR | exact rsT | exact rsTp | exact rsGp | exact rsP0 hd.2
      · rfl
      refine a_callS 0 0 [_, _, _] _ d_R_takeBound_73 l_R_192 is_R_keepPlace rfl rfl (Nat.le_of_ble_eq_true rfl) ⟨Nat.le_of_ble_eq_true rfl, Nat.le_of_ble_eq_true rfl⟩ ?_
      refine sp_R_keepPlace (by decide) rsTp (vp_in_nI (show c * 4 + t < 864 by omega) (by decide)) ?_
      rw [nI_clamp (by omega), rs_tp]
      refine a_aload_n d_R_takeBound_76 rfl rfl ?_
      refine a_aload_n d_R_takeBound_77 rfl rfl ?_
      apply a_getfield d_R_takeBound_78 f_R_189
      · first | exact rsR | exact rsT | exact rsTp | exact rsGp | exact rsP0 hd.2
      · rfl
      refine a_iconst (v := 1) d_R_takeBound_81 (by decide) ?_
      refine a_iadd d_R_takeBound_82 ?_
      refine a_putR (upd rf 10 (rf 9 + 1)) d_R_takeBound_83 p_R_225 rfl rfl rfl (by decide) ?_
      refine a_bipush (v := 17) d_R_takeBound_86 (by decide) ?_
      refine a_ireturn d_R_takeBound_88 rfl rfl ?_
      first | (simp only [tkBo, if_neg c_1, if_pos c_2, if_true] at hK; exact hK) | contradiction | (exfalso; revert hK; simp_all [upd]; done)
  · refine a_iconst (v := (-1)) d_R_takeBound_11 (by decide) ?_
    refine a_ireturn d_R_takeBound_12 rfl rfl ?_
    first | (simp only [tkBo, if_pos c_1, if_true] at hK; exact hK) | contradiction | (exfalso; revert hK; simp_all [upd]; done)

def tkTC (n : Nat) (f : Nat → Nat) (k : aT) (q : aP) (rf tp gp : Nat → Int32) : Int32 × aP × (Nat → Int32) × (Nat → Int32) × (Nat → Int32) := if (if k.2.1 = 2 then (1 : Int32) else 0) = 0 then (-1, q, rf, tp, gp) else if 0 < rf 10 - 1 then (17, q, upd rf 10 (rf 10 - 1), tp, gp) else (9, q, upd rf 10 (rf 10 - 1), tp, gp)
set_option maxHeartbeats 4000000 in
set_option maxRecDepth 100000 in
theorem sp_R_takeTestClose (hd : b + 2 ≤ p ∧ p + 11 ≤ r) (hB : BY σ0 b cap n f) (hq : PI q) (hK : K (some (.int (tkTC n f k q rf tp gp).1)) (rs σ0 r b p k (tkTC n f k q rf tp gp).2.1 (tkTC n f k q rf tp gp).2.2.1 (tkTC n f k q rf tp gp).2.2.2.1 (tkTC n f k q rf tp gp).2.2.2.2)) : a_C G m_R_takeTestClose 1 21 [.ref r] (rs σ0 r b p k q rf tp gp) K := by
  refine a_enter rfl (Nat.le_of_ble_eq_true rfl) ?_
  refine a_aload_n d_R_takeTestClose_0 rfl rfl ?_
  apply a_getfield d_R_takeTestClose_1 f_R_14
  · first | exact rsR | exact rsT | exact rsTp | exact rsGp | exact rsP0 hd.2
  · rfl
  refine a_iconst (v := 2) d_R_takeTestClose_4 (by decide) ?_
  apply a_callV (ci := 5) 0 0 [_] _ d_R_takeTestClose_5 l_R_74 ⟨im_T_isA, se_T_isA⟩ rfl rfl rfl rfl (Nat.le_of_ble_eq_true rfl) ⟨Nat.le_of_ble_eq_true rfl, Nat.le_of_ble_eq_true rfl⟩
  · (first | exact rsR | exact rsT | exact rsTp | exact rsGp | exact rsP0 hd.2)
  refine sp_T_isA rsT ?_
  refine a_if_ne (tgt := 13) d_R_takeTestClose_8 (by decide) (fun c_1 => ?_) (fun c_1 => ?_)
  · refine a_aload_n d_R_takeTestClose_13 rfl rfl ?_
    refine a_dup d_R_takeTestClose_14 rfl ?_
    apply a_getfield d_R_takeTestClose_15 f_R_225
    · first | exact rsR | exact rsT | exact rsTp | exact rsGp | exact rsP0 hd.2
    · rfl
    refine a_iconst (v := 1) d_R_takeTestClose_18 (by decide) ?_
    refine a_isub d_R_takeTestClose_19 ?_
    refine a_putR (upd rf 10 (rf 10 - 1)) d_R_takeTestClose_20 p_R_225 rfl rfl rfl (by decide) ?_
    refine a_aload_n d_R_takeTestClose_23 rfl rfl ?_
    apply a_getfield d_R_takeTestClose_24 f_R_225
    · first | exact rsR | exact rsT | exact rsTp | exact rsGp | exact rsP0 hd.2
    · rfl
    rw [show upd rf 10 (rf 10 - 1) 10 = rf 10 - 1 from rfl]
    refine a_if_le (tgt := 35) d_R_takeTestClose_27 (by decide) (fun c_2 => ?_) (fun c_2 => ?_)
    · refine a_bipush (v := 9) d_R_takeTestClose_35 (by decide) ?_
      refine a_ireturn d_R_takeTestClose_37 rfl rfl ?_
      first | (simp only [tkTC, if_neg c_1, if_pos c_2, if_neg (Int32.not_lt.mpr c_2), if_true] at hK; exact hK) | contradiction | (exfalso; revert hK; simp_all [upd]; done)
    · refine a_bipush (v := 17) d_R_takeTestClose_30 (by decide) ?_
      refine a_goto (tgt := 37) d_R_takeTestClose_32 (by decide) ?_
      refine a_ireturn d_R_takeTestClose_37 rfl rfl ?_
      first | (simp only [tkTC, if_neg c_1, if_neg c_2, if_pos (Int32.not_le.mp c_2), if_true] at hK; exact hK) | contradiction | (exfalso; revert hK; simp_all [upd]; done)
  · refine a_iconst (v := (-1)) d_R_takeTestClose_11 (by decide) ?_
    refine a_ireturn d_R_takeTestClose_12 rfl rfl ?_
    first | (simp only [tkTC, if_pos c_1, if_true] at hK; exact hK) | contradiction | (exfalso; revert hK; simp_all [upd]; done)

end ModR3
