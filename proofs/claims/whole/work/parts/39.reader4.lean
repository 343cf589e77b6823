/-! READER: take, by the states; linked, linkClause, linkHeads, begin -/
section ModR4
variable {G : aG} {σ0 τ : aS} {K : Option Value → aS → Prop} {r b p cap n : Nat} {f : Nat → Nat} {k k' : aT} {q q' : aP} {rf rf' tp tp' gp gp' : Nat → Int32}
set_option maxHeartbeats 400000 in
set_option maxRecDepth 100000 in
theorem sp_R_take_1 (hd : b + 2 ≤ p ∧ p + 11 ≤ r) (hB : BY σ0 b cap n f) (hq : PI q) (hK : K (some (.int (tkTop n f k q rf tp gp).1)) (rs σ0 r b p k (tkTop n f k q rf tp gp).2.1 (tkTop n f k q rf tp gp).2.2.1 (tkTop n f k q rf tp gp).2.2.2.1 (tkTop n f k q rf tp gp).2.2.2.2)) : a_C G m_R_take 7 151 [.ref r, .int 1] (rs σ0 r b p k q rf tp gp) K := by
  refine a_enter rfl (Nat.le_of_ble_eq_true rfl) ?_
  refine a_iload_n d_R_take_0 rfl rfl ?_
  refine a_tsw17_1 (t0 := 84) (t1 := 89) (t2 := 94) (t3 := 101) (t4 := 106) (t5 := 114) (t6 := 119) (t7 := 124) (t8 := 129) (t9 := 134) (t10 := 152) (t11 := 157) (t12 := 175) (t13 := 180) (t14 := 185) (t15 := 190) (t16 := 195) (td := 200) d_R_take_1 (by decide) (by decide) (by decide) (by decide) (by decide) (by decide) (by decide) (by decide) (by decide) (by decide) (by decide) (by decide) (by decide) (by decide) (by decide) (by decide) (by decide) (by decide) (fun _ => ?_) (fun e => absurd e (by decide)) (fun e => absurd e (by decide)) (fun e => absurd e (by decide)) (fun e => absurd e (by decide)) (fun e => absurd e (by decide)) (fun e => absurd e (by decide)) (fun e => absurd e (by decide)) (fun e => absurd e (by decide)) (fun e => absurd e (by decide)) (fun e => absurd e (by decide)) (fun e => absurd e (by decide)) (fun e => absurd e (by decide)) (fun e => absurd e (by decide)) (fun e => absurd e (by decide)) (fun e => absurd e (by decide)) (fun e => absurd e (by decide)) (fun e _ _ _ _ _ _ _ _ _ _ _ _ _ _ _ _ => absurd rfl e)
  refine a_aload_n d_R_take_84 rfl rfl ?_
  apply a_callV (ci := 4) 1 22 [] _ d_R_take_85 l_R_78 ⟨im_R_takeTop, se_R_takeTop⟩ rfl rfl rfl rfl (Nat.le_of_ble_eq_true rfl) ⟨Nat.le_of_ble_eq_true rfl, Nat.le_of_ble_eq_true rfl⟩
  · (first | exact rsR | exact rsT | exact rsTp | exact rsGp | exact rsP0 hd.2)
  refine sp_R_takeTop hd hB hq ?_
  exact a_ireturn d_R_take_88 rfl rfl hK

set_option maxHeartbeats 400000 in
set_option maxRecDepth 100000 in
theorem sp_R_take_2 (hd : b + 2 ≤ p ∧ p + 11 ≤ r) (hB : BY σ0 b cap n f) (hq : PI q) (hK : K (some (.int (tkHW n f k q rf tp gp).1)) (rs σ0 r b p k (tkHW n f k q rf tp gp).2.1 (tkHW n f k q rf tp gp).2.2.1 (tkHW n f k q rf tp gp).2.2.2.1 (tkHW n f k q rf tp gp).2.2.2.2)) : a_C G m_R_take 7 151 [.ref r, .int 2] (rs σ0 r b p k q rf tp gp) K := by
  refine a_enter rfl (Nat.le_of_ble_eq_true rfl) ?_
  refine a_iload_n d_R_take_0 rfl rfl ?_
  refine a_tsw17_1 (t0 := 84) (t1 := 89) (t2 := 94) (t3 := 101) (t4 := 106) (t5 := 114) (t6 := 119) (t7 := 124) (t8 := 129) (t9 := 134) (t10 := 152) (t11 := 157) (t12 := 175) (t13 := 180) (t14 := 185) (t15 := 190) (t16 := 195) (td := 200) d_R_take_1 (by decide) (by decide) (by decide) (by decide) (by decide) (by decide) (by decide) (by decide) (by decide) (by decide) (by decide) (by decide) (by decide) (by decide) (by decide) (by decide) (by decide) (by decide) (fun e => absurd e (by decide)) (fun _ => ?_) (fun e => absurd e (by decide)) (fun e => absurd e (by decide)) (fun e => absurd e (by decide)) (fun e => absurd e (by decide)) (fun e => absurd e (by decide)) (fun e => absurd e (by decide)) (fun e => absurd e (by decide)) (fun e => absurd e (by decide)) (fun e => absurd e (by decide)) (fun e => absurd e (by decide)) (fun e => absurd e (by decide)) (fun e => absurd e (by decide)) (fun e => absurd e (by decide)) (fun e => absurd e (by decide)) (fun e => absurd e (by decide)) (fun _ e _ _ _ _ _ _ _ _ _ _ _ _ _ _ _ => absurd rfl e)
  refine a_aload_n d_R_take_89 rfl rfl ?_
  apply a_callV (ci := 4) 5 107 [] _ d_R_take_90 l_R_81 ⟨im_R_takeHeadWord, se_R_takeHeadWord⟩ rfl rfl rfl rfl (Nat.le_of_ble_eq_true rfl) ⟨Nat.le_of_ble_eq_true rfl, Nat.le_of_ble_eq_true rfl⟩
  · (first | exact rsR | exact rsT | exact rsTp | exact rsGp | exact rsP0 hd.2)
  refine sp_R_takeHeadWord hd hB hq ?_
  exact a_ireturn d_R_take_93 rfl rfl hK

set_option maxHeartbeats 400000 in
set_option maxRecDepth 100000 in
theorem sp_R_take_3 (hc : ¬ cah q 0 = 0) (hd : b + 2 ≤ p ∧ p + 11 ≤ r) (hB : BY σ0 b cap n f) (hq : PI q) (hK : K (some (.int (tkHN n f k q rf tp gp 0 4).1)) (rs σ0 r b p k (tkHN n f k q rf tp gp 0 4).2.1 (tkHN n f k q rf tp gp 0 4).2.2.1 (tkHN n f k q rf tp gp 0 4).2.2.2.1 (tkHN n f k q rf tp gp 0 4).2.2.2.2)) : a_C G m_R_take 7 151 [.ref r, .int 3] (rs σ0 r b p k q rf tp gp) K := by
  refine a_enter rfl (Nat.le_of_ble_eq_true rfl) ?_
  refine a_iload_n d_R_take_0 rfl rfl ?_
  refine a_tsw17_1 (t0 := 84) (t1 := 89) (t2 := 94) (t3 := 101) (t4 := 106) (t5 := 114) (t6 := 119) (t7 := 124) (t8 := 129) (t9 := 134) (t10 := 152) (t11 := 157) (t12 := 175) (t13 := 180) (t14 := 185) (t15 := 190) (t16 := 195) (td := 200) d_R_take_1 (by decide) (by decide) (by decide) (by decide) (by decide) (by decide) (by decide) (by decide) (by decide) (by decide) (by decide) (by decide) (by decide) (by decide) (by decide) (by decide) (by decide) (by decide) (fun e => absurd e (by decide)) (fun e => absurd e (by decide)) (fun _ => ?_) (fun e => absurd e (by decide)) (fun e => absurd e (by decide)) (fun e => absurd e (by decide)) (fun e => absurd e (by decide)) (fun e => absurd e (by decide)) (fun e => absurd e (by decide)) (fun e => absurd e (by decide)) (fun e => absurd e (by decide)) (fun e => absurd e (by decide)) (fun e => absurd e (by decide)) (fun e => absurd e (by decide)) (fun e => absurd e (by decide)) (fun e => absurd e (by decide)) (fun e => absurd e (by decide)) (fun _ _ e _ _ _ _ _ _ _ _ _ _ _ _ _ _ => absurd rfl e)
  refine a_aload_n d_R_take_94 rfl rfl ?_
  refine a_iconst (v := 0) d_R_take_95 (by decide) ?_
  refine a_iconst (v := 4) d_R_take_96 (by decide) ?_
  apply a_callV (ci := 4) 6 129 [_, _] _ d_R_take_97 l_R_84 ⟨im_R_takeHeadName, se_R_takeHeadName⟩ rfl rfl rfl rfl (Nat.le_of_ble_eq_true rfl) ⟨Nat.le_of_ble_eq_true rfl, Nat.le_of_ble_eq_true rfl⟩
  · (first | exact rsR | exact rsT | exact rsTp | exact rsGp | exact rsP0 hd.2)
  refine sp_R_takeHeadName (Or.inl rfl) hc hd hB hq ?_
  exact a_ireturn d_R_take_100 rfl rfl hK

set_option maxHeartbeats 400000 in
set_option maxRecDepth 100000 in
theorem sp_R_take_4 (hr : ¬ hrow q 0 (nI q.1.1 - 1) = -1) (hd : b + 2 ≤ p ∧ p + 11 ≤ r) (hB : BY σ0 b cap n f) (hq : PI q) (hK : K (some (.int (tkCT n f k q rf tp gp).1)) (rs σ0 r b p k (tkCT n f k q rf tp gp).2.1 (tkCT n f k q rf tp gp).2.2.1 (tkCT n f k q rf tp gp).2.2.2.1 (tkCT n f k q rf tp gp).2.2.2.2)) : a_C G m_R_take 7 151 [.ref r, .int 4] (rs σ0 r b p k q rf tp gp) K := by
  refine a_enter rfl (Nat.le_of_ble_eq_true rfl) ?_
  refine a_iload_n d_R_take_0 rfl rfl ?_
  refine a_tsw17_1 (t0 := 84) (t1 := 89) (t2 := 94) (t3 := 101) (t4 := 106) (t5 := 114) (t6 := 119) (t7 := 124) (t8 := 129) (t9 := 134) (t10 := 152) (t11 := 157) (t12 := 175) (t13 := 180) (t14 := 185) (t15 := 190) (t16 := 195) (td := 200) d_R_take_1 (by decide) (by decide) (by decide) (by decide) (by decide) (by decide) (by decide) (by decide) (by decide) (by decide) (by decide) (by decide) (by decide) (by decide) (by decide) (by decide) (by decide) (by decide) (fun e => absurd e (by decide)) (fun e => absurd e (by decide)) (fun e => absurd e (by decide)) (fun _ => ?_) (fun e => absurd e (by decide)) (fun e => absurd e (by decide)) (fun e => absurd e (by decide)) (fun e => absurd e (by decide)) (fun e => absurd e (by decide)) (fun e => absurd e (by decide)) (fun e => absurd e (by decide)) (fun e => absurd e (by decide)) (fun e => absurd e (by decide)) (fun e => absurd e (by decide)) (fun e => absurd e (by decide)) (fun e => absurd e (by decide)) (fun e => absurd e (by decide)) (fun _ _ _ e _ _ _ _ _ _ _ _ _ _ _ _ _ => absurd rfl e)
  refine a_aload_n d_R_take_101 rfl rfl ?_
  apply a_callV (ci := 4) 2 44 [] _ d_R_take_102 l_R_88 ⟨im_R_takeCounterTop, se_R_takeCounterTop⟩ rfl rfl rfl rfl (Nat.le_of_ble_eq_true rfl) ⟨Nat.le_of_ble_eq_true rfl, Nat.le_of_ble_eq_true rfl⟩
  · (first | exact rsR | exact rsT | exact rsTp | exact rsGp | exact rsP0 hd.2)
  refine sp_R_takeCounterTop hr hd hB hq ?_
  exact a_ireturn d_R_take_105 rfl rfl hK

set_option maxHeartbeats 400000 in
set_option maxRecDepth 100000 in
theorem sp_R_take_5 (hc : ¬ cah q 1 = 0) (hd : b + 2 ≤ p ∧ p + 11 ≤ r) (hB : BY σ0 b cap n f) (hq : PI q) (hK : K (some (.int (tkHN n f k q rf tp gp 1 6).1)) (rs σ0 r b p k (tkHN n f k q rf tp gp 1 6).2.1 (tkHN n f k q rf tp gp 1 6).2.2.1 (tkHN n f k q rf tp gp 1 6).2.2.2.1 (tkHN n f k q rf tp gp 1 6).2.2.2.2)) : a_C G m_R_take 7 151 [.ref r, .int 5] (rs σ0 r b p k q rf tp gp) K := by
  refine a_enter rfl (Nat.le_of_ble_eq_true rfl) ?_
  refine a_iload_n d_R_take_0 rfl rfl ?_
  refine a_tsw17_1 (t0 := 84) (t1 := 89) (t2 := 94) (t3 := 101) (t4 := 106) (t5 := 114) (t6 := 119) (t7 := 124) (t8 := 129) (t9 := 134) (t10 := 152) (t11 := 157) (t12 := 175) (t13 := 180) (t14 := 185) (t15 := 190) (t16 := 195) (td := 200) d_R_take_1 (by decide) (by decide) (by decide) (by decide) (by decide) (by decide) (by decide) (by decide) (by decide) (by decide) (by decide) (by decide) (by decide) (by decide) (by decide) (by decide) (by decide) (by decide) (fun e => absurd e (by decide)) (fun e => absurd e (by decide)) (fun e => absurd e (by decide)) (fun e => absurd e (by decide)) (fun _ => ?_) (fun e => absurd e (by decide)) (fun e => absurd e (by decide)) (fun e => absurd e (by decide)) (fun e => absurd e (by decide)) (fun e => absurd e (by decide)) (fun e => absurd e (by decide)) (fun e => absurd e (by decide)) (fun e => absurd e (by decide)) (fun e => absurd e (by decide)) (fun e => absurd e (by decide)) (fun e => absurd e (by decide)) (fun e => absurd e (by decide)) (fun _ _ _ _ e _ _ _ _ _ _ _ _ _ _ _ _ => absurd rfl e)
  refine a_aload_n d_R_take_106 rfl rfl ?_
  refine a_iconst (v := 1) d_R_take_107 (by decide) ?_
  refine a_bipush (v := 6) d_R_take_108 (by decide) ?_
  apply a_callV (ci := 4) 6 129 [_, _] _ d_R_take_110 l_R_84 ⟨im_R_takeHeadName, se_R_takeHeadName⟩ rfl rfl rfl rfl (Nat.le_of_ble_eq_true rfl) ⟨Nat.le_of_ble_eq_true rfl, Nat.le_of_ble_eq_true rfl⟩
  · (first | exact rsR | exact rsT | exact rsTp | exact rsGp | exact rsP0 hd.2)
  refine sp_R_takeHeadName (Or.inr rfl) hc hd hB hq ?_
  exact a_ireturn d_R_take_113 rfl rfl hK

set_option maxHeartbeats 400000 in
set_option maxRecDepth 100000 in
theorem sp_R_take_6 (hd : b + 2 ≤ p ∧ p + 11 ≤ r) (hB : BY σ0 b cap n f) (hq : PI q) (hK : K (some (.int (tkCC n f k q rf tp gp).1)) (rs σ0 r b p k (tkCC n f k q rf tp gp).2.1 (tkCC n f k q rf tp gp).2.2.1 (tkCC n f k q rf tp gp).2.2.2.1 (tkCC n f k q rf tp gp).2.2.2.2)) : a_C G m_R_take 7 151 [.ref r, .int 6] (rs σ0 r b p k q rf tp gp) K := by
  refine a_enter rfl (Nat.le_of_ble_eq_true rfl) ?_
  refine a_iload_n d_R_take_0 rfl rfl ?_
  refine a_tsw17_1 (t0 := 84) (t1 := 89) (t2 := 94) (t3 := 101) (t4 := 106) (t5 := 114) (t6 := 119) (t7 := 124) (t8 := 129) (t9 := 134) (t10 := 152) (t11 := 157) (t12 := 175) (t13 := 180) (t14 := 185) (t15 := 190) (t16 := 195) (td := 200) d_R_take_1 (by decide) (by decide) (by decide) (by decide) (by decide) (by decide) (by decide) (by decide) (by decide) (by decide) (by decide) (by decide) (by decide) (by decide) (by decide) (by decide) (by decide) (by decide) (fun e => absurd e (by decide)) (fun e => absurd e (by decide)) (fun e => absurd e (by decide)) (fun e => absurd e (by decide)) (fun e => absurd e (by decide)) (fun _ => ?_) (fun e => absurd e (by decide)) (fun e => absurd e (by decide)) (fun e => absurd e (by decide)) (fun e => absurd e (by decide)) (fun e => absurd e (by decide)) (fun e => absurd e (by decide)) (fun e => absurd e (by decide)) (fun e => absurd e (by decide)) (fun e => absurd e (by decide)) (fun e => absurd e (by decide)) (fun e => absurd e (by decide)) (fun _ _ _ _ _ e _ _ _ _ _ _ _ _ _ _ _ => absurd rfl e)
  refine a_aload_n d_R_take_114 rfl rfl ?_
  apply a_callV (ci := 4) 2 44 [] _ d_R_take_115 l_R_91 ⟨im_R_takeClauseOrClose, se_R_takeClauseOrClose⟩ rfl rfl rfl rfl (Nat.le_of_ble_eq_true rfl) ⟨Nat.le_of_ble_eq_true rfl, Nat.le_of_ble_eq_true rfl⟩
  · (first | exact rsR | exact rsT | exact rsTp | exact rsGp | exact rsP0 hd.2)
  refine sp_R_takeClauseOrClose hd hB hq ?_
  exact a_ireturn d_R_take_118 rfl rfl hK

set_option maxHeartbeats 400000 in
set_option maxRecDepth 100000 in
theorem sp_R_take_7 (hd : b + 2 ≤ p ∧ p + 11 ≤ r) (hB : BY σ0 b cap n f) (hq : PI q) (hK : K (some (.int (tkCW n f k q rf tp gp).1)) (rs σ0 r b p k (tkCW n f k q rf tp gp).2.1 (tkCW n f k q rf tp gp).2.2.1 (tkCW n f k q rf tp gp).2.2.2.1 (tkCW n f k q rf tp gp).2.2.2.2)) : a_C G m_R_take 7 151 [.ref r, .int 7] (rs σ0 r b p k q rf tp gp) K := by
  refine a_enter rfl (Nat.le_of_ble_eq_true rfl) ?_
  refine a_iload_n d_R_take_0 rfl rfl ?_
  refine a_tsw17_1 (t0 := 84) (t1 := 89) (t2 := 94) (t3 := 101) (t4 := 106) (t5 := 114) (t6 := 119) (t7 := 124) (t8 := 129) (t9 := 134) (t10 := 152) (t11 := 157) (t12 := 175) (t13 := 180) (t14 := 185) (t15 := 190) (t16 := 195) (td := 200) d_R_take_1 (by decide) (by decide) (by decide) (by decide) (by decide) (by decide) (by decide) (by decide) (by decide) (by decide) (by decide) (by decide) (by decide) (by decide) (by decide) (by decide) (by decide) (by decide) (fun e => absurd e (by decide)) (fun e => absurd e (by decide)) (fun e => absurd e (by decide)) (fun e => absurd e (by decide)) (fun e => absurd e (by decide)) (fun e => absurd e (by decide)) (fun _ => ?_) (fun e => absurd e (by decide)) (fun e => absurd e (by decide)) (fun e => absurd e (by decide)) (fun e => absurd e (by decide)) (fun e => absurd e (by decide)) (fun e => absurd e (by decide)) (fun e => absurd e (by decide)) (fun e => absurd e (by decide)) (fun e => absurd e (by decide)) (fun e => absurd e (by decide)) (fun _ _ _ _ _ _ e _ _ _ _ _ _ _ _ _ _ => absurd rfl e)
  refine a_aload_n d_R_take_119 rfl rfl ?_
  apply a_callV (ci := 4) 5 107 [] _ d_R_take_120 l_R_94 ⟨im_R_takeClauseWord, se_R_takeClauseWord⟩ rfl rfl rfl rfl (Nat.le_of_ble_eq_true rfl) ⟨Nat.le_of_ble_eq_true rfl, Nat.le_of_ble_eq_true rfl⟩
  · (first | exact rsR | exact rsT | exact rsTp | exact rsGp | exact rsP0 hd.2)
  refine sp_R_takeClauseWord hd hB hq ?_
  exact a_ireturn d_R_take_123 rfl rfl hK

set_option maxHeartbeats 400000 in
set_option maxRecDepth 100000 in
theorem sp_R_take_80 {kk c : Nat} (hw : rf 6 = 0) (hn : q.1.1 = kk + 1) (hct : q.2.2 4 kk = nI c) (hc : c < 4) (hd : b + 2 ≤ p ∧ p + 11 ≤ r) (hB : BY σ0 b cap n f) (hq : PI q) (hK : K (some (.int (tkCa0 n f k q rf tp gp kk c).1)) (rs σ0 r b p k (tkCa0 n f k q rf tp gp kk c).2.1 (tkCa0 n f k q rf tp gp kk c).2.2.1 (tkCa0 n f k q rf tp gp kk c).2.2.2.1 (tkCa0 n f k q rf tp gp kk c).2.2.2.2)) : a_C G m_R_take 7 151 [.ref r, .int 8] (rs σ0 r b p k q rf tp gp) K := by
  refine a_enter rfl (Nat.le_of_ble_eq_true rfl) ?_
  refine a_iload_n d_R_take_0 rfl rfl ?_
  refine a_tsw17_1 (t0 := 84) (t1 := 89) (t2 := 94) (t3 := 101) (t4 := 106) (t5 := 114) (t6 := 119) (t7 := 124) (t8 := 129) (t9 := 134) (t10 := 152) (t11 := 157) (t12 := 175) (t13 := 180) (t14 := 185) (t15 := 190) (t16 := 195) (td := 200) d_R_take_1 (by decide) (by decide) (by decide) (by decide) (by decide) (by decide) (by decide) (by decide) (by decide) (by decide) (by decide) (by decide) (by decide) (by decide) (by decide) (by decide) (by decide) (by decide) (fun e => absurd e (by decide)) (fun e => absurd e (by decide)) (fun e => absurd e (by decide)) (fun e => absurd e (by decide)) (fun e => absurd e (by decide)) (fun e => absurd e (by decide)) (fun e => absurd e (by decide)) (fun _ => ?_) (fun e => absurd e (by decide)) (fun e => absurd e (by decide)) (fun e => absurd e (by decide)) (fun e => absurd e (by decide)) (fun e => absurd e (by decide)) (fun e => absurd e (by decide)) (fun e => absurd e (by decide)) (fun e => absurd e (by decide)) (fun e => absurd e (by decide)) (fun _ _ _ _ _ _ _ e _ _ _ _ _ _ _ _ _ => absurd rfl e)
  refine a_aload_n d_R_take_124 rfl rfl ?_
  apply a_callV (ci := 4) 5 107 [] _ d_R_take_125 l_R_97 ⟨im_R_takeCall, se_R_takeCall⟩ rfl rfl rfl rfl (Nat.le_of_ble_eq_true rfl) ⟨Nat.le_of_ble_eq_true rfl, Nat.le_of_ble_eq_true rfl⟩
  · (first | exact rsR | exact rsT | exact rsTp | exact rsGp | exact rsP0 hd.2)
  refine sp_R_takeCall0 hw hn hct hc hd hB hq ?_
  exact a_ireturn d_R_take_128 rfl rfl hK

set_option maxHeartbeats 400000 in
set_option maxRecDepth 100000 in
theorem sp_R_take_81 {kk c : Nat} (hw : ¬ rf 6 = 0) (hn : q.1.2.1 = kk + 1) (hct : q.2.2 4 (6 + kk) = nI c) (hc : c < 8) (hd : b + 2 ≤ p ∧ p + 11 ≤ r) (hB : BY σ0 b cap n f) (hq : PI q) (hK : K (some (.int (tkCa1 n f k q rf tp gp kk c).1)) (rs σ0 r b p k (tkCa1 n f k q rf tp gp kk c).2.1 (tkCa1 n f k q rf tp gp kk c).2.2.1 (tkCa1 n f k q rf tp gp kk c).2.2.2.1 (tkCa1 n f k q rf tp gp kk c).2.2.2.2)) : a_C G m_R_take 7 151 [.ref r, .int 8] (rs σ0 r b p k q rf tp gp) K := by
  refine a_enter rfl (Nat.le_of_ble_eq_true rfl) ?_
  refine a_iload_n d_R_take_0 rfl rfl ?_
  refine a_tsw17_1 (t0 := 84) (t1 := 89) (t2 := 94) (t3 := 101) (t4 := 106) (t5 := 114) (t6 := 119) (t7 := 124) (t8 := 129) (t9 := 134) (t10 := 152) (t11 := 157) (t12 := 175) (t13 := 180) (t14 := 185) (t15 := 190) (t16 := 195) (td := 200) d_R_take_1 (by decide) (by decide) (by decide) (by decide) (by decide) (by decide) (by decide) (by decide) (by decide) (by decide) (by decide) (by decide) (by decide) (by decide) (by decide) (by decide) (by decide) (by decide) (fun e => absurd e (by decide)) (fun e => absurd e (by decide)) (fun e => absurd e (by decide)) (fun e => absurd e (by decide)) (fun e => absurd e (by decide)) (fun e => absurd e (by decide)) (fun e => absurd e (by decide)) (fun _ => ?_) (fun e => absurd e (by decide)) (fun e => absurd e (by decide)) (fun e => absurd e (by decide)) (fun e => absurd e (by decide)) (fun e => absurd e (by decide)) (fun e => absurd e (by decide)) (fun e => absurd e (by decide)) (fun e => absurd e (by decide)) (fun e => absurd e (by decide)) (fun _ _ _ _ _ _ _ e _ _ _ _ _ _ _ _ _ => absurd rfl e)
  refine a_aload_n d_R_take_124 rfl rfl ?_
  apply a_callV (ci := 4) 5 107 [] _ d_R_take_125 l_R_97 ⟨im_R_takeCall, se_R_takeCall⟩ rfl rfl rfl rfl (Nat.le_of_ble_eq_true rfl) ⟨Nat.le_of_ble_eq_true rfl, Nat.le_of_ble_eq_true rfl⟩
  · (first | exact rsR | exact rsT | exact rsTp | exact rsGp | exact rsP0 hd.2)
  refine sp_R_takeCall1 hw hn hct hc hd hB hq ?_
  exact a_ireturn d_R_take_128 rfl rfl hK

set_option maxHeartbeats 400000 in
set_option maxRecDepth 100000 in
theorem sp_R_take_9 {c : Nat} (hc7 : rf 7 = nI c) (hc : c < 216) (hd : b + 2 ≤ p ∧ p + 11 ≤ r) (hB : BY σ0 b cap n f) (hq : PI q) (hK : K (some (.int (tkTG n f k q rf tp gp c).1)) (rs σ0 r b p k (tkTG n f k q rf tp gp c).2.1 (tkTG n f k q rf tp gp c).2.2.1 (tkTG n f k q rf tp gp c).2.2.2.1 (tkTG n f k q rf tp gp c).2.2.2.2)) : a_C G m_R_take 7 151 [.ref r, .int 9] (rs σ0 r b p k q rf tp gp) K := by
  refine a_enter rfl (Nat.le_of_ble_eq_true rfl) ?_
  refine a_iload_n d_R_take_0 rfl rfl ?_
  refine a_tsw17_1 (t0 := 84) (t1 := 89) (t2 := 94) (t3 := 101) (t4 := 106) (t5 := 114) (t6 := 119) (t7 := 124) (t8 := 129) (t9 := 134) (t10 := 152) (t11 := 157) (t12 := 175) (t13 := 180) (t14 := 185) (t15 := 190) (t16 := 195) (td := 200) d_R_take_1 (by decide) (by decide) (by decide) (by decide) (by decide) (by decide) (by decide) (by decide) (by decide) (by decide) (by decide) (by decide) (by decide) (by decide) (by decide) (by decide) (by decide) (by decide) (fun e => absurd e (by decide)) (fun e => absurd e (by decide)) (fun e => absurd e (by decide)) (fun e => absurd e (by decide)) (fun e => absurd e (by decide)) (fun e => absurd e (by decide)) (fun e => absurd e (by decide)) (fun e => absurd e (by decide)) (fun _ => ?_) (fun e => absurd e (by decide)) (fun e => absurd e (by decide)) (fun e => absurd e (by decide)) (fun e => absurd e (by decide)) (fun e => absurd e (by decide)) (fun e => absurd e (by decide)) (fun e => absurd e (by decide)) (fun e => absurd e (by decide)) (fun _ _ _ _ _ _ _ _ e _ _ _ _ _ _ _ _ => absurd rfl e)
  refine a_aload_n d_R_take_129 rfl rfl ?_
  apply a_callV (ci := 4) 6 129 [] _ d_R_take_130 l_R_100 ⟨im_R_takeTestOrGoal, se_R_takeTestOrGoal⟩ rfl rfl rfl rfl (Nat.le_of_ble_eq_true rfl) ⟨Nat.le_of_ble_eq_true rfl, Nat.le_of_ble_eq_true rfl⟩
  · (first | exact rsR | exact rsT | exact rsTp | exact rsGp | exact rsP0 hd.2)
  refine sp_R_takeTestOrGoal hc7 hc hd hB hq ?_
  exact a_ireturn d_R_take_133 rfl rfl hK

set_option maxHeartbeats 400000 in
set_option maxRecDepth 100000 in
theorem sp_R_take_11 (hd : b + 2 ≤ p ∧ p + 11 ≤ r) (hB : BY σ0 b cap n f) (hq : PI q) (hK : K (some (.int (tkTW n f k q rf tp gp).1)) (rs σ0 r b p k (tkTW n f k q rf tp gp).2.1 (tkTW n f k q rf tp gp).2.2.1 (tkTW n f k q rf tp gp).2.2.2.1 (tkTW n f k q rf tp gp).2.2.2.2)) : a_C G m_R_take 7 151 [.ref r, .int 11] (rs σ0 r b p k q rf tp gp) K := by
  refine a_enter rfl (Nat.le_of_ble_eq_true rfl) ?_
  refine a_iload_n d_R_take_0 rfl rfl ?_
  refine a_tsw17_1 (t0 := 84) (t1 := 89) (t2 := 94) (t3 := 101) (t4 := 106) (t5 := 114) (t6 := 119) (t7 := 124) (t8 := 129) (t9 := 134) (t10 := 152) (t11 := 157) (t12 := 175) (t13 := 180) (t14 := 185) (t15 := 190) (t16 := 195) (td := 200) d_R_take_1 (by decide) (by decide) (by decide) (by decide) (by decide) (by decide) (by decide) (by decide) (by decide) (by decide) (by decide) (by decide) (by decide) (by decide) (by decide) (by decide) (by decide) (by decide) (fun e => absurd e (by decide)) (fun e => absurd e (by decide)) (fun e => absurd e (by decide)) (fun e => absurd e (by decide)) (fun e => absurd e (by decide)) (fun e => absurd e (by decide)) (fun e => absurd e (by decide)) (fun e => absurd e (by decide)) (fun e => absurd e (by decide)) (fun e => absurd e (by decide)) (fun _ => ?_) (fun e => absurd e (by decide)) (fun e => absurd e (by decide)) (fun e => absurd e (by decide)) (fun e => absurd e (by decide)) (fun e => absurd e (by decide)) (fun e => absurd e (by decide)) (fun _ _ _ _ _ _ _ _ _ _ e _ _ _ _ _ _ => absurd rfl e)
  refine a_aload_n d_R_take_152 rfl rfl ?_
  apply a_callV (ci := 4) 5 107 [] _ d_R_take_153 l_R_103 ⟨im_R_takeTestWord, se_R_takeTestWord⟩ rfl rfl rfl rfl (Nat.le_of_ble_eq_true rfl) ⟨Nat.le_of_ble_eq_true rfl, Nat.le_of_ble_eq_true rfl⟩
  · (first | exact rsR | exact rsT | exact rsTp | exact rsGp | exact rsP0 hd.2)
  refine sp_R_takeTestWord hd hB hq ?_
  exact a_ireturn d_R_take_156 rfl rfl hK

set_option maxHeartbeats 400000 in
set_option maxRecDepth 100000 in
theorem sp_R_take_13 (hd : b + 2 ≤ p ∧ p + 11 ≤ r) (hB : BY σ0 b cap n f) (hq : PI q) (hK : K (some (.int (tkAr n f k q rf tp gp).1)) (rs σ0 r b p k (tkAr n f k q rf tp gp).2.1 (tkAr n f k q rf tp gp).2.2.1 (tkAr n f k q rf tp gp).2.2.2.1 (tkAr n f k q rf tp gp).2.2.2.2)) : a_C G m_R_take 7 151 [.ref r, .int 13] (rs σ0 r b p k q rf tp gp) K := by
  refine a_enter rfl (Nat.le_of_ble_eq_true rfl) ?_
  refine a_iload_n d_R_take_0 rfl rfl ?_
  refine a_tsw17_1 (t0 := 84) (t1 := 89) (t2 := 94) (t3 := 101) (t4 := 106) (t5 := 114) (t6 := 119) (t7 := 124) (t8 := 129) (t9 := 134) (t10 := 152) (t11 := 157) (t12 := 175) (t13 := 180) (t14 := 185) (t15 := 190) (t16 := 195) (td := 200) d_R_take_1 (by decide) (by decide) (by decide) (by decide) (by decide) (by decide) (by decide) (by decide) (by decide) (by decide) (by decide) (by decide) (by decide) (by decide) (by decide) (by decide) (by decide) (by decide) (fun e => absurd e (by decide)) (fun e => absurd e (by decide)) (fun e => absurd e (by decide)) (fun e => absurd e (by decide)) (fun e => absurd e (by decide)) (fun e => absurd e (by decide)) (fun e => absurd e (by decide)) (fun e => absurd e (by decide)) (fun e => absurd e (by decide)) (fun e => absurd e (by decide)) (fun e => absurd e (by decide)) (fun e => absurd e (by decide)) (fun _ => ?_) (fun e => absurd e (by decide)) (fun e => absurd e (by decide)) (fun e => absurd e (by decide)) (fun e => absurd e (by decide)) (fun _ _ _ _ _ _ _ _ _ _ _ _ e _ _ _ _ => absurd rfl e)
  refine a_aload_n d_R_take_175 rfl rfl ?_
  apply a_callV (ci := 4) 1 22 [] _ d_R_take_176 l_R_106 ⟨im_R_takeArgument, se_R_takeArgument⟩ rfl rfl rfl rfl (Nat.le_of_ble_eq_true rfl) ⟨Nat.le_of_ble_eq_true rfl, Nat.le_of_ble_eq_true rfl⟩
  · (first | exact rsR | exact rsT | exact rsTp | exact rsGp | exact rsP0 hd.2)
  refine sp_R_takeArgument hd hB hq ?_
  exact a_ireturn d_R_take_179 rfl rfl hK

set_option maxHeartbeats 400000 in
set_option maxRecDepth 100000 in
theorem sp_R_take_14 (hd : b + 2 ≤ p ∧ p + 11 ≤ r) (hB : BY σ0 b cap n f) (hq : PI q) (hK : K (some (.int (tkCo n f k q rf tp gp).1)) (rs σ0 r b p k (tkCo n f k q rf tp gp).2.1 (tkCo n f k q rf tp gp).2.2.1 (tkCo n f k q rf tp gp).2.2.2.1 (tkCo n f k q rf tp gp).2.2.2.2)) : a_C G m_R_take 7 151 [.ref r, .int 14] (rs σ0 r b p k q rf tp gp) K := by
  refine a_enter rfl (Nat.le_of_ble_eq_true rfl) ?_
  refine a_iload_n d_R_take_0 rfl rfl ?_
  refine a_tsw17_1 (t0 := 84) (t1 := 89) (t2 := 94) (t3 := 101) (t4 := 106) (t5 := 114) (t6 := 119) (t7 := 124) (t8 := 129) (t9 := 134) (t10 := 152) (t11 := 157) (t12 := 175) (t13 := 180) (t14 := 185) (t15 := 190) (t16 := 195) (td := 200) d_R_take_1 (by decide) (by decide) (by decide) (by decide) (by decide) (by decide) (by decide) (by decide) (by decide) (by decide) (by decide) (by decide) (by decide) (by decide) (by decide) (by decide) (by decide) (by decide) (fun e => absurd e (by decide)) (fun e => absurd e (by decide)) (fun e => absurd e (by decide)) (fun e => absurd e (by decide)) (fun e => absurd e (by decide)) (fun e => absurd e (by decide)) (fun e => absurd e (by decide)) (fun e => absurd e (by decide)) (fun e => absurd e (by decide)) (fun e => absurd e (by decide)) (fun e => absurd e (by decide)) (fun e => absurd e (by decide)) (fun e => absurd e (by decide)) (fun _ => ?_) (fun e => absurd e (by decide)) (fun e => absurd e (by decide)) (fun e => absurd e (by decide)) (fun _ _ _ _ _ _ _ _ _ _ _ _ _ e _ _ _ => absurd rfl e)
  refine a_aload_n d_R_take_180 rfl rfl ?_
  apply a_callV (ci := 4) 6 129 [] _ d_R_take_181 l_R_109 ⟨im_R_takeCounted, se_R_takeCounted⟩ rfl rfl rfl rfl (Nat.le_of_ble_eq_true rfl) ⟨Nat.le_of_ble_eq_true rfl, Nat.le_of_ble_eq_true rfl⟩
  · (first | exact rsR | exact rsT | exact rsTp | exact rsGp | exact rsP0 hd.2)
  refine sp_R_takeCounted hd hB hq ?_
  exact a_ireturn d_R_take_184 rfl rfl hK

set_option maxHeartbeats 400000 in
set_option maxRecDepth 100000 in
theorem sp_R_take_15 (hd : b + 2 ≤ p ∧ p + 11 ≤ r) (hB : BY σ0 b cap n f) (hq : PI q) (hK : K (some (.int (tkOp n f k q rf tp gp).1)) (rs σ0 r b p k (tkOp n f k q rf tp gp).2.1 (tkOp n f k q rf tp gp).2.2.1 (tkOp n f k q rf tp gp).2.2.2.1 (tkOp n f k q rf tp gp).2.2.2.2)) : a_C G m_R_take 7 151 [.ref r, .int 15] (rs σ0 r b p k q rf tp gp) K := by
  refine a_enter rfl (Nat.le_of_ble_eq_true rfl) ?_
  refine a_iload_n d_R_take_0 rfl rfl ?_
  refine a_tsw17_1 (t0 := 84) (t1 := 89) (t2 := 94) (t3 := 101) (t4 := 106) (t5 := 114) (t6 := 119) (t7 := 124) (t8 := 129) (t9 := 134) (t10 := 152) (t11 := 157) (t12 := 175) (t13 := 180) (t14 := 185) (t15 := 190) (t16 := 195) (td := 200) d_R_take_1 (by decide) (by decide) (by decide) (by decide) (by decide) (by decide) (by decide) (by decide) (by decide) (by decide) (by decide) (by decide) (by decide) (by decide) (by decide) (by decide) (by decide) (by decide) (fun e => absurd e (by decide)) (fun e => absurd e (by decide)) (fun e => absurd e (by decide)) (fun e => absurd e (by decide)) (fun e => absurd e (by decide)) (fun e => absurd e (by decide)) (fun e => absurd e (by decide)) (fun e => absurd e (by decide)) (fun e => absurd e (by decide)) (fun e => absurd e (by decide)) (fun e => absurd e (by decide)) (fun e => absurd e (by decide)) (fun e => absurd e (by decide)) (fun e => absurd e (by decide)) (fun _ => ?_) (fun e => absurd e (by decide)) (fun e => absurd e (by decide)) (fun _ _ _ _ _ _ _ _ _ _ _ _ _ _ e _ _ => absurd rfl e)
  refine a_aload_n d_R_take_185 rfl rfl ?_
  apply a_callV (ci := 4) 6 127 [] _ d_R_take_186 l_R_112 ⟨im_R_takeOp, se_R_takeOp⟩ rfl rfl rfl rfl (Nat.le_of_ble_eq_true rfl) ⟨Nat.le_of_ble_eq_true rfl, Nat.le_of_ble_eq_true rfl⟩
  · (first | exact rsR | exact rsT | exact rsTp | exact rsGp | exact rsP0 hd.2)
  refine sp_R_takeOp hd hB hq ?_
  exact a_ireturn d_R_take_189 rfl rfl hK

set_option maxHeartbeats 400000 in
set_option maxRecDepth 100000 in
theorem sp_R_take_16 {c t : Nat} (hc7 : rf 7 = nI c) (hc : c < 216) (hct : q.2.2 10 c = nI t) (ht : t < 4) (hd : b + 2 ≤ p ∧ p + 11 ≤ r) (hB : BY σ0 b cap n f) (hq : PI q) (hK : K (some (.int (tkBo n f k q rf tp gp c t).1)) (rs σ0 r b p k (tkBo n f k q rf tp gp c t).2.1 (tkBo n f k q rf tp gp c t).2.2.1 (tkBo n f k q rf tp gp c t).2.2.2.1 (tkBo n f k q rf tp gp c t).2.2.2.2)) : a_C G m_R_take 7 151 [.ref r, .int 16] (rs σ0 r b p k q rf tp gp) K := by
  refine a_enter rfl (Nat.le_of_ble_eq_true rfl) ?_
  refine a_iload_n d_R_take_0 rfl rfl ?_
  refine a_tsw17_1 (t0 := 84) (t1 := 89) (t2 := 94) (t3 := 101) (t4 := 106) (t5 := 114) (t6 := 119) (t7 := 124) (t8 := 129) (t9 := 134) (t10 := 152) (t11 := 157) (t12 := 175) (t13 := 180) (t14 := 185) (t15 := 190) (t16 := 195) (td := 200) d_R_take_1 (by decide) (by decide) (by decide) (by decide) (by decide) (by decide) (by decide) (by decide) (by decide) (by decide) (by decide) (by decide) (by decide) (by decide) (by decide) (by decide) (by decide) (by decide) (fun e => absurd e (by decide)) (fun e => absurd e (by decide)) (fun e => absurd e (by decide)) (fun e => absurd e (by decide)) (fun e => absurd e (by decide)) (fun e => absurd e (by decide)) (fun e => absurd e (by decide)) (fun e => absurd e (by decide)) (fun e => absurd e (by decide)) (fun e => absurd e (by decide)) (fun e => absurd e (by decide)) (fun e => absurd e (by decide)) (fun e => absurd e (by decide)) (fun e => absurd e (by decide)) (fun e => absurd e (by decide)) (fun _ => ?_) (fun e => absurd e (by decide)) (fun _ _ _ _ _ _ _ _ _ _ _ _ _ _ _ e _ => absurd rfl e)
  refine a_aload_n d_R_take_190 rfl rfl ?_
  apply a_callV (ci := 4) 2 45 [] _ d_R_take_191 l_R_115 ⟨im_R_takeBound, se_R_takeBound⟩ rfl rfl rfl rfl (Nat.le_of_ble_eq_true rfl) ⟨Nat.le_of_ble_eq_true rfl, Nat.le_of_ble_eq_true rfl⟩
  · (first | exact rsR | exact rsT | exact rsTp | exact rsGp | exact rsP0 hd.2)
  refine sp_R_takeBound hc7 hc hct ht hd hB hq ?_
  exact a_ireturn d_R_take_194 rfl rfl hK

set_option maxHeartbeats 400000 in
set_option maxRecDepth 100000 in
theorem sp_R_take_17 (hd : b + 2 ≤ p ∧ p + 11 ≤ r) (hB : BY σ0 b cap n f) (hq : PI q) (hK : K (some (.int (tkTC n f k q rf tp gp).1)) (rs σ0 r b p k (tkTC n f k q rf tp gp).2.1 (tkTC n f k q rf tp gp).2.2.1 (tkTC n f k q rf tp gp).2.2.2.1 (tkTC n f k q rf tp gp).2.2.2.2)) : a_C G m_R_take 7 151 [.ref r, .int 17] (rs σ0 r b p k q rf tp gp) K := by
  refine a_enter rfl (Nat.le_of_ble_eq_true rfl) ?_
  refine a_iload_n d_R_take_0 rfl rfl ?_
  refine a_tsw17_1 (t0 := 84) (t1 := 89) (t2 := 94) (t3 := 101) (t4 := 106) (t5 := 114) (t6 := 119) (t7 := 124) (t8 := 129) (t9 := 134) (t10 := 152) (t11 := 157) (t12 := 175) (t13 := 180) (t14 := 185) (t15 := 190) (t16 := 195) (td := 200) d_R_take_1 (by decide) (by decide) (by decide) (by decide) (by decide) (by decide) (by decide) (by decide) (by decide) (by decide) (by decide) (by decide) (by decide) (by decide) (by decide) (by decide) (by decide) (by decide) (fun e => absurd e (by decide)) (fun e => absurd e (by decide)) (fun e => absurd e (by decide)) (fun e => absurd e (by decide)) (fun e => absurd e (by decide)) (fun e => absurd e (by decide)) (fun e => absurd e (by decide)) (fun e => absurd e (by decide)) (fun e => absurd e (by decide)) (fun e => absurd e (by decide)) (fun e => absurd e (by decide)) (fun e => absurd e (by decide)) (fun e => absurd e (by decide)) (fun e => absurd e (by decide)) (fun e => absurd e (by decide)) (fun e => absurd e (by decide)) (fun _ => ?_) (fun _ _ _ _ _ _ _ _ _ _ _ _ _ _ _ _ e => absurd rfl e)
  refine a_aload_n d_R_take_195 rfl rfl ?_
  apply a_callV (ci := 4) 1 21 [] _ d_R_take_196 l_R_118 ⟨im_R_takeTestClose, se_R_takeTestClose⟩ rfl rfl rfl rfl (Nat.le_of_ble_eq_true rfl) ⟨Nat.le_of_ble_eq_true rfl, Nat.le_of_ble_eq_true rfl⟩
  · (first | exact rsR | exact rsT | exact rsTp | exact rsGp | exact rsP0 hd.2)
  refine sp_R_takeTestClose hd hB hq ?_
  exact a_ireturn d_R_take_199 rfl rfl hK

set_option maxHeartbeats 400000 in
set_option maxRecDepth 100000 in
theorem sp_R_take_10 (hd : b + 2 ≤ p ∧ p + 11 ≤ r) (hB : BY σ0 b cap n f) (hq : PI q) (hK : K (some (.int (if (if k.2.1 = 2 then (1 : Int32) else 0) = 0 then -1 else 6))) (rs σ0 r b p k q rf tp gp)) : a_C G m_R_take 7 151 [.ref r, .int 10] (rs σ0 r b p k q rf tp gp) K := by
  refine a_enter rfl (Nat.le_of_ble_eq_true rfl) ?_
  refine a_iload_n d_R_take_0 rfl rfl ?_
  refine a_tsw17_1 (t0 := 84) (t1 := 89) (t2 := 94) (t3 := 101) (t4 := 106) (t5 := 114) (t6 := 119) (t7 := 124) (t8 := 129) (t9 := 134) (t10 := 152) (t11 := 157) (t12 := 175) (t13 := 180) (t14 := 185) (t15 := 190) (t16 := 195) (td := 200) d_R_take_1 (by decide) (by decide) (by decide) (by decide) (by decide) (by decide) (by decide) (by decide) (by decide) (by decide) (by decide) (by decide) (by decide) (by decide) (by decide) (by decide) (by decide) (by decide) (fun e => absurd e (by decide)) (fun e => absurd e (by decide)) (fun e => absurd e (by decide)) (fun e => absurd e (by decide)) (fun e => absurd e (by decide)) (fun e => absurd e (by decide)) (fun e => absurd e (by decide)) (fun e => absurd e (by decide)) (fun e => absurd e (by decide)) (fun _ => ?_) (fun e => absurd e (by decide)) (fun e => absurd e (by decide)) (fun e => absurd e (by decide)) (fun e => absurd e (by decide)) (fun e => absurd e (by decide)) (fun e => absurd e (by decide)) (fun e => absurd e (by decide)) (fun _ _ _ _ _ _ _ _ _ e _ _ _ _ _ _ _ => absurd rfl e)
  refine a_aload_n d_R_take_134 rfl rfl ?_
  apply a_getfield d_R_take_135 f_R_14
  · first | exact rsR | exact rsT | exact rsTp | exact rsGp | exact rsP0 hd.2
  · rfl
  refine a_iconst (v := 2) d_R_take_138 (by decide) ?_
  apply a_callV (ci := 5) 0 0 [_] _ d_R_take_139 l_R_74 ⟨im_T_isA, se_T_isA⟩ rfl rfl rfl rfl (Nat.le_of_ble_eq_true rfl) ⟨Nat.le_of_ble_eq_true rfl, Nat.le_of_ble_eq_true rfl⟩
  · (first | exact rsR | exact rsT | exact rsTp | exact rsGp | exact rsP0 hd.2)
  refine sp_T_isA rsT ?_
  refine a_if_eq (tgt := 150) d_R_take_142 (by decide) (fun c_1 => ?_) (fun c_1 => ?_)
  · refine a_iconst (v := (-1)) d_R_take_150 (by decide) ?_
    refine a_ireturn d_R_take_151 rfl rfl ?_
    first | (simp only [if_pos c_1, if_true] at hK; exact hK) | contradiction
  · refine a_bipush (v := 6) d_R_take_145 (by decide) ?_
    refine a_goto (tgt := 151) d_R_take_147 (by decide) ?_
    refine a_ireturn d_R_take_151 rfl rfl ?_
    first | (simp only [if_neg c_1, if_true] at hK; exact hK) | contradiction

set_option maxHeartbeats 400000 in
set_option maxRecDepth 100000 in
theorem sp_R_take_12 (hd : b + 2 ≤ p ∧ p + 11 ≤ r) (hB : BY σ0 b cap n f) (hq : PI q) (hK : K (some (.int (if (if k.2.1 = 1 then (1 : Int32) else 0) = 0 then -1 else 11))) (rs σ0 r b p k q rf tp gp)) : a_C G m_R_take 7 151 [.ref r, .int 12] (rs σ0 r b p k q rf tp gp) K := by
  refine a_enter rfl (Nat.le_of_ble_eq_true rfl) ?_
  refine a_iload_n d_R_take_0 rfl rfl ?_
  refine a_tsw17_1 (t0 := 84) (t1 := 89) (t2 := 94) (t3 := 101) (t4 := 106) (t5 := 114) (t6 := 119) (t7 := 124) (t8 := 129) (t9 := 134) (t10 := 152) (t11 := 157) (t12 := 175) (t13 := 180) (t14 := 185) (t15 := 190) (t16 := 195) (td := 200) d_R_take_1 (by decide) (by decide) (by decide) (by decide) (by decide) (by decide) (by decide) (by decide) (by decide) (by decide) (by decide) (by decide) (by decide) (by decide) (by decide) (by decide) (by decide) (by decide) (fun e => absurd e (by decide)) (fun e => absurd e (by decide)) (fun e => absurd e (by decide)) (fun e => absurd e (by decide)) (fun e => absurd e (by decide)) (fun e => absurd e (by decide)) (fun e => absurd e (by decide)) (fun e => absurd e (by decide)) (fun e => absurd e (by decide)) (fun e => absurd e (by decide)) (fun e => absurd e (by decide)) (fun _ => ?_) (fun e => absurd e (by decide)) (fun e => absurd e (by decide)) (fun e => absurd e (by decide)) (fun e => absurd e (by decide)) (fun e => absurd e (by decide)) (fun _ _ _ _ _ _ _ _ _ _ _ e _ _ _ _ _ => absurd rfl e)
  refine a_aload_n d_R_take_157 rfl rfl ?_
  apply a_getfield d_R_take_158 f_R_14
  · first | exact rsR | exact rsT | exact rsTp | exact rsGp | exact rsP0 hd.2
  · rfl
  refine a_iconst (v := 1) d_R_take_161 (by decide) ?_
  apply a_callV (ci := 5) 0 0 [_] _ d_R_take_162 l_R_74 ⟨im_T_isA, se_T_isA⟩ rfl rfl rfl rfl (Nat.le_of_ble_eq_true rfl) ⟨Nat.le_of_ble_eq_true rfl, Nat.le_of_ble_eq_true rfl⟩
  · (first | exact rsR | exact rsT | exact rsTp | exact rsGp | exact rsP0 hd.2)
  refine sp_T_isA rsT ?_
  refine a_if_eq (tgt := 173) d_R_take_165 (by decide) (fun c_1 => ?_) (fun c_1 => ?_)
  · refine a_iconst (v := (-1)) d_R_take_173 (by decide) ?_
    refine a_ireturn d_R_take_174 rfl rfl ?_
    first | (simp only [if_pos c_1, if_true] at hK; exact hK) | contradiction
  · refine a_bipush (v := 11) d_R_take_168 (by decide) ?_
    refine a_goto (tgt := 174) d_R_take_170 (by decide) ?_
    refine a_ireturn d_R_take_174 rfl rfl ?_
    first | (simp only [if_neg c_1, if_true] at hK; exact hK) | contradiction

set_option maxHeartbeats 400000 in
set_option maxRecDepth 100000 in
theorem sp_R_linked {w : Int32} {pl : Nat} (hd : b + 2 ≤ p ∧ p + 11 ≤ r) (hB : BY σ0 b cap n f) (hq : PI q) (hp : pl < 65536) (hK : K (some (.int (fnd q w (nm32 n f pl)))) (rs σ0 r b p k q (if fnd q w (nm32 n f pl) = -1 then upd (upd rf 4 5) 5 (nI pl) else rf) tp gp)) : a_C G m_R_linked 2 46 [.ref r, .int w, .int (nI pl)] (rs σ0 r b p k q rf tp gp) K := by
  refine a_enter rfl (Nat.le_of_ble_eq_true rfl) ?_
  refine a_aload_n d_R_linked_0 rfl rfl ?_
  apply a_getfield d_R_linked_1 f_R_29
  · first | exact rsR | exact rsT | exact rsTp | exact rsGp | exact rsP0 hd.2
  · rfl
  refine a_iload_n d_R_linked_4 rfl rfl ?_
  refine a_aload_n d_R_linked_5 rfl rfl ?_
  apply a_getfield d_R_linked_6 f_R_14
  · first | exact rsR | exact rsT | exact rsTp | exact rsGp | exact rsP0 hd.2
  · rfl
  refine a_iload_n d_R_linked_9 rfl rfl ?_
  apply a_callV (ci := 5) 1 21 [_] _ d_R_linked_10 l_R_270 ⟨im_T_nameAt, se_T_nameAt⟩ rfl rfl rfl rfl (Nat.le_of_ble_eq_true rfl) ⟨Nat.le_of_ble_eq_true rfl, Nat.le_of_ble_eq_true rfl⟩
  · (first | exact rsR | exact rsT | exact rsTp | exact rsGp | exact rsP0 hd.2)
  refine sp_T_nameAt (rsB hd.2 hd.1 hB) rsT hp ?_
  apply a_callV (ci := 2) 1 21 [_, _] _ d_R_linked_13 l_R_145 ⟨im_P_find, se_P_find⟩ rfl rfl rfl rfl (Nat.le_of_ble_eq_true rfl) ⟨Nat.le_of_ble_eq_true rfl, Nat.le_of_ble_eq_true rfl⟩
  · (first | exact rsR | exact rsT | exact rsTp | exact rsGp | exact rsP0 hd.2)
  refine sp_P_find (rsP hd.2 hq) ?_
  refine a_istore_n d_R_linked_16 rfl (by decide) ?_
  refine a_iload_n d_R_linked_17 rfl rfl ?_
  refine a_iconst (v := (-1)) d_R_linked_18 (by decide) ?_
  refine a_icmp_ne (tgt := 28) d_R_linked_19 (by decide) (fun c_1 => ?_) (fun c_1 => ?_)
  · refine a_iload_n d_R_linked_28 rfl rfl ?_
    refine a_ireturn d_R_linked_29 rfl rfl ?_
    first | (simp only [if_neg c_1, if_true] at hK; exact hK) | contradiction
  · refine a_aload_n d_R_linked_22 rfl rfl ?_
    refine a_iconst (v := 5) d_R_linked_23 (by decide) ?_
    refine a_iload_n d_R_linked_24 rfl rfl ?_
    apply a_callV (ci := 4) 0 0 [_, _] _ d_R_linked_25 l_R_60 ⟨im_R_fail, se_R_fail⟩ rfl rfl rfl rfl (Nat.le_of_ble_eq_true rfl) ⟨Nat.le_of_ble_eq_true rfl, Nat.le_of_ble_eq_true rfl⟩
    · (first | exact rsR | exact rsT | exact rsTp | exact rsGp | exact rsP0 hd.2)
    refine sp_R_failS ?_
    refine a_iload_n d_R_linked_28 rfl rfl ?_
    refine a_ireturn d_R_linked_29 rfl rfl ?_
    first | (simp only [if_pos c_1, if_true] at hK; exact hK) | contradiction

def lq (q : aP) (S Gl : Nat → Int32) : aP := (q.1, q.2.1, setA (setA q.2.2 11 S) 9 Gl)
theorem lq_PI (hq : PI q) (S Gl : Nat → Int32) : PI (lq q S Gl) := hq
theorem lq_self : lq q (q.2.2 11) (q.2.2 9) = q := by
  unfold lq setA
  have : (fun a => if a = 9 then q.2.2 9 else (fun a => if a = 11 then q.2.2 11 else q.2.2 a) a) = q.2.2 := by
    funext a
    by_cases h : a = 9
    · simp [h]
    · by_cases h2 : a = 11
      · simp [h2]
      · simp [h, h2]
  rw [this]
theorem lq_r11 (S Gl : Nat → Int32) : (lq q S Gl).2.2 11 = S := rfl
theorem lq_11 (S Gl : Nat → Int32) (i : Nat) (v : Int32) : ((lq q S Gl).1, (lq q S Gl).2.1, updA (lq q S Gl).2.2 11 i v) = lq q (upd S i v) Gl := by
  unfold lq
  refine congrArg (fun z => (q.1, q.2.1, z)) (funext fun a => ?_)
  unfold updA setA
  by_cases h : a = 11
  · subst h; simp
  · by_cases h2 : a = 9
    · subst h2; simp
    · simp [h, h2]
theorem lq_9 (S Gl : Nat → Int32) (i : Nat) (v : Int32) : ((lq q S Gl).1, (lq q S Gl).2.1, updA (lq q S Gl).2.2 9 i v) = lq q S (upd Gl i v) := by
  unfold lq
  refine congrArg (fun z => (q.1, q.2.1, z)) (funext fun a => ?_)
  unfold updA setA
  by_cases h : a = 9
  · subst h; simp
  · simp [h]
theorem lq_fndF (S Gl : Nat → Int32) (w : Int32) (nm : Int64) : ∀ m i : Nat, fndF (lq q S Gl) w nm i m = fndF q w nm i m
  | 0, _ => rfl
  | m + 1, i => by
    unfold fndF
    rw [lq_fndF S Gl w nm m (i + 1)]
    rfl
theorem lq_fnd (S Gl : Nat → Int32) (w : Int32) (nm : Int64) : fnd (lq q S Gl) w nm = fnd q w nm := lq_fndF S Gl w nm _ _
def lkI (n : Nat) (f : Nat → Nat) (q : aP) (tp : Nat → Int32) (ar : Int32) (x : Nat) (S rf : Nat → Int32) : (Nat → Int32) × (Nat → Int32) :=
  if pof (S x) 0 = 1 then (upd S x (S x &&& (-8) ||| fnd q 0 (nm32 n f (tp x).toNatClampNeg) &&& 7), if fnd q 0 (nm32 n f (tp x).toNatClampNeg) = -1 then upd (upd rf 4 5) 5 (tp x) else rf)
  else if pof (S x) 1 < ar then (S, rf) else (S, upd (upd rf 4 6) 5 (tp x))
def lkT (n : Nat) (f : Nat → Nat) (q : aP) (tp : Nat → Int32) (ar : Int32) (c : Nat) : Nat → Nat → (Nat → Int32) → (Nat → Int32) → (Nat → Int32) × (Nat → Int32)
  | 0, _, S, rf => (S, rf)
  | m + 1, i, S, rf => if rf 4 = 0 then lkT n f q tp ar c m (i + 1) (lkI n f q tp ar (c * 4 + i) S rf).1 (lkI n f q tp ar (c * 4 + i) S rf).2 else (S, rf)
def lkC (n : Nat) (f : Nat → Nat) (q : aP) (tp gp : Nat → Int32) (w : Int32) (c t : Nat) (L : (Nat → Int32) × (Nat → Int32) × (Nat → Int32)) : (Nat → Int32) × (Nat → Int32) × (Nat → Int32) :=
  if w = 0 then ((lkT n f q tp (argN (q.2.2 8 c)) c t 0 L.1 L.2.2).1, L.2.1, (lkT n f q tp (argN (q.2.2 8 c)) c t 0 L.1 L.2.2).2)
  else if (lkT n f q tp (argN (q.2.2 8 c)) c t 0 L.1 L.2.2).2 4 = 0 then ((lkT n f q tp (argN (q.2.2 8 c)) c t 0 L.1 L.2.2).1, upd L.2.1 c (fnd q 1 (nm32 n f (gp c).toNatClampNeg)), if fnd q 1 (nm32 n f (gp c).toNatClampNeg) = -1 then upd (upd (lkT n f q tp (argN (q.2.2 8 c)) c t 0 L.1 L.2.2).2 4 5) 5 (gp c) else (lkT n f q tp (argN (q.2.2 8 c)) c t 0 L.1 L.2.2).2)
  else ((lkT n f q tp (argN (q.2.2 8 c)) c t 0 L.1 L.2.2).1, L.2.1, (lkT n f q tp (argN (q.2.2 8 c)) c t 0 L.1 L.2.2).2)
set_option maxHeartbeats 400000 in
set_option maxRecDepth 100000 in
theorem lp_R_linkClause {w kk j : Int32} {c t : Nat} {Gl : Nat → Int32} (hd : b + 2 ≤ p ∧ p + 11 ≤ r) (hB : BY σ0 b cap n f) (hq : PI q) (hc : c < 216) (hcr : crow q w kk j = nI c) (hct : q.2.2 10 c = nI t) (ht : t ≤ 4) (htp : ∀ i, i < t → ∃ pl : Nat, pl < 65536 ∧ tp (c * 4 + i) = nI pl) : ∀ (m i : Nat) (S rf : Nat → Int32), i + m = t → a_J G m_R_linkClause 3 71 136 [(0, .ref r), (1, .int w), (2, .int kk), (3, .int j)] [] (rs σ0 r b p k (lq q (lkT n f q tp (argN (q.2.2 8 c)) c m i S rf).1 Gl) (lkT n f q tp (argN (q.2.2 8 c)) c m i S rf).2 tp gp) K → a_J G m_R_linkClause 3 71 32 [(0, .ref r), (1, .int w), (2, .int kk), (3, .int j), (4, .int (nI t)), (5, .int (argN (q.2.2 8 c))), (6, .int (nI i))] [] (rs σ0 r b p k (lq q S Gl) rf tp gp) K := by
  intro m
  induction m with
  | zero =>
    intro i S rf him hJ
    refine a_iload d_R_linkClause_32 rfl ?_
    refine a_iload d_R_linkClause_34 rfl ?_
    refine a_icmp_ge (tgt := 136) d_R_linkClause_36 (by decide) (fun c_1 => ?_) (fun n9 => absurd (nI_le (by omega) (by omega)) n9)
    exact a_lvk hJ ⟨rfl, rfl, rfl, rfl, trivial⟩
  | succ m ih =>
    intro i S rf him hJ
    refine a_iload d_R_linkClause_32 rfl ?_
    refine a_iload d_R_linkClause_34 rfl ?_
    refine a_icmp_ge (tgt := 136) d_R_linkClause_36 (by decide) (fun n9 => absurd n9 (nI_ge (by omega) (by omega))) (fun c_1 => ?_)
    refine a_aload_n d_R_linkClause_39 rfl rfl ?_
    apply a_getfield d_R_linkClause_40 f_R_33
    · first | exact rsR | exact rsT | exact rsTp | exact rsGp | exact rsP0 hd.2
    · rfl
    refine a_if_ne (tgt := 136) d_R_linkClause_43 (by decide) (fun c_2 => ?_) (fun c_2 => ?_)
    · simp only [lkT, if_neg c_1, if_pos (Int32.not_le.mp c_1), if_neg c_2, if_true] at hJ
      exact a_lvk hJ ⟨rfl, rfl, rfl, rfl, trivial⟩
    · obtain ⟨pl, hp, hpl⟩ := htp i (by omega)
      have hp2 : pl < 2 ^ 31 := by omega
      have etr : trow q w kk j (nI i) = nI (c * 4 + i) := by rw [trow, hcr, if_neg (nI_m1 (by omega)), if_neg (nI_pos (by omega)), nI_clamp (by omega), hct, if_pos (nI_lt (by omega) (by omega)), show (4 : Int32) = nI 4 from rfl, pk_mul, nI_add]
      have etp : tpart (lq q S Gl) (nI (c * 4 + i)) 0 = pof (S (c * 4 + i)) 0 := by rw [tpart, if_neg (nI_pos (by omega)), if_pos (show nI (c * 4 + i) < 864 from nI_lt (b := 864) (by omega) (by omega)), nI_clamp (by omega)]; rfl
      have etp1 : tpart (lq q S Gl) (nI (c * 4 + i)) 1 = pof (S (c * 4 + i)) 1 := by rw [tpart, if_neg (nI_pos (by omega)), if_pos (show nI (c * 4 + i) < 864 from nI_lt (b := 864) (by omega) (by omega)), nI_clamp (by omega)]; rfl
      refine a_aload_n d_R_linkClause_46 rfl rfl ?_
      apply a_getfield d_R_linkClause_47 f_R_29
      · first | exact rsR | exact rsT | exact rsTp | exact rsGp | exact rsP0 hd.2
      · rfl
      refine a_iload_n d_R_linkClause_50 rfl rfl ?_
      refine a_iload_n d_R_linkClause_51 rfl rfl ?_
      refine a_iload_n d_R_linkClause_52 rfl rfl ?_
      refine a_iload d_R_linkClause_53 rfl ?_
      apply a_callV (ci := 2) 2 46 [_, _, _, _] _ d_R_linkClause_55 l_R_248 ⟨im_P_testRow, se_P_testRow⟩ rfl rfl rfl rfl (Nat.le_of_ble_eq_true rfl) ⟨Nat.le_of_ble_eq_true rfl, Nat.le_of_ble_eq_true rfl⟩
      · (first | exact rsR | exact rsT | exact rsTp | exact rsGp | exact rsP0 hd.2)
      refine sp_P_testRow (rsP hd.2 (lq_PI hq S Gl)) ?_
      rw [show trow (lq q S Gl) w kk j (nI i) = nI (c * 4 + i) from etr]
      refine a_istore d_R_linkClause_58 (by decide) ?_
      refine a_aload_n d_R_linkClause_60 rfl rfl ?_
      apply a_getfield d_R_linkClause_61 f_R_29
      · first | exact rsR | exact rsT | exact rsTp | exact rsGp | exact rsP0 hd.2
      · rfl
      refine a_iload d_R_linkClause_64 rfl ?_
      refine a_iconst (v := 0) d_R_linkClause_66 (by decide) ?_
      apply a_callV (ci := 2) 1 21 [_, _] _ d_R_linkClause_67 l_R_251 ⟨im_P_testPart, se_P_testPart⟩ rfl rfl rfl rfl (Nat.le_of_ble_eq_true rfl) ⟨Nat.le_of_ble_eq_true rfl, Nat.le_of_ble_eq_true rfl⟩
      · (first | exact rsR | exact rsT | exact rsTp | exact rsGp | exact rsP0 hd.2)
      refine sp_P_testPart (rsP hd.2 (lq_PI hq S Gl)) ?_
      rw [etp]
      refine a_iconst (v := 1) d_R_linkClause_70 (by decide) ?_
      refine a_icmp_ne (tgt := 100) d_R_linkClause_71 (by decide) (fun c_3 => ?_) (fun c_3 => ?_)
      · refine a_aload_n d_R_linkClause_100 rfl rfl ?_
        apply a_getfield d_R_linkClause_101 f_R_29
        · first | exact rsR | exact rsT | exact rsTp | exact rsGp | exact rsP0 hd.2
        · rfl
        refine a_iload d_R_linkClause_104 rfl ?_
        refine a_iconst (v := 1) d_R_linkClause_106 (by decide) ?_
        apply a_callV (ci := 2) 1 21 [_, _] _ d_R_linkClause_107 l_R_251 ⟨im_P_testPart, se_P_testPart⟩ rfl rfl rfl rfl (Nat.le_of_ble_eq_true rfl) ⟨Nat.le_of_ble_eq_true rfl, Nat.le_of_ble_eq_true rfl⟩
        · (first | exact rsR | exact rsT | exact rsTp | exact rsGp | exact rsP0 hd.2)
        refine sp_P_testPart (rsP hd.2 (lq_PI hq S Gl)) ?_
        rw [etp1]
        refine a_iload d_R_linkClause_110 rfl ?_
        refine a_icmp_lt (tgt := 130) d_R_linkClause_112 (by decide) (fun c_4 => ?_) (fun c_4 => ?_)
        · refine a_iinc (c0 := 1) d_R_linkClause_130 rfl (by decide) (by decide) ?_
          refine a_goto (tgt := 32) d_R_linkClause_133 (by decide) ?_
          rw [nI_1]
          simp only [lkT, lkI, hpl, nI_clamp hp2, if_neg c_1, if_pos (Int32.not_le.mp c_1), if_pos c_2, if_neg c_3, if_pos c_4, if_neg (Int32.not_le.mpr c_4), if_true] at hJ
          refine a_lvk (l := [(0, .ref r), (1, .int w), (2, .int kk), (3, .int j), (4, .int (nI t)), (5, .int (argN (q.2.2 8 c))), (6, .int (nI (i + 1)))]) ?_ ⟨rfl, rfl, rfl, rfl, rfl, rfl, rfl, trivial⟩
          refine ih (i + 1) _ _ (by omega) ?_
          first | exact hJ | (rw [hpl]; exact hJ)
        · refine a_aload_n d_R_linkClause_115 rfl rfl ?_
          refine a_bipush (v := 6) d_R_linkClause_116 (by decide) ?_
          refine a_aload_n d_R_linkClause_118 rfl rfl ?_
          apply a_getfield d_R_linkClause_119 f_R_22
          · first | exact rsR | exact rsT | exact rsTp | exact rsGp | exact rsP0 hd.2
          · rfl
          refine a_iload d_R_linkClause_122 rfl ?_
          refine a_callS 0 0 [_, _] _ d_R_linkClause_124 l_R_254 is_R_placeIn rfl rfl (Nat.le_of_ble_eq_true rfl) ⟨Nat.le_of_ble_eq_true rfl, Nat.le_of_ble_eq_true rfl⟩ ?_
          refine sp_R_placeIn (by decide) rsTp (vp_in_nI (show c * 4 + i < 864 by omega) (by decide)) ?_
          rw [nI_clamp (by omega)]
          apply a_callV (ci := 4) 0 0 [_, _] _ d_R_linkClause_127 l_R_60 ⟨im_R_fail, se_R_fail⟩ rfl rfl rfl rfl (Nat.le_of_ble_eq_true rfl) ⟨Nat.le_of_ble_eq_true rfl, Nat.le_of_ble_eq_true rfl⟩
          · (first | exact rsR | exact rsT | exact rsTp | exact rsGp | exact rsP0 hd.2)
          refine sp_R_failS ?_
          refine a_iinc (c0 := 1) d_R_linkClause_130 rfl (by decide) (by decide) ?_
          refine a_goto (tgt := 32) d_R_linkClause_133 (by decide) ?_
          rw [nI_1]
          simp only [lkT, lkI, hpl, nI_clamp hp2, if_neg c_1, if_pos (Int32.not_le.mp c_1), if_pos c_2, if_neg c_3, if_neg c_4, if_pos (Int32.not_lt.mp c_4), if_true] at hJ
          refine a_lvk (l := [(0, .ref r), (1, .int w), (2, .int kk), (3, .int j), (4, .int (nI t)), (5, .int (argN (q.2.2 8 c))), (6, .int (nI (i + 1)))]) ?_ ⟨rfl, rfl, rfl, rfl, rfl, rfl, rfl, trivial⟩
          refine ih (i + 1) _ _ (by omega) ?_
          first | exact hJ | (rw [hpl]; exact hJ)
      · refine a_aload_n d_R_linkClause_74 rfl rfl ?_
        apply a_getfield d_R_linkClause_75 f_R_29
        · first | exact rsR | exact rsT | exact rsTp | exact rsGp | exact rsP0 hd.2
        · rfl
        refine a_iload d_R_linkClause_78 rfl ?_
        refine a_aload_n d_R_linkClause_80 rfl rfl ?_
        refine a_iconst (v := 0) d_R_linkClause_81 (by decide) ?_
        refine a_aload_n d_R_linkClause_82 rfl rfl ?_
        apply a_getfield d_R_linkClause_83 f_R_22
        · first | exact rsR | exact rsT | exact rsTp | exact rsGp | exact rsP0 hd.2
        · rfl
        refine a_iload d_R_linkClause_86 rfl ?_
        refine a_callS 0 0 [_, _] _ d_R_linkClause_88 l_R_254 is_R_placeIn rfl rfl (Nat.le_of_ble_eq_true rfl) ⟨Nat.le_of_ble_eq_true rfl, Nat.le_of_ble_eq_true rfl⟩ ?_
        refine sp_R_placeIn (by decide) rsTp (vp_in_nI (show c * 4 + i < 864 by omega) (by decide)) ?_
        rw [nI_clamp (by omega)]
        apply a_callV (ci := 4) 2 46 [_, _] _ d_R_linkClause_91 l_R_258 ⟨im_R_linked, se_R_linked⟩ rfl rfl rfl rfl (Nat.le_of_ble_eq_true rfl) ⟨Nat.le_of_ble_eq_true rfl, Nat.le_of_ble_eq_true rfl⟩
        · (first | exact rsR | exact rsT | exact rsTp | exact rsGp | exact rsP0 hd.2)
        rw [hpl]
        refine sp_R_linked hd hB (lq_PI hq S Gl) hp ?_
        rw [lq_fnd]
        apply a_callV (ci := 2) 0 0 [_, _] _ d_R_linkClause_94 l_R_261 ⟨im_P_setWhich, se_P_setWhich⟩ rfl rfl rfl rfl (Nat.le_of_ble_eq_true rfl) ⟨Nat.le_of_ble_eq_true rfl, Nat.le_of_ble_eq_true rfl⟩
        · (first | exact rsR | exact rsT | exact rsTp | exact rsGp | exact rsP0 hd.2)
        refine sp_P_setWhich (rsP hd.2 (lq_PI hq S Gl)) (vp_in_nI (show c * 4 + i < 864 by omega) (by decide)) (fun τ hf hP => ?_)
        obtain rfl := rs_P hd.2 hf hP
        rw [nI_clamp (show c * 4 + i < 2 ^ 31 by omega), lq_11, lq_r11]
        refine a_goto (tgt := 130) d_R_linkClause_97 (by decide) ?_
        refine a_iinc (c0 := 1) d_R_linkClause_130 rfl (by decide) (by decide) ?_
        refine a_goto (tgt := 32) d_R_linkClause_133 (by decide) ?_
        rw [nI_1]
        simp only [lkT, lkI, hpl, nI_clamp hp2, if_neg c_1, if_pos (Int32.not_le.mp c_1), if_pos c_2, if_pos c_3, if_true] at hJ
        refine a_lvk (l := [(0, .ref r), (1, .int w), (2, .int kk), (3, .int j), (4, .int (nI t)), (5, .int (argN (q.2.2 8 c))), (6, .int (nI (i + 1)))]) ?_ ⟨rfl, rfl, rfl, rfl, rfl, rfl, rfl, trivial⟩
        refine ih (i + 1) _ _ (by omega) ?_
        first | exact hJ | (rw [hpl]; exact hJ)

set_option maxHeartbeats 400000 in
set_option maxRecDepth 100000 in
theorem sp_R_linkClause {w kk j : Int32} {c t : Nat} {S Gl : Nat → Int32} (hw : w = 0 ∨ w = 1) (hd : b + 2 ≤ p ∧ p + 11 ≤ r) (hB : BY σ0 b cap n f) (hq : PI q) (hc : c < 216) (hcr : crow q w kk j = nI c) (hct : q.2.2 10 c = nI t) (ht : t ≤ 4) (htp : ∀ x, ∃ pl : Nat, pl < 65536 ∧ tp x = nI pl) (hgp : ∀ x, ∃ pl : Nat, pl < 65536 ∧ gp x = nI pl) (hK : K none (rs σ0 r b p k (lq q (lkC n f q tp gp w c t (S, Gl, rf)).1 (lkC n f q tp gp w c t (S, Gl, rf)).2.1) (lkC n f q tp gp w c t (S, Gl, rf)).2.2 tp gp)) : a_C G m_R_linkClause 3 71 [.ref r, .int w, .int kk, .int j] (rs σ0 r b p k (lq q S Gl) rf tp gp) K := by
  refine a_enter rfl (Nat.le_of_ble_eq_true rfl) ?_
  refine a_aload_n d_R_linkClause_0 rfl rfl ?_
  apply a_getfield d_R_linkClause_1 f_R_29
  · first | exact rsR | exact rsT | exact rsTp | exact rsGp | exact rsP0 hd.2
  · rfl
  refine a_iload_n d_R_linkClause_4 rfl rfl ?_
  refine a_iload_n d_R_linkClause_5 rfl rfl ?_
  refine a_iload_n d_R_linkClause_6 rfl rfl ?_
  refine a_iconst (v := 1) d_R_linkClause_7 (by decide) ?_
  apply a_callV (ci := 2) 2 46 [_, _, _, _] _ d_R_linkClause_8 l_R_239 ⟨im_P_clausePart, se_P_clausePart⟩ rfl rfl rfl rfl (Nat.le_of_ble_eq_true rfl) ⟨Nat.le_of_ble_eq_true rfl, Nat.le_of_ble_eq_true rfl⟩
  · (first | exact rsR | exact rsT | exact rsTp | exact rsGp | exact rsP0 hd.2)
  refine sp_P_clausePart (rsP hd.2 (lq_PI hq S Gl)) ?_
  rw [show clpart (lq q S Gl) w kk j 1 = nI t from by rw [clpart, show crow (lq q S Gl) w kk j = nI c from hcr, if_neg (nI_m1 (by omega)), if_neg (by decide), if_pos rfl, nI_clamp (by omega)]; exact hct]
  refine a_istore d_R_linkClause_11 (by decide) ?_
  refine a_aload_n d_R_linkClause_13 rfl rfl ?_
  apply a_getfield d_R_linkClause_14 f_R_29
  · first | exact rsR | exact rsT | exact rsTp | exact rsGp | exact rsP0 hd.2
  · rfl
  refine a_iload_n d_R_linkClause_17 rfl rfl ?_
  refine a_iload_n d_R_linkClause_18 rfl rfl ?_
  refine a_iload_n d_R_linkClause_19 rfl rfl ?_
  refine a_iconst (v := 0) d_R_linkClause_20 (by decide) ?_
  apply a_callV (ci := 2) 2 46 [_, _, _, _] _ d_R_linkClause_21 l_R_239 ⟨im_P_clausePart, se_P_clausePart⟩ rfl rfl rfl rfl (Nat.le_of_ble_eq_true rfl) ⟨Nat.le_of_ble_eq_true rfl, Nat.le_of_ble_eq_true rfl⟩
  · (first | exact rsR | exact rsT | exact rsTp | exact rsGp | exact rsP0 hd.2)
  refine sp_P_clausePart (rsP hd.2 (lq_PI hq S Gl)) ?_
  rw [show clpart (lq q S Gl) w kk j 0 = q.2.2 8 c from by rw [clpart, show crow (lq q S Gl) w kk j = nI c from hcr, if_neg (nI_m1 (by omega)), if_pos rfl, nI_clamp (by omega)]; rfl]
  refine a_callS 0 0 [_] _ d_R_linkClause_24 l_R_243 is_C_argumentsOf rfl rfl (Nat.le_of_ble_eq_true rfl) ⟨Nat.le_of_ble_eq_true rfl, Nat.le_of_ble_eq_true rfl⟩ ?_
  refine sp_C_argumentsOf ?_
  refine a_istore d_R_linkClause_27 (by decide) ?_
  refine a_iconst (v := 0) d_R_linkClause_29 (by decide) ?_
  refine a_istore d_R_linkClause_30 (by decide) ?_
  refine a_lvk (lp_R_linkClause hd hB hq hc hcr hct ht (fun i _ => htp _) t 0 S rf (by omega) ?_) ⟨rfl, rfl, rfl, rfl, rfl, rfl, rfl, trivial⟩
  refine a_iload_n d_R_linkClause_136 rfl rfl ?_
  refine a_if_eq (tgt := 182) d_R_linkClause_137 (by decide) (fun c_1 => ?_) (fun c_1 => ?_)
  · refine a_return d_R_linkClause_182 rfl ?_
    first | (simp only [lkC, hpl, nI_clamp hp2, if_pos c_1, if_true] at hK; exact hK) | (simp only [lkC, if_pos c_1, if_true] at hK; exact hK)
  · obtain rfl : w = 1 := hw.resolve_left (by assumption)
    refine a_aload_n d_R_linkClause_140 rfl rfl ?_
    apply a_getfield d_R_linkClause_141 f_R_33
    · first | exact rsR | exact rsT | exact rsTp | exact rsGp | exact rsP0 hd.2
    · rfl
    refine a_if_ne (tgt := 182) d_R_linkClause_144 (by decide) (fun c_2 => ?_) (fun c_2 => ?_)
    · refine a_return d_R_linkClause_182 rfl ?_
      first | (simp only [lkC, hpl, nI_clamp hp2, if_neg c_1, if_neg c_2, if_true] at hK; exact hK) | (simp only [lkC, if_neg c_1, if_neg c_2, if_true] at hK; exact hK)
    · refine a_aload_n d_R_linkClause_147 rfl rfl ?_
      apply a_getfield d_R_linkClause_148 f_R_29
      · first | exact rsR | exact rsT | exact rsTp | exact rsGp | exact rsP0 hd.2
      · rfl
      refine a_iconst (v := 1) d_R_linkClause_151 (by decide) ?_
      refine a_iload_n d_R_linkClause_152 rfl rfl ?_
      refine a_iload_n d_R_linkClause_153 rfl rfl ?_
      apply a_callV (ci := 2) 1 22 [_, _, _] _ d_R_linkClause_154 l_R_264 ⟨im_P_clauseRow, se_P_clauseRow⟩ rfl rfl rfl rfl (Nat.le_of_ble_eq_true rfl) ⟨Nat.le_of_ble_eq_true rfl, Nat.le_of_ble_eq_true rfl⟩
      · (first | exact rsR | exact rsT | exact rsTp | exact rsGp | exact rsP0 hd.2)
      refine sp_P_clauseRow (rsP hd.2 (lq_PI hq (lkT n f q tp (argN (q.2.2 8 c)) c t 0 S rf).1 Gl)) ?_
      rw [show crow (lq q (lkT n f q tp (argN (q.2.2 8 c)) c t 0 S rf).1 Gl) 1 kk j = nI c from hcr]
      refine a_istore d_R_linkClause_157 (by decide) ?_
      refine a_aload_n d_R_linkClause_159 rfl rfl ?_
      apply a_getfield d_R_linkClause_160 f_R_29
      · first | exact rsR | exact rsT | exact rsTp | exact rsGp | exact rsP0 hd.2
      · rfl
      refine a_iload d_R_linkClause_163 rfl ?_
      refine a_aload_n d_R_linkClause_165 rfl rfl ?_
      refine a_iconst (v := 1) d_R_linkClause_166 (by decide) ?_
      refine a_aload_n d_R_linkClause_167 rfl rfl ?_
      apply a_getfield d_R_linkClause_168 f_R_26
      · first | exact rsR | exact rsT | exact rsTp | exact rsGp | exact rsP0 hd.2
      · rfl
      refine a_iload d_R_linkClause_171 rfl ?_
      refine a_callS 0 0 [_, _] _ d_R_linkClause_173 l_R_254 is_R_placeIn rfl rfl (Nat.le_of_ble_eq_true rfl) ⟨Nat.le_of_ble_eq_true rfl, Nat.le_of_ble_eq_true rfl⟩ ?_
      refine sp_R_placeIn (by decide) rsGp (vp_in_nI hc (by decide)) ?_
      rw [nI_clamp (by omega)]
      obtain ⟨pl, hp, hpl⟩ := hgp c
      have hp2 : pl < 2 ^ 31 := by omega
      apply a_callV (ci := 4) 2 46 [_, _] _ d_R_linkClause_176 l_R_258 ⟨im_R_linked, se_R_linked⟩ rfl rfl rfl rfl (Nat.le_of_ble_eq_true rfl) ⟨Nat.le_of_ble_eq_true rfl, Nat.le_of_ble_eq_true rfl⟩
      · (first | exact rsR | exact rsT | exact rsTp | exact rsGp | exact rsP0 hd.2)
      rw [hpl]
      refine sp_R_linked hd hB (lq_PI hq (lkT n f q tp (argN (q.2.2 8 c)) c t 0 S rf).1 Gl) hp ?_
      rw [lq_fnd]
      apply a_callV (ci := 2) 0 0 [_, _] _ d_R_linkClause_179 l_R_267 ⟨im_P_setGoal, se_P_setGoal⟩ rfl rfl rfl rfl (Nat.le_of_ble_eq_true rfl) ⟨Nat.le_of_ble_eq_true rfl, Nat.le_of_ble_eq_true rfl⟩
      · (first | exact rsR | exact rsT | exact rsTp | exact rsGp | exact rsP0 hd.2)
      refine sp_P_setGoal (rsP hd.2 (lq_PI hq (lkT n f q tp (argN (q.2.2 8 c)) c t 0 S rf).1 Gl)) (vp_in_nI hc (by decide)) (fun τ hf hP => ?_)
      obtain rfl := rs_P hd.2 hf hP
      rw [nI_clamp (show c < 2 ^ 31 by omega), lq_9]
      refine a_return d_R_linkClause_182 rfl ?_
      first | (simp only [lkC, hpl, nI_clamp hp2, if_neg c_1, if_pos c_2, if_true] at hK; exact hK) | (simp only [lkC, if_neg c_1, if_pos c_2, if_true] at hK; exact hK)

end ModR4
