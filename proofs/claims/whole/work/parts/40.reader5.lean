/-! READER: linkHeads, begin, the constructor -/
def lkR (w : Int32) (k j : Nat) : Nat := if w = 0 then k * 4 + j else 24 + k * 8 + j
def lkH (w : Int32) (k : Nat) : Nat := if w = 0 then k else 6 + k
def lkJ (n : Nat) (f : Nat → Nat) (q : aP) (tp gp : Nat → Int32) (w : Int32) (k : Nat) : Nat → Nat → (Nat → Int32) × (Nat → Int32) × (Nat → Int32) → (Nat → Int32) × (Nat → Int32) × (Nat → Int32)
  | 0, _, L => L
  | m + 1, j, L => if L.2.2 4 = 0 then lkJ n f q tp gp w k m (j + 1) (lkC n f q tp gp w (lkR w k j) (q.2.2 10 (lkR w k j)).toNatClampNeg L) else L
def lkK (n : Nat) (f : Nat → Nat) (q : aP) (tp gp : Nat → Int32) (w : Int32) : Nat → Nat → (Nat → Int32) × (Nat → Int32) × (Nat → Int32) → (Nat → Int32) × (Nat → Int32) × (Nat → Int32)
  | 0, _, L => L
  | m + 1, k, L => if L.2.2 4 = 0 then lkK n f q tp gp w m (k + 1) (lkJ n f q tp gp w k (q.2.2 4 (lkH w k)).toNatClampNeg 0 L) else L
section ModR5
variable {G : aG} {σ0 τ : aS} {K : Option Value → aS → Prop} {r b p cap n : Nat} {f : Nat → Nat} {k k' : aT} {q q' : aP} {rf rf' tp tp' gp gp' : Nat → Int32}
theorem npart_n {k : Nat} (hq : PI q) (h : k < q.1.2.1) : npart q (nI k) 0 = q.2.2 4 (6 + k) := by
  have := hq.2.1
  rw [npart, hrow_n (by decide) hq h, if_neg (nI_m1 (by omega)), if_pos rfl, nI_clamp (by omega)]
theorem lkR_lt {w : Int32} {k j c : Nat} (hq : PI q) (hw : w = 0 ∨ w = 1) (hk : k < hcnt q w) (hc : q.2.2 4 (lkH w k) = nI c) (hj : j < c) (hc8 : c ≤ 8) : lkR w k j < 216 ∧ crow q w (nI k) (nI j) = nI (lkR w k j) := by
  have h1 := hq.1
  have h2 := hq.2.1
  rcases hw with rfl | rfl
  · have hk' : k < q.1.1 := hk
    have hc' : q.2.2 4 k = nI c := hc
    obtain ⟨c2, hc2, e⟩ := hq.2.2.1 k (by omega)
    have : c = c2 := (nI_eq (by omega) (by omega)).mp (hc'.symm.trans e)
    exact ⟨by show k * 4 + j < 216; omega, crow_c hq hk' hc' hj (by omega)⟩
  · have hk' : k < q.1.2.1 := hk
    exact ⟨by show 24 + k * 8 + j < 216; omega, crow_n (by decide) hq hk' hc hj (by omega)⟩
set_option maxHeartbeats 400000 in
set_option maxRecDepth 100000 in
theorem lp_R_linkJ {w : Int32} {kk cn : Nat} (hw : w = 0 ∨ w = 1) (hd : b + 2 ≤ p ∧ p + 11 ≤ r) (hB : BY σ0 b cap n f) (hq : PI q) (htp : ∀ x, ∃ pl : Nat, pl < 65536 ∧ tp x = nI pl) (hgp : ∀ x, ∃ pl : Nat, pl < 65536 ∧ gp x = nI pl) (hk : kk < hcnt q w) (hcn : q.2.2 4 (lkH w kk) = nI cn) (hc8 : cn ≤ 8) : ∀ (m j : Nat) (S Gl rf : Nat → Int32), j + m = cn → a_J G m_R_linkHeads 4 98 77 [(0, .ref r), (1, .int w), (2, .int (nI kk))] [] (rs σ0 r b p k (lq q (lkJ n f q tp gp w kk m j (S, Gl, rf)).1 (lkJ n f q tp gp w kk m j (S, Gl, rf)).2.1) (lkJ n f q tp gp w kk m j (S, Gl, rf)).2.2 tp gp) K → a_J G m_R_linkHeads 4 98 50 [(0, .ref r), (1, .int w), (2, .int (nI kk)), (3, .int (nI cn)), (4, .int (nI j))] [] (rs σ0 r b p k (lq q S Gl) rf tp gp) K := by
  intro m
  induction m with
  | zero =>
    intro j S Gl rf hjm hJ
    refine a_iload d_R_linkHeads_50 rfl ?_
    refine a_iload_n d_R_linkHeads_52 rfl rfl ?_
    refine a_icmp_ge (tgt := 77) d_R_linkHeads_53 (by decide) (fun c_1 => ?_) (fun n9 => absurd (nI_le (by omega) (by omega)) n9)
    exact a_lvk hJ ⟨rfl, rfl, rfl, trivial⟩
  | succ m ih =>
    intro j S Gl rf hjm hJ
    refine a_iload d_R_linkHeads_50 rfl ?_
    refine a_iload_n d_R_linkHeads_52 rfl rfl ?_
    refine a_icmp_ge (tgt := 77) d_R_linkHeads_53 (by decide) (fun n9 => absurd n9 (nI_ge (by omega) (by omega))) (fun c_1 => ?_)
    refine a_aload_n d_R_linkHeads_56 rfl rfl ?_
    apply a_getfield d_R_linkHeads_57 f_R_33
    · first | exact rsR | exact rsT | exact rsTp | exact rsGp | exact rsP0 hd.2
    · rfl
    refine a_if_ne (tgt := 77) d_R_linkHeads_60 (by decide) (fun c_2 => ?_) (fun c_2 => ?_)
    · simp only [lkJ, if_neg c_1, if_pos (Int32.not_le.mp c_1), if_neg c_2, if_true] at hJ
      exact a_lvk hJ ⟨rfl, rfl, rfl, trivial⟩
    · refine a_aload_n d_R_linkHeads_63 rfl rfl ?_
      refine a_iload_n d_R_linkHeads_64 rfl rfl ?_
      refine a_iload_n d_R_linkHeads_65 rfl rfl ?_
      refine a_iload d_R_linkHeads_66 rfl ?_
      apply a_callV (ci := 4) 3 71 [_, _, _] _ d_R_linkHeads_68 l_R_235 ⟨im_R_linkClause, se_R_linkClause⟩ rfl rfl rfl rfl (Nat.le_of_ble_eq_true rfl) ⟨Nat.le_of_ble_eq_true rfl, Nat.le_of_ble_eq_true rfl⟩
      · (first | exact rsR | exact rsT | exact rsTp | exact rsGp | exact rsP0 hd.2)
      obtain ⟨hc2, hcr⟩ := lkR_lt hq hw hk hcn (show j < cn by omega) hc8
      obtain ⟨t, ht, hct⟩ := hq.2.2.2.2 _ hc2
      refine sp_R_linkClause hw hd hB hq hc2 hcr hct ht htp hgp ?_
      refine a_iinc (c0 := 1) d_R_linkHeads_71 rfl (by decide) (by decide) ?_
      refine a_goto (tgt := 50) d_R_linkHeads_74 (by decide) ?_
      rw [nI_1]
      simp only [lkJ, hct, nI_clamp (show t < 2 ^ 31 by omega), if_neg c_1, if_pos (Int32.not_le.mp c_1), if_pos c_2, if_true] at hJ
      refine a_lvk (l := [(0, .ref r), (1, .int w), (2, .int (nI kk)), (3, .int (nI cn)), (4, .int (nI (j + 1)))]) ?_ ⟨rfl, rfl, rfl, rfl, rfl, trivial⟩
      refine ih (j + 1) _ _ _ (by omega) ?_
      exact hJ

set_option maxHeartbeats 400000 in
set_option maxRecDepth 100000 in
theorem lp_R_linkK0 (hd : b + 2 ≤ p ∧ p + 11 ≤ r) (hB : BY σ0 b cap n f) (hq : PI q) (htp : ∀ x, ∃ pl : Nat, pl < 65536 ∧ tp x = nI pl) (hgp : ∀ x, ∃ pl : Nat, pl < 65536 ∧ gp x = nI pl) : ∀ (m kk : Nat) (S Gl rf : Nat → Int32), kk + m = hcnt q 0 → K none (rs σ0 r b p k (lq q (lkK n f q tp gp 0 m kk (S, Gl, rf)).1 (lkK n f q tp gp 0 m kk (S, Gl, rf)).2.1) (lkK n f q tp gp 0 m kk (S, Gl, rf)).2.2 tp gp) → a_J G m_R_linkHeads 4 98 2 [(0, .ref r), (1, .int 0), (2, .int (nI kk))] [] (rs σ0 r b p k (lq q S Gl) rf tp gp) K := by
  have hle := hcnt_le hq 0
  intro m
  induction m with
  | zero =>
    intro kk S Gl rf hkm hK
    refine a_iload_n d_R_linkHeads_2 rfl rfl ?_
    refine a_aload_n d_R_linkHeads_3 rfl rfl ?_
    apply a_getfield d_R_linkHeads_4 f_R_29
    · first | exact rsR | exact rsT | exact rsTp | exact rsGp | exact rsP0 hd.2
    · rfl
    refine a_iload_n d_R_linkHeads_7 rfl rfl ?_
    apply a_callV (ci := 2) 0 0 [_] _ d_R_linkHeads_8 l_R_121 ⟨im_P_heads, se_P_heads⟩ rfl rfl rfl rfl (Nat.le_of_ble_eq_true rfl) ⟨Nat.le_of_ble_eq_true rfl, Nat.le_of_ble_eq_true rfl⟩
    · (first | exact rsR | exact rsT | exact rsTp | exact rsGp | exact rsP0 hd.2)
    refine sp_P_heads (rsP hd.2 (lq_PI hq S Gl)) ?_
    rw [show hcnt (lq q S Gl) 0 = hcnt q 0 from rfl]
    refine a_icmp_ge (tgt := 83) d_R_linkHeads_11 (by decide) (fun c_1 => ?_) (fun n9 => absurd (nI_le (by omega) (by omega)) n9)
    exact a_return d_R_linkHeads_83 rfl hK
  | succ m ih =>
    intro kk S Gl rf hkm hK
    refine a_iload_n d_R_linkHeads_2 rfl rfl ?_
    refine a_aload_n d_R_linkHeads_3 rfl rfl ?_
    apply a_getfield d_R_linkHeads_4 f_R_29
    · first | exact rsR | exact rsT | exact rsTp | exact rsGp | exact rsP0 hd.2
    · rfl
    refine a_iload_n d_R_linkHeads_7 rfl rfl ?_
    apply a_callV (ci := 2) 0 0 [_] _ d_R_linkHeads_8 l_R_121 ⟨im_P_heads, se_P_heads⟩ rfl rfl rfl rfl (Nat.le_of_ble_eq_true rfl) ⟨Nat.le_of_ble_eq_true rfl, Nat.le_of_ble_eq_true rfl⟩
    · (first | exact rsR | exact rsT | exact rsTp | exact rsGp | exact rsP0 hd.2)
    refine sp_P_heads (rsP hd.2 (lq_PI hq S Gl)) ?_
    rw [show hcnt (lq q S Gl) 0 = hcnt q 0 from rfl]
    refine a_icmp_ge (tgt := 83) d_R_linkHeads_11 (by decide) (fun n9 => absurd n9 (nI_ge (by omega) (by omega))) (fun c_1 => ?_)
    refine a_aload_n d_R_linkHeads_14 rfl rfl ?_
    apply a_getfield d_R_linkHeads_15 f_R_33
    · first | exact rsR | exact rsT | exact rsTp | exact rsGp | exact rsP0 hd.2
    · rfl
    refine a_if_ne (tgt := 83) d_R_linkHeads_18 (by decide) (fun c_2 => ?_) (fun c_2 => ?_)
    · simp only [lkK, if_neg c_1, if_pos (Int32.not_le.mp c_1), if_neg c_2, if_true] at hK
      exact a_return d_R_linkHeads_83 rfl hK
    · have hk : kk < hcnt q 0 := by omega
      obtain ⟨cn, hc8, hcn⟩ : ∃ cn : Nat, cn ≤ 8 ∧ q.2.2 4 (lkH 0 kk) = nI cn := by obtain ⟨x, h1, h2⟩ := hq.2.2.1 kk (Nat.lt_of_lt_of_le hk hq.1); exact ⟨x, by omega, h2⟩
      refine a_iload_n d_R_linkHeads_21 rfl rfl ?_
      refine a_if_eq (tgt := 37) d_R_linkHeads_22 (by decide) (fun c_3 => ?_) (fun n9 => absurd (rfl) n9)
      refine a_aload_n d_R_linkHeads_37 rfl rfl ?_
      apply a_getfield d_R_linkHeads_38 f_R_29
      · first | exact rsR | exact rsT | exact rsTp | exact rsGp | exact rsP0 hd.2
      · rfl
      refine a_iload_n d_R_linkHeads_41 rfl rfl ?_
      refine a_iconst (v := 1) d_R_linkHeads_42 (by decide) ?_
      apply a_callV (ci := 2) 1 23 [_, _] _ d_R_linkHeads_43 l_R_232 ⟨im_P_counterPart, se_P_counterPart⟩ rfl rfl rfl rfl (Nat.le_of_ble_eq_true rfl) ⟨Nat.le_of_ble_eq_true rfl, Nat.le_of_ble_eq_true rfl⟩
      · (first | exact rsR | exact rsT | exact rsTp | exact rsGp | exact rsP0 hd.2)
      refine sp_P_counterPart (rsP hd.2 (lq_PI hq S Gl)) ?_
      rw [show cpart (lq q S Gl) (nI kk) 1 = nI cn from (cpart_c hq hk).2.1.trans hcn]
      refine a_istore_n d_R_linkHeads_46 rfl (by decide) ?_
      refine a_iconst (v := 0) d_R_linkHeads_47 (by decide) ?_
      refine a_istore d_R_linkHeads_48 (by decide) ?_
      refine a_lvk (lp_R_linkJ (kk := kk) (cn := cn) (Or.inl rfl) hd hB hq htp hgp hk hcn hc8 cn 0 S Gl rf (by omega) ?_) ⟨rfl, rfl, rfl, rfl, rfl, trivial⟩
      refine a_iinc (c0 := 1) d_R_linkHeads_77 rfl (by decide) (by decide) ?_
      refine a_goto (tgt := 2) d_R_linkHeads_80 (by decide) ?_
      rw [nI_1]
      simp only [lkK, hcn, nI_clamp (show cn < 2 ^ 31 by omega), if_neg c_1, if_pos (Int32.not_le.mp c_1), if_pos c_2, if_pos c_3, if_true] at hK
      refine a_lvk (l := [(0, .ref r), (1, .int 0), (2, .int (nI (kk + 1)))]) ?_ ⟨rfl, rfl, rfl, trivial⟩
      refine ih (kk + 1) _ _ _ (by omega) ?_
      exact hK

set_option maxHeartbeats 400000 in
set_option maxRecDepth 100000 in
theorem sp_R_linkHeads0 {S Gl : Nat → Int32} (hd : b + 2 ≤ p ∧ p + 11 ≤ r) (hB : BY σ0 b cap n f) (hq : PI q) (htp : ∀ x, ∃ pl : Nat, pl < 65536 ∧ tp x = nI pl) (hgp : ∀ x, ∃ pl : Nat, pl < 65536 ∧ gp x = nI pl) (hK : K none (rs σ0 r b p k (lq q (lkK n f q tp gp 0 (hcnt q 0) 0 (S, Gl, rf)).1 (lkK n f q tp gp 0 (hcnt q 0) 0 (S, Gl, rf)).2.1) (lkK n f q tp gp 0 (hcnt q 0) 0 (S, Gl, rf)).2.2 tp gp)) : a_C G m_R_linkHeads 4 98 [.ref r, .int 0] (rs σ0 r b p k (lq q S Gl) rf tp gp) K := by
  refine a_enter rfl (Nat.le_of_ble_eq_true rfl) ?_
  refine a_iconst (v := 0) d_R_linkHeads_0 (by decide) ?_
  refine a_istore_n d_R_linkHeads_1 rfl (by decide) ?_
  exact a_lvk (l := [(0, .ref r), (1, .int 0), (2, .int (nI 0))]) (lp_R_linkK0 hd hB hq htp hgp _ 0 S Gl rf (Nat.zero_add _) hK) ⟨rfl, rfl, rfl, trivial⟩

set_option maxHeartbeats 400000 in
set_option maxRecDepth 100000 in
theorem lp_R_linkK1 (hd : b + 2 ≤ p ∧ p + 11 ≤ r) (hB : BY σ0 b cap n f) (hq : PI q) (htp : ∀ x, ∃ pl : Nat, pl < 65536 ∧ tp x = nI pl) (hgp : ∀ x, ∃ pl : Nat, pl < 65536 ∧ gp x = nI pl) : ∀ (m kk : Nat) (S Gl rf : Nat → Int32), kk + m = hcnt q 1 → K none (rs σ0 r b p k (lq q (lkK n f q tp gp 1 m kk (S, Gl, rf)).1 (lkK n f q tp gp 1 m kk (S, Gl, rf)).2.1) (lkK n f q tp gp 1 m kk (S, Gl, rf)).2.2 tp gp) → a_J G m_R_linkHeads 4 98 2 [(0, .ref r), (1, .int 1), (2, .int (nI kk))] [] (rs σ0 r b p k (lq q S Gl) rf tp gp) K := by
  have hle := hcnt_le hq 1
  intro m
  induction m with
  | zero =>
    intro kk S Gl rf hkm hK
    refine a_iload_n d_R_linkHeads_2 rfl rfl ?_
    refine a_aload_n d_R_linkHeads_3 rfl rfl ?_
    apply a_getfield d_R_linkHeads_4 f_R_29
    · first | exact rsR | exact rsT | exact rsTp | exact rsGp | exact rsP0 hd.2
    · rfl
    refine a_iload_n d_R_linkHeads_7 rfl rfl ?_
    apply a_callV (ci := 2) 0 0 [_] _ d_R_linkHeads_8 l_R_121 ⟨im_P_heads, se_P_heads⟩ rfl rfl rfl rfl (Nat.le_of_ble_eq_true rfl) ⟨Nat.le_of_ble_eq_true rfl, Nat.le_of_ble_eq_true rfl⟩
    · (first | exact rsR | exact rsT | exact rsTp | exact rsGp | exact rsP0 hd.2)
    refine sp_P_heads (rsP hd.2 (lq_PI hq S Gl)) ?_
    rw [show hcnt (lq q S Gl) 1 = hcnt q 1 from rfl]
    refine a_icmp_ge (tgt := 83) d_R_linkHeads_11 (by decide) (fun c_1 => ?_) (fun n9 => absurd (nI_le (by omega) (by omega)) n9)
    exact a_return d_R_linkHeads_83 rfl hK
  | succ m ih =>
    intro kk S Gl rf hkm hK
    refine a_iload_n d_R_linkHeads_2 rfl rfl ?_
    refine a_aload_n d_R_linkHeads_3 rfl rfl ?_
    apply a_getfield d_R_linkHeads_4 f_R_29
    · first | exact rsR | exact rsT | exact rsTp | exact rsGp | exact rsP0 hd.2
    · rfl
    refine a_iload_n d_R_linkHeads_7 rfl rfl ?_
    apply a_callV (ci := 2) 0 0 [_] _ d_R_linkHeads_8 l_R_121 ⟨im_P_heads, se_P_heads⟩ rfl rfl rfl rfl (Nat.le_of_ble_eq_true rfl) ⟨Nat.le_of_ble_eq_true rfl, Nat.le_of_ble_eq_true rfl⟩
    · (first | exact rsR | exact rsT | exact rsTp | exact rsGp | exact rsP0 hd.2)
    refine sp_P_heads (rsP hd.2 (lq_PI hq S Gl)) ?_
    rw [show hcnt (lq q S Gl) 1 = hcnt q 1 from rfl]
    refine a_icmp_ge (tgt := 83) d_R_linkHeads_11 (by decide) (fun n9 => absurd n9 (nI_ge (by omega) (by omega))) (fun c_1 => ?_)
    refine a_aload_n d_R_linkHeads_14 rfl rfl ?_
    apply a_getfield d_R_linkHeads_15 f_R_33
    · first | exact rsR | exact rsT | exact rsTp | exact rsGp | exact rsP0 hd.2
    · rfl
    refine a_if_ne (tgt := 83) d_R_linkHeads_18 (by decide) (fun c_2 => ?_) (fun c_2 => ?_)
    · simp only [lkK, if_neg c_1, if_pos (Int32.not_le.mp c_1), if_neg c_2, if_true] at hK
      exact a_return d_R_linkHeads_83 rfl hK
    · have hk : kk < hcnt q 1 := by omega
      obtain ⟨cn, hc8, hcn⟩ : ∃ cn : Nat, cn ≤ 8 ∧ q.2.2 4 (lkH 1 kk) = nI cn := hq.2.2.2.1 kk (Nat.lt_of_lt_of_le hk hq.2.1)
      refine a_iload_n d_R_linkHeads_21 rfl rfl ?_
      refine a_if_eq (tgt := 37) d_R_linkHeads_22 (by decide) (fun n9 => absurd n9 (by decide)) (fun c_3 => ?_)
      refine a_aload_n d_R_linkHeads_25 rfl rfl ?_
      apply a_getfield d_R_linkHeads_26 f_R_29
      · first | exact rsR | exact rsT | exact rsTp | exact rsGp | exact rsP0 hd.2
      · rfl
      refine a_iload_n d_R_linkHeads_29 rfl rfl ?_
      refine a_iconst (v := 0) d_R_linkHeads_30 (by decide) ?_
      apply a_callV (ci := 2) 1 23 [_, _] _ d_R_linkHeads_31 l_R_228 ⟨im_P_nodePart, se_P_nodePart⟩ rfl rfl rfl rfl (Nat.le_of_ble_eq_true rfl) ⟨Nat.le_of_ble_eq_true rfl, Nat.le_of_ble_eq_true rfl⟩
      · (first | exact rsR | exact rsT | exact rsTp | exact rsGp | exact rsP0 hd.2)
      refine sp_P_nodePart (rsP hd.2 (lq_PI hq S Gl)) ?_
      rw [show npart (lq q S Gl) (nI kk) 0 = nI cn from (npart_n hq hk).trans hcn]
      refine a_goto (tgt := 46) d_R_linkHeads_34 (by decide) ?_
      refine a_istore_n d_R_linkHeads_46 rfl (by decide) ?_
      refine a_iconst (v := 0) d_R_linkHeads_47 (by decide) ?_
      refine a_istore d_R_linkHeads_48 (by decide) ?_
      refine a_lvk (lp_R_linkJ (kk := kk) (cn := cn) (Or.inr rfl) hd hB hq htp hgp hk hcn hc8 cn 0 S Gl rf (by omega) ?_) ⟨rfl, rfl, rfl, rfl, rfl, trivial⟩
      refine a_iinc (c0 := 1) d_R_linkHeads_77 rfl (by decide) (by decide) ?_
      refine a_goto (tgt := 2) d_R_linkHeads_80 (by decide) ?_
      rw [nI_1]
      simp only [lkK, hcn, nI_clamp (show cn < 2 ^ 31 by omega), if_neg c_1, if_pos (Int32.not_le.mp c_1), if_pos c_2, if_neg c_3, if_true] at hK
      refine a_lvk (l := [(0, .ref r), (1, .int 1), (2, .int (nI (kk + 1)))]) ?_ ⟨rfl, rfl, rfl, trivial⟩
      refine ih (kk + 1) _ _ _ (by omega) ?_
      exact hK

set_option maxHeartbeats 400000 in
set_option maxRecDepth 100000 in
theorem sp_R_linkHeads1 {S Gl : Nat → Int32} (hd : b + 2 ≤ p ∧ p + 11 ≤ r) (hB : BY σ0 b cap n f) (hq : PI q) (htp : ∀ x, ∃ pl : Nat, pl < 65536 ∧ tp x = nI pl) (hgp : ∀ x, ∃ pl : Nat, pl < 65536 ∧ gp x = nI pl) (hK : K none (rs σ0 r b p k (lq q (lkK n f q tp gp 1 (hcnt q 1) 0 (S, Gl, rf)).1 (lkK n f q tp gp 1 (hcnt q 1) 0 (S, Gl, rf)).2.1) (lkK n f q tp gp 1 (hcnt q 1) 0 (S, Gl, rf)).2.2 tp gp)) : a_C G m_R_linkHeads 4 98 [.ref r, .int 1] (rs σ0 r b p k (lq q S Gl) rf tp gp) K := by
  refine a_enter rfl (Nat.le_of_ble_eq_true rfl) ?_
  refine a_iconst (v := 0) d_R_linkHeads_0 (by decide) ?_
  refine a_istore_n d_R_linkHeads_1 rfl (by decide) ?_
  exact a_lvk (l := [(0, .ref r), (1, .int 1), (2, .int (nI 0))]) (lp_R_linkK1 hd hB hq htp hgp _ 0 S Gl rf (Nat.zero_add _) hK) ⟨rfl, rfl, rfl, trivial⟩

end ModR5
