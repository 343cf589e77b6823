/-! POLICY: an object p, its rows p + 1 .. p + 10. q : ((counters, nodes, tests), names, rows by their field's number) -/
abbrev aP : Type := (Nat × Nat × Nat) × (Nat → Int64) × (Nat → Nat → Int32)
def updA (A : Nat → Nat → Int32) (i k : Nat) (x : Int32) : Nat → Nat → Int32 := fun a => if a = i then upd (A a) k x else A a
def PI (q : aP) : Prop := q.1.1 ≤ 6 ∧ q.1.2.1 ≤ 24 ∧ (∀ k, k < 6 → ∃ c : Nat, c ≤ 4 ∧ q.2.2 4 k = nI c) ∧ (∀ k, k < 24 → ∃ c : Nat, c ≤ 8 ∧ q.2.2 4 (6 + k) = nI c) ∧ (∀ k, k < 216 → ∃ c : Nat, c ≤ 4 ∧ q.2.2 10 k = nI c)
def PO (σ : aS) (p : Nat) (q : aP) : Prop := σ.2.2 p = some (.inr (2, [.int (nI q.1.1), .int (nI q.1.2.1), .int (nI q.1.2.2), .ref (p + 1), .ref (p + 2), .ref (p + 3), .ref (p + 4), .ref (p + 5), .ref (p + 6), .ref (p + 7), .ref (p + 8), .ref (p + 9), .ref (p + 10)]))
  ∧ σ.2.2 (p + 1) = some (.inl (.long, 30, .inr (.inl q.2.1)))
  ∧ σ.2.2 (p + 2) = some (.inl (.int, 30, .inl (q.2.2 4)))
  ∧ σ.2.2 (p + 3) = some (.inl (.int, 6, .inl (q.2.2 5)))
  ∧ σ.2.2 (p + 4) = some (.inl (.int, 6, .inl (q.2.2 6)))
  ∧ σ.2.2 (p + 5) = some (.inl (.int, 6, .inl (q.2.2 7)))
  ∧ σ.2.2 (p + 6) = some (.inl (.int, 216, .inl (q.2.2 8)))
  ∧ σ.2.2 (p + 7) = some (.inl (.int, 216, .inl (q.2.2 9)))
  ∧ σ.2.2 (p + 8) = some (.inl (.int, 216, .inl (q.2.2 10)))
  ∧ σ.2.2 (p + 9) = some (.inl (.int, 864, .inl (q.2.2 11)))
  ∧ σ.2.2 (p + 10) = some (.inl (.int, 864, .inl (q.2.2 12)))
  ∧ PI q
theorem PO.fr {σ τ : aS} {p lo hi : Nat} {q : aP} (h : PO σ p q) (hf : a_fr σ τ lo hi) (hd : p + 11 ≤ lo ∨ hi ≤ p) : PO τ p q := by
  obtain ⟨h0, h1, h2, h3, h4, h5, h6, h7, h8, h9, h10, hI⟩ := h
  exact ⟨(hf.2.2 p (by omega)).trans h0, (hf.2.2 (p + 1) (by omega)).trans h1, (hf.2.2 (p + 2) (by omega)).trans h2, (hf.2.2 (p + 3) (by omega)).trans h3, (hf.2.2 (p + 4) (by omega)).trans h4, (hf.2.2 (p + 5) (by omega)).trans h5, (hf.2.2 (p + 6) (by omega)).trans h6, (hf.2.2 (p + 7) (by omega)).trans h7, (hf.2.2 (p + 8) (by omega)).trans h8, (hf.2.2 (p + 9) (by omega)).trans h9, (hf.2.2 (p + 10) (by omega)).trans h10, hI⟩
/-- headRow: the row of counter or node k -/
def hrow (q : aP) (w k : Int32) : Int32 := if k < 0 then -1 else if w = 0 then (if k < nI q.1.1 then k else -1) else if k < nI q.1.2.1 then 6 + k else -1
theorem hrow_in {q : aP} (hq : PI q) {w k : Int32} (h : ¬ hrow q w k = -1) : (w = 0 ∧ ∃ j : Nat, j < q.1.1 ∧ k = nI j ∧ hrow q w k = nI j) ∨ (¬ w = 0 ∧ ∃ j : Nat, j < q.1.2.1 ∧ k = nI j ∧ hrow q w k = nI (6 + j)) := by
  obtain ⟨h1, h2, -⟩ := hq
  unfold hrow at h ⊢
  by_cases a : k < 0
  · rw [if_pos a] at h; exact absurd rfl h
  rw [if_neg a] at h ⊢
  by_cases b : w = 0
  · rw [if_pos b] at h ⊢
    by_cases c : k < nI q.1.1
    · rw [if_pos c]
      rcases pk_ix k (n := q.1.1) (by omega) with e | e | ⟨j, hj, e⟩
      · exact absurd e a
      · exact absurd c (Int32.not_lt.mpr e)
      · exact Or.inl ⟨b, j, hj, e, e⟩
    · rw [if_neg c] at h; exact absurd rfl h
  · rw [if_neg b] at h ⊢
    by_cases c : k < nI q.1.2.1
    · rw [if_pos c]
      rcases pk_ix k (n := q.1.2.1) (by omega) with e | e | ⟨j, hj, e⟩
      · exact absurd e a
      · exact absurd c (Int32.not_lt.mpr e)
      · exact Or.inr ⟨b, j, hj, e, by rw [e]; exact nI_add 6 j⟩
    · rw [if_neg c] at h; exact absurd rfl h
theorem hrow_vp {q : aP} (hq : PI q) {w k : Int32} (h : ¬ hrow q w k = -1) : vp_in (hrow q w k) 30 := by
  rcases hrow_in hq h with ⟨-, j, hj, -, e⟩ | ⟨-, j, hj, -, e⟩
  · rw [e]; exact vp_in_nI (by have := hq.1; omega) (by decide)
  · rw [e]; exact vp_in_nI (by have := hq.2.1; omega) (by decide)
/-- clauseRow -/
def crow (q : aP) (w k j : Int32) : Int32 := if hrow q w k = -1 then -1 else if j < 0 then -1 else if j < q.2.2 4 (hrow q w k).toNatClampNeg then (if w = 0 then k * 4 + j else 24 + k * 8 + j) else -1
theorem crow_in {q : aP} (hq : PI q) {w k j : Int32} (h : ¬ crow q w k j = -1) : ∃ c : Nat, c < 216 ∧ crow q w k j = nI c := by
  unfold crow at h ⊢
  by_cases a : hrow q w k = -1
  · rw [if_pos a] at h; exact absurd rfl h
  rw [if_neg a] at h ⊢
  by_cases b : j < 0
  · rw [if_pos b] at h; exact absurd rfl h
  rw [if_neg b] at h ⊢
  by_cases c : j < q.2.2 4 (hrow q w k).toNatClampNeg
  · rw [if_pos c]
    rcases hrow_in hq a with ⟨hw, m, hm, ek, e⟩ | ⟨hw, m, hm, ek, e⟩
    · rw [e, nI_clamp (by have := hq.1; omega)] at c
      obtain ⟨x, hx, ex⟩ := hq.2.2.1 m (by have := hq.1; omega)
      rw [ex] at c
      rcases pk_ix j (n := x) (by omega) with f | f | ⟨i, hi, rfl⟩
      · exact absurd f b
      · exact absurd c (Int32.not_lt.mpr f)
      · rw [if_pos hw, ek]
        exact ⟨m * 4 + i, by have := hq.1; omega, by rw [show (4 : Int32) = nI 4 from rfl, pk_mul, nI_add]⟩
    · rw [e, nI_clamp (by have := hq.2.1; omega)] at c
      obtain ⟨x, hx, ex⟩ := hq.2.2.2.1 m (by have := hq.2.1; omega)
      rw [ex] at c
      rcases pk_ix j (n := x) (by omega) with f | f | ⟨i, hi, rfl⟩
      · exact absurd f b
      · exact absurd c (Int32.not_lt.mpr f)
      · rw [if_neg hw, ek]
        exact ⟨24 + m * 8 + i, by have := hq.2.1; omega, by rw [show (8 : Int32) = nI 8 from rfl, show (24 : Int32) = nI 24 from rfl, pk_mul, nI_add, nI_add]⟩
  · rw [if_neg c] at h; exact absurd rfl h
theorem crow_vp {q : aP} (hq : PI q) {w k j : Int32} (h : ¬ crow q w k j = -1) : vp_in (crow q w k j) 216 := by
  obtain ⟨c, hc, e⟩ := crow_in hq h
  rw [e]; exact vp_in_nI hc (by decide)
/-- testRow -/
def trow (q : aP) (w k j i : Int32) : Int32 := if crow q w k j = -1 then -1 else if i < 0 then -1 else if i < q.2.2 10 (crow q w k j).toNatClampNeg then crow q w k j * 4 + i else -1
/-- partOf -/
def pof (s what : Int32) : Int32 := if what = 0 then s >>> ((5 : Int32) &&& 31) &&& 1 else if what = 1 then s &&& 7 else if what = 2 then s >>> ((3 : Int32) &&& 31) &&& 3 else if what = 3 then s >>> ((6 : Int32) &&& 31) &&& 1 else -1
def tpart (q : aP) (r what : Int32) : Int32 := if r < 0 then -1 else if r < 864 then pof (q.2.2 11 r.toNatClampNeg) what else -1
def bnd (q : aP) (r : Int32) : Int32 := if r < 0 then 0 else if r < 864 then q.2.2 12 r.toNatClampNeg else 0
def hcnt (q : aP) (w : Int32) : Nat := if w = 0 then q.1.1 else q.1.2.1
def nmf (q : aP) (w k : Int32) : Int64 := if hrow q w k = -1 then 0 else q.2.1 (hrow q w k).toNatClampNeg
theorem vp_lt {x : Int32} {N : Nat} {M : Int32} (hM : M = nI N) (hN : N < 2 ^ 31) (h0 : ¬ x < 0) (h : x < M) : vp_in x N := by
  subst hM
  rcases pk_ix x hN with e | e | ⟨j, hj, rfl⟩
  · exact absurd e h0
  · exact absurd h (Int32.not_lt.mpr e)
  · exact vp_in_nI hj hN
section ModP
variable {G : aG} {σ : aS} {K : Option Value → aS → Prop} {p : Nat} {q : aP}
set_option maxHeartbeats 4000000 in
set_option maxRecDepth 100000 in
theorem sp_P_heads {w : Int32} (hP : PO σ p q) (hK : K (some (.int (nI (hcnt q w)))) σ) : a_C G m_P_heads 0 0 [.ref p, .int w] σ K := by
  obtain ⟨h0, h1, h2, h3, h4, h5, h6, h7, h8, h9, h10, hI⟩ := id hP
  refine a_enter rfl (Nat.le_of_ble_eq_true rfl) ?_
  refine a_iload_n d_P_heads_0 rfl rfl ?_
  refine a_if_eq (tgt := 11) d_P_heads_1 (by decide) (fun c_1 => ?_) (fun c_1 => ?_)
  · refine a_aload_n d_P_heads_11 rfl rfl ?_
    apply a_getfield d_P_heads_12 f_P_47
    · (repeat (first | with_reducible assumption | with_reducible exact a_us | with_reducible exact a_ns | refine a_un (by first | with_reducible assumption | omega) ?_ | refine a_nn (by first | with_reducible assumption | omega | (simp only [a_upd_1, a_new_1]; omega)) ?_ | exact a_us | exact a_ns))
    · rfl
    refine a_ireturn d_P_heads_15 rfl (by first | rfl | assumption) ?_
    first | exact hK | (simp only [hcnt, if_pos c_1, if_true] at hK; exact hK) | contradiction
  · refine a_aload_n d_P_heads_4 rfl rfl ?_
    apply a_getfield d_P_heads_5 f_P_43
    · (repeat (first | with_reducible assumption | with_reducible exact a_us | with_reducible exact a_ns | refine a_un (by first | with_reducible assumption | omega) ?_ | refine a_nn (by first | with_reducible assumption | omega | (simp only [a_upd_1, a_new_1]; omega)) ?_ | exact a_us | exact a_ns))
    · rfl
    refine a_goto (tgt := 15) d_P_heads_8 (by decide) ?_
    refine a_ireturn d_P_heads_15 rfl (by first | rfl | assumption) ?_
    first | exact hK | (simp only [hcnt, if_neg c_1, if_true] at hK; exact hK) | contradiction

set_option maxHeartbeats 4000000 in
set_option maxRecDepth 100000 in
theorem sp_P_testsInAll (hP : PO σ p q) (hK : K (some (.int (nI q.1.2.2))) σ) : a_C G m_P_testsInAll 0 0 [.ref p] σ K := by
  obtain ⟨h0, h1, h2, h3, h4, h5, h6, h7, h8, h9, h10, hI⟩ := id hP
  refine a_enter rfl (Nat.le_of_ble_eq_true rfl) ?_
  refine a_aload_n d_P_testsInAll_0 rfl rfl ?_
  apply a_getfield d_P_testsInAll_1 f_P_50
  · (repeat (first | with_reducible assumption | with_reducible exact a_us | with_reducible exact a_ns | refine a_un (by first | with_reducible assumption | omega) ?_ | refine a_nn (by first | with_reducible assumption | omega | (simp only [a_upd_1, a_new_1]; omega)) ?_ | exact a_us | exact a_ns))
  · rfl
  refine a_ireturn d_P_testsInAll_4 rfl (by first | rfl | assumption) ?_
  first | exact hK | (simp only [if_true, if_true] at hK; exact hK) | contradiction

set_option maxHeartbeats 4000000 in
set_option maxRecDepth 100000 in
theorem sp_P_headRow {w k : Int32} (hP : PO σ p q) (hK : K (some (.int (hrow q w k))) σ) : a_C G m_P_headRow 0 0 [.ref p, .int w, .int k] σ K := by
  obtain ⟨h0, h1, h2, h3, h4, h5, h6, h7, h8, h9, h10, hI⟩ := id hP
  refine a_enter rfl (Nat.le_of_ble_eq_true rfl) ?_
  refine a_iload_n d_P_headRow_0 rfl rfl ?_
  refine a_if_lt (tgt := 23) d_P_headRow_1 (by decide) (fun c_1 => ?_) (fun c_1 => ?_)
  · refine a_iconst (v := (-1)) d_P_headRow_23 (by decide) ?_
    refine a_ireturn d_P_headRow_24 rfl (by first | rfl | assumption) ?_
    first | exact hK | (simp only [hrow, if_pos c_1, if_neg (Int32.not_le.mpr c_1), if_true] at hK; exact hK) | contradiction
  · refine a_iload_n d_P_headRow_4 rfl rfl ?_
    refine a_iload_n d_P_headRow_5 rfl rfl ?_
    refine a_if_eq (tgt := 16) d_P_headRow_6 (by decide) (fun c_2 => ?_) (fun c_2 => ?_)
    · refine a_aload_n d_P_headRow_16 rfl rfl ?_
      apply a_getfield d_P_headRow_17 f_P_47
      · (repeat (first | with_reducible assumption | with_reducible exact a_us | with_reducible exact a_ns | refine a_un (by first | with_reducible assumption | omega) ?_ | refine a_nn (by first | with_reducible assumption | omega | (simp only [a_upd_1, a_new_1]; omega)) ?_ | exact a_us | exact a_ns))
      · rfl
      refine a_icmp_lt (tgt := 25) d_P_headRow_20 (by decide) (fun c_3 => ?_) (fun c_3 => ?_)
      · refine a_iload_n d_P_headRow_25 rfl rfl ?_
        refine a_if_eq (tgt := 36) d_P_headRow_26 (by decide) (fun c_4 => ?_) (fun c_4 => ?_)
        · refine a_iload_n d_P_headRow_36 rfl rfl ?_
          refine a_ireturn d_P_headRow_37 rfl (by first | rfl | assumption) ?_
          first | exact hK | (simp only [hrow, if_neg c_1, if_pos (Int32.not_lt.mp c_1), if_pos c_2, if_pos c_3, if_neg (Int32.not_le.mpr c_3), if_pos c_4, if_true] at hK; exact hK) | contradiction
        · refine a_bipush (v := 6) d_P_headRow_29 (by decide) ?_
          refine a_iload_n d_P_headRow_31 rfl rfl ?_
          refine a_iadd d_P_headRow_32 ?_
          refine a_goto (tgt := 37) d_P_headRow_33 (by decide) ?_
          refine a_ireturn d_P_headRow_37 rfl (by first | rfl | assumption) ?_
          first | exact hK | (simp only [hrow, if_neg c_1, if_pos (Int32.not_lt.mp c_1), if_pos c_2, if_pos c_3, if_neg (Int32.not_le.mpr c_3), if_neg c_4, if_true] at hK; exact hK) | contradiction
      · refine a_iconst (v := (-1)) d_P_headRow_23 (by decide) ?_
        refine a_ireturn d_P_headRow_24 rfl (by first | rfl | assumption) ?_
        first | exact hK | (simp only [hrow, if_neg c_1, if_pos (Int32.not_lt.mp c_1), if_pos c_2, if_neg c_3, if_pos (Int32.not_lt.mp c_3), if_true] at hK; exact hK) | contradiction
    · refine a_aload_n d_P_headRow_9 rfl rfl ?_
      apply a_getfield d_P_headRow_10 f_P_43
      · (repeat (first | with_reducible assumption | with_reducible exact a_us | with_reducible exact a_ns | refine a_un (by first | with_reducible assumption | omega) ?_ | refine a_nn (by first | with_reducible assumption | omega | (simp only [a_upd_1, a_new_1]; omega)) ?_ | exact a_us | exact a_ns))
      · rfl
      refine a_goto (tgt := 20) d_P_headRow_13 (by decide) ?_
      refine a_icmp_lt (tgt := 25) d_P_headRow_20 (by decide) (fun c_5 => ?_) (fun c_5 => ?_)
      · refine a_iload_n d_P_headRow_25 rfl rfl ?_
        refine a_if_eq (tgt := 36) d_P_headRow_26 (by decide) (fun c_6 => ?_) (fun c_6 => ?_)
        · refine a_iload_n d_P_headRow_36 rfl rfl ?_
          refine a_ireturn d_P_headRow_37 rfl (by first | rfl | assumption) ?_
          first | exact hK | (simp only [hrow, if_neg c_1, if_pos (Int32.not_lt.mp c_1), if_neg c_2, if_pos c_5, if_neg (Int32.not_le.mpr c_5), if_pos c_6, if_true] at hK; exact hK) | contradiction
        · refine a_bipush (v := 6) d_P_headRow_29 (by decide) ?_
          refine a_iload_n d_P_headRow_31 rfl rfl ?_
          refine a_iadd d_P_headRow_32 ?_
          refine a_goto (tgt := 37) d_P_headRow_33 (by decide) ?_
          refine a_ireturn d_P_headRow_37 rfl (by first | rfl | assumption) ?_
          first | exact hK | (simp only [hrow, if_neg c_1, if_pos (Int32.not_lt.mp c_1), if_neg c_2, if_pos c_5, if_neg (Int32.not_le.mpr c_5), if_neg c_6, if_true] at hK; exact hK) | contradiction
      · refine a_iconst (v := (-1)) d_P_headRow_23 (by decide) ?_
        refine a_ireturn d_P_headRow_24 rfl (by first | rfl | assumption) ?_
        first | exact hK | (simp only [hrow, if_neg c_1, if_pos (Int32.not_lt.mp c_1), if_neg c_2, if_neg c_5, if_pos (Int32.not_lt.mp c_5), if_true] at hK; exact hK) | contradiction

set_option maxHeartbeats 4000000 in
set_option maxRecDepth 100000 in
theorem sp_P_clauseRow {w k j : Int32} (hP : PO σ p q) (hK : K (some (.int (crow q w k j))) σ) : a_C G m_P_clauseRow 1 22 [.ref p, .int w, .int k, .int j] σ K := by
  obtain ⟨h0, h1, h2, h3, h4, h5, h6, h7, h8, h9, h10, hI⟩ := id hP
  refine a_enter rfl (Nat.le_of_ble_eq_true rfl) ?_
  refine a_aload_n d_P_clauseRow_0 rfl rfl ?_
  refine a_iload_n d_P_clauseRow_1 rfl rfl ?_
  refine a_iload_n d_P_clauseRow_2 rfl rfl ?_
  apply a_callV (ci := 2) 0 0 [_, _] _ d_P_clauseRow_3 l_P_53 ⟨im_P_headRow, se_P_headRow⟩ rfl rfl rfl rfl (Nat.le_of_ble_eq_true rfl) ⟨Nat.le_of_ble_eq_true rfl, Nat.le_of_ble_eq_true rfl⟩
  · (repeat (first | with_reducible assumption | with_reducible exact a_us | with_reducible exact a_ns | refine a_un (by first | with_reducible assumption | omega) ?_ | refine a_nn (by first | with_reducible assumption | omega | (simp only [a_upd_1, a_new_1]; omega)) ?_ | exact a_us | exact a_ns))
  refine sp_P_headRow hP ?_
  refine a_istore d_P_clauseRow_6 (by decide) ?_
  refine a_iload d_P_clauseRow_8 rfl ?_
  refine a_iconst (v := (-1)) d_P_clauseRow_10 (by decide) ?_
  refine a_icmp_eq (tgt := 29) d_P_clauseRow_11 (by decide) (fun c_1 => ?_) (fun c_1 => ?_)
  · refine a_iconst (v := (-1)) d_P_clauseRow_29 (by decide) ?_
    refine a_ireturn d_P_clauseRow_30 rfl (by first | rfl | assumption) ?_
    first | exact hK | (simp only [crow, if_pos c_1, if_true] at hK; exact hK) | contradiction
  · refine a_iload_n d_P_clauseRow_14 rfl rfl ?_
    refine a_if_lt (tgt := 29) d_P_clauseRow_15 (by decide) (fun c_2 => ?_) (fun c_2 => ?_)
    · refine a_iconst (v := (-1)) d_P_clauseRow_29 (by decide) ?_
      refine a_ireturn d_P_clauseRow_30 rfl (by first | rfl | assumption) ?_
      first | exact hK | (simp only [crow, if_neg c_1, if_pos c_2, if_neg (Int32.not_le.mpr c_2), if_true] at hK; exact hK) | contradiction
    · refine a_iload_n d_P_clauseRow_18 rfl rfl ?_
      refine a_aload_n d_P_clauseRow_19 rfl rfl ?_
      apply a_getfield d_P_clauseRow_20 f_P_15
      · (repeat (first | with_reducible assumption | with_reducible exact a_us | with_reducible exact a_ns | refine a_un (by first | with_reducible assumption | omega) ?_ | refine a_nn (by first | with_reducible assumption | omega | (simp only [a_upd_1, a_new_1]; omega)) ?_ | exact a_us | exact a_ns))
      · rfl
      refine a_iload d_P_clauseRow_23 rfl ?_
      apply a_iald (t0 := 0) d_P_clauseRow_25 rfl
      · (repeat (first | with_reducible assumption | with_reducible exact a_us | with_reducible exact a_ns | refine a_un (by first | with_reducible assumption | omega) ?_ | refine a_nn (by first | with_reducible assumption | omega | (simp only [a_upd_1, a_new_1]; omega)) ?_ | exact a_us | exact a_ns))
      · exact hrow_vp hI c_1
      refine a_icmp_lt (tgt := 31) d_P_clauseRow_26 (by decide) (fun c_3 => ?_) (fun c_3 => ?_)
      · refine a_iload_n d_P_clauseRow_31 rfl rfl ?_
        refine a_if_eq (tgt := 47) d_P_clauseRow_32 (by decide) (fun c_4 => ?_) (fun c_4 => ?_)
        · refine a_iload_n d_P_clauseRow_47 rfl rfl ?_
          refine a_iconst (v := 4) d_P_clauseRow_48 (by decide) ?_
          refine a_imul d_P_clauseRow_49 ?_
          refine a_iload_n d_P_clauseRow_50 rfl rfl ?_
          refine a_iadd d_P_clauseRow_51 ?_
          refine a_ireturn d_P_clauseRow_52 rfl (by first | rfl | assumption) ?_
          first | exact hK | (simp only [crow, if_neg c_1, if_neg c_2, if_pos (Int32.not_lt.mp c_2), if_pos c_3, if_neg (Int32.not_le.mpr c_3), if_pos c_4, if_true] at hK; exact hK) | contradiction
        · refine a_bipush (v := 24) d_P_clauseRow_35 (by decide) ?_
          refine a_iload_n d_P_clauseRow_37 rfl rfl ?_
          refine a_bipush (v := 8) d_P_clauseRow_38 (by decide) ?_
          refine a_imul d_P_clauseRow_40 ?_
          refine a_iadd d_P_clauseRow_41 ?_
          refine a_iload_n d_P_clauseRow_42 rfl rfl ?_
          refine a_iadd d_P_clauseRow_43 ?_
          refine a_goto (tgt := 52) d_P_clauseRow_44 (by decide) ?_
          refine a_ireturn d_P_clauseRow_52 rfl (by first | rfl | assumption) ?_
          first | exact hK | (simp only [crow, if_neg c_1, if_neg c_2, if_pos (Int32.not_lt.mp c_2), if_pos c_3, if_neg (Int32.not_le.mpr c_3), if_neg c_4, if_true] at hK; exact hK) | contradiction
      · refine a_iconst (v := (-1)) d_P_clauseRow_29 (by decide) ?_
        refine a_ireturn d_P_clauseRow_30 rfl (by first | rfl | assumption) ?_
        first | exact hK | (simp only [crow, if_neg c_1, if_neg c_2, if_pos (Int32.not_lt.mp c_2), if_neg c_3, if_pos (Int32.not_lt.mp c_3), if_true] at hK; exact hK) | contradiction

set_option maxHeartbeats 4000000 in
set_option maxRecDepth 100000 in
theorem sp_P_testRow {w k j i : Int32} (hP : PO σ p q) (hK : K (some (.int (trow q w k j i))) σ) : a_C G m_P_testRow 2 46 [.ref p, .int w, .int k, .int j, .int i] σ K := by
  obtain ⟨h0, h1, h2, h3, h4, h5, h6, h7, h8, h9, h10, hI⟩ := id hP
  refine a_enter rfl (Nat.le_of_ble_eq_true rfl) ?_
  refine a_aload_n d_P_testRow_0 rfl rfl ?_
  refine a_iload_n d_P_testRow_1 rfl rfl ?_
  refine a_iload_n d_P_testRow_2 rfl rfl ?_
  refine a_iload_n d_P_testRow_3 rfl rfl ?_
  apply a_callV (ci := 2) 1 22 [_, _, _] _ d_P_testRow_4 l_P_57 ⟨im_P_clauseRow, se_P_clauseRow⟩ rfl rfl rfl rfl (Nat.le_of_ble_eq_true rfl) ⟨Nat.le_of_ble_eq_true rfl, Nat.le_of_ble_eq_true rfl⟩
  · (repeat (first | with_reducible assumption | with_reducible exact a_us | with_reducible exact a_ns | refine a_un (by first | with_reducible assumption | omega) ?_ | refine a_nn (by first | with_reducible assumption | omega | (simp only [a_upd_1, a_new_1]; omega)) ?_ | exact a_us | exact a_ns))
  refine sp_P_clauseRow hP ?_
  refine a_istore d_P_testRow_7 (by decide) ?_
  refine a_iload d_P_testRow_9 rfl ?_
  refine a_iconst (v := (-1)) d_P_testRow_11 (by decide) ?_
  refine a_icmp_eq (tgt := 32) d_P_testRow_12 (by decide) (fun c_1 => ?_) (fun c_1 => ?_)
  · refine a_iconst (v := (-1)) d_P_testRow_32 (by decide) ?_
    refine a_ireturn d_P_testRow_33 rfl (by first | rfl | assumption) ?_
    first | exact hK | (simp only [trow, if_pos c_1, if_true] at hK; exact hK) | contradiction
  · refine a_iload d_P_testRow_15 rfl ?_
    refine a_if_lt (tgt := 32) d_P_testRow_17 (by decide) (fun c_2 => ?_) (fun c_2 => ?_)
    · refine a_iconst (v := (-1)) d_P_testRow_32 (by decide) ?_
      refine a_ireturn d_P_testRow_33 rfl (by first | rfl | assumption) ?_
      first | exact hK | (simp only [trow, if_neg c_1, if_pos c_2, if_neg (Int32.not_le.mpr c_2), if_true] at hK; exact hK) | contradiction
    · refine a_iload d_P_testRow_20 rfl ?_
      refine a_aload_n d_P_testRow_22 rfl rfl ?_
      apply a_getfield d_P_testRow_23 f_P_34
      · (repeat (first | with_reducible assumption | with_reducible exact a_us | with_reducible exact a_ns | refine a_un (by first | with_reducible assumption | omega) ?_ | refine a_nn (by first | with_reducible assumption | omega | (simp only [a_upd_1, a_new_1]; omega)) ?_ | exact a_us | exact a_ns))
      · rfl
      refine a_iload d_P_testRow_26 rfl ?_
      apply a_iald (t0 := 0) d_P_testRow_28 rfl
      · (repeat (first | with_reducible assumption | with_reducible exact a_us | with_reducible exact a_ns | refine a_un (by first | with_reducible assumption | omega) ?_ | refine a_nn (by first | with_reducible assumption | omega | (simp only [a_upd_1, a_new_1]; omega)) ?_ | exact a_us | exact a_ns))
      · exact crow_vp hI c_1
      refine a_icmp_lt (tgt := 34) d_P_testRow_29 (by decide) (fun c_3 => ?_) (fun c_3 => ?_)
      · refine a_iload d_P_testRow_34 rfl ?_
        refine a_iconst (v := 4) d_P_testRow_36 (by decide) ?_
        refine a_imul d_P_testRow_37 ?_
        refine a_iload d_P_testRow_38 rfl ?_
        refine a_iadd d_P_testRow_40 ?_
        refine a_ireturn d_P_testRow_41 rfl (by first | rfl | assumption) ?_
        first | exact hK | (simp only [trow, if_neg c_1, if_neg c_2, if_pos (Int32.not_lt.mp c_2), if_pos c_3, if_neg (Int32.not_le.mpr c_3), if_true] at hK; exact hK) | contradiction
      · refine a_iconst (v := (-1)) d_P_testRow_32 (by decide) ?_
        refine a_ireturn d_P_testRow_33 rfl (by first | rfl | assumption) ?_
        first | exact hK | (simp only [trow, if_neg c_1, if_neg c_2, if_pos (Int32.not_lt.mp c_2), if_neg c_3, if_pos (Int32.not_lt.mp c_3), if_true] at hK; exact hK) | contradiction

set_option maxHeartbeats 4000000 in
set_option maxRecDepth 100000 in
theorem sp_P_partOf {s what : Int32} (hK : K (some (.int (pof s what))) σ) : a_C G m_P_partOf 0 0 [.int s, .int what] σ K := by
  refine a_enter rfl (Nat.le_of_ble_eq_true rfl) ?_
  refine a_iload_n d_P_partOf_0 rfl rfl ?_
  refine a_tsw4_0 (t0 := 32) (t1 := 38) (t2 := 43) (t3 := 49) (td := 56) d_P_partOf_1 (by decide) (by decide) (by decide) (by decide) (by decide) (fun c_1 => ?_) (fun c_2 => ?_) (fun c_3 => ?_) (fun c_4 => ?_) (fun c_5 c_6 c_7 c_8 => ?_)
  · refine a_iload_n d_P_partOf_32 rfl rfl ?_
    refine a_iconst (v := 5) d_P_partOf_33 (by decide) ?_
    refine a_ishr d_P_partOf_34 ?_
    refine a_iconst (v := 1) d_P_partOf_35 (by decide) ?_
    refine a_iand d_P_partOf_36 ?_
    refine a_ireturn d_P_partOf_37 rfl (by first | rfl | assumption) ?_
    first | exact hK | (simp only [pof, if_pos c_1, if_neg (sw_ne c_1 (show ¬ (0 : Int32) = 1 by decide)), if_neg (sw_ne c_1 (show ¬ (0 : Int32) = 2 by decide)), if_neg (sw_ne c_1 (show ¬ (0 : Int32) = 3 by decide)), if_true] at hK; exact hK) | contradiction
  · refine a_iload_n d_P_partOf_38 rfl rfl ?_
    refine a_bipush (v := 7) d_P_partOf_39 (by decide) ?_
    refine a_iand d_P_partOf_41 ?_
    refine a_ireturn d_P_partOf_42 rfl (by first | rfl | assumption) ?_
    first | exact hK | (simp only [pof, if_pos c_2, if_neg (sw_ne c_2 (show ¬ (1 : Int32) = 0 by decide)), if_neg (sw_ne c_2 (show ¬ (1 : Int32) = 2 by decide)), if_neg (sw_ne c_2 (show ¬ (1 : Int32) = 3 by decide)), if_true] at hK; exact hK) | contradiction
  · refine a_iload_n d_P_partOf_43 rfl rfl ?_
    refine a_iconst (v := 3) d_P_partOf_44 (by decide) ?_
    refine a_ishr d_P_partOf_45 ?_
    refine a_iconst (v := 3) d_P_partOf_46 (by decide) ?_
    refine a_iand d_P_partOf_47 ?_
    refine a_ireturn d_P_partOf_48 rfl (by first | rfl | assumption) ?_
    first | exact hK | (simp only [pof, if_pos c_3, if_neg (sw_ne c_3 (show ¬ (2 : Int32) = 0 by decide)), if_neg (sw_ne c_3 (show ¬ (2 : Int32) = 1 by decide)), if_neg (sw_ne c_3 (show ¬ (2 : Int32) = 3 by decide)), if_true] at hK; exact hK) | contradiction
  · refine a_iload_n d_P_partOf_49 rfl rfl ?_
    refine a_bipush (v := 6) d_P_partOf_50 (by decide) ?_
    refine a_ishr d_P_partOf_52 ?_
    refine a_iconst (v := 1) d_P_partOf_53 (by decide) ?_
    refine a_iand d_P_partOf_54 ?_
    refine a_ireturn d_P_partOf_55 rfl (by first | rfl | assumption) ?_
    first | exact hK | (simp only [pof, if_pos c_4, if_neg (sw_ne c_4 (show ¬ (3 : Int32) = 0 by decide)), if_neg (sw_ne c_4 (show ¬ (3 : Int32) = 1 by decide)), if_neg (sw_ne c_4 (show ¬ (3 : Int32) = 2 by decide)), if_true] at hK; exact hK) | contradiction
  · refine a_iconst (v := (-1)) d_P_partOf_56 (by decide) ?_
    refine a_ireturn d_P_partOf_57 rfl (by first | rfl | assumption) ?_
    first | exact hK | (simp only [pof, if_neg c_5, if_neg c_6, if_neg c_7, if_neg c_8, if_true] at hK; exact hK) | contradiction

set_option maxHeartbeats 4000000 in
set_option maxRecDepth 100000 in
theorem sp_P_testPart {r what : Int32} (hP : PO σ p q) (hK : K (some (.int (tpart q r what))) σ) : a_C G m_P_testPart 1 21 [.ref p, .int r, .int what] σ K := by
  obtain ⟨h0, h1, h2, h3, h4, h5, h6, h7, h8, h9, h10, hI⟩ := id hP
  refine a_enter rfl (Nat.le_of_ble_eq_true rfl) ?_
  refine a_iload_n d_P_testPart_0 rfl rfl ?_
  refine a_if_lt (tgt := 24) d_P_testPart_1 (by decide) (fun c_1 => ?_) (fun c_1 => ?_)
  · refine a_iconst (v := (-1)) d_P_testPart_24 (by decide) ?_
    refine a_ireturn d_P_testPart_25 rfl (by first | rfl | assumption) ?_
    first | exact hK | (simp only [tpart, if_pos c_1, if_neg (Int32.not_le.mpr c_1), if_true] at hK; exact hK) | contradiction
  · refine a_iload_n d_P_testPart_4 rfl rfl ?_
    refine a_sipush (v := 864) d_P_testPart_5 (by decide) ?_
    refine a_icmp_ge (tgt := 24) d_P_testPart_8 (by decide) (fun c_2 => ?_) (fun c_2 => ?_)
    · refine a_iconst (v := (-1)) d_P_testPart_24 (by decide) ?_
      refine a_ireturn d_P_testPart_25 rfl (by first | rfl | assumption) ?_
      first | exact hK | (simp only [tpart, if_neg c_1, if_pos (Int32.not_lt.mp c_1), if_pos c_2, if_neg (Int32.not_lt.mpr c_2), if_true] at hK; exact hK) | contradiction
    · refine a_aload_n d_P_testPart_11 rfl rfl ?_
      apply a_getfield d_P_testPart_12 f_P_37
      · (repeat (first | with_reducible assumption | with_reducible exact a_us | with_reducible exact a_ns | refine a_un (by first | with_reducible assumption | omega) ?_ | refine a_nn (by first | with_reducible assumption | omega | (simp only [a_upd_1, a_new_1]; omega)) ?_ | exact a_us | exact a_ns))
      · rfl
      refine a_iload_n d_P_testPart_15 rfl rfl ?_
      apply a_iald (t0 := 0) d_P_testPart_16 rfl
      · (repeat (first | with_reducible assumption | with_reducible exact a_us | with_reducible exact a_ns | refine a_un (by first | with_reducible assumption | omega) ?_ | refine a_nn (by first | with_reducible assumption | omega | (simp only [a_upd_1, a_new_1]; omega)) ?_ | exact a_us | exact a_ns))
      · exact vp_lt (N := 864) (M := 864) (by decide) (by decide) c_1 (Int32.not_le.mp c_2)
      refine a_iload_n d_P_testPart_17 rfl rfl ?_
      refine a_callS 0 0 [_, _] _ d_P_testPart_18 l_P_65 is_P_partOf rfl rfl (Nat.le_of_ble_eq_true rfl) ⟨Nat.le_of_ble_eq_true rfl, Nat.le_of_ble_eq_true rfl⟩ ?_
      refine sp_P_partOf ?_
      refine a_goto (tgt := 25) d_P_testPart_21 (by decide) ?_
      refine a_ireturn d_P_testPart_25 rfl (by first | rfl | assumption) ?_
      first | exact hK | (simp only [tpart, if_neg c_1, if_pos (Int32.not_lt.mp c_1), if_neg c_2, if_pos (Int32.not_le.mp c_2), if_true] at hK; exact hK) | contradiction

set_option maxHeartbeats 4000000 in
set_option maxRecDepth 100000 in
theorem sp_P_boundOf {r : Int32} (hP : PO σ p q) (hK : K (some (.int (bnd q r))) σ) : a_C G m_P_boundOf 0 0 [.ref p, .int r] σ K := by
  obtain ⟨h0, h1, h2, h3, h4, h5, h6, h7, h8, h9, h10, hI⟩ := id hP
  refine a_enter rfl (Nat.le_of_ble_eq_true rfl) ?_
  refine a_iload_n d_P_boundOf_0 rfl rfl ?_
  refine a_if_lt (tgt := 20) d_P_boundOf_1 (by decide) (fun c_1 => ?_) (fun c_1 => ?_)
  · refine a_iconst (v := 0) d_P_boundOf_20 (by decide) ?_
    refine a_ireturn d_P_boundOf_21 rfl (by first | rfl | assumption) ?_
    first | exact hK | (simp only [bnd, if_pos c_1, if_neg (Int32.not_le.mpr c_1), if_true] at hK; exact hK) | contradiction
  · refine a_iload_n d_P_boundOf_4 rfl rfl ?_
    refine a_sipush (v := 864) d_P_boundOf_5 (by decide) ?_
    refine a_icmp_ge (tgt := 20) d_P_boundOf_8 (by decide) (fun c_2 => ?_) (fun c_2 => ?_)
    · refine a_iconst (v := 0) d_P_boundOf_20 (by decide) ?_
      refine a_ireturn d_P_boundOf_21 rfl (by first | rfl | assumption) ?_
      first | exact hK | (simp only [bnd, if_neg c_1, if_pos (Int32.not_lt.mp c_1), if_pos c_2, if_neg (Int32.not_lt.mpr c_2), if_true] at hK; exact hK) | contradiction
    · refine a_aload_n d_P_boundOf_11 rfl rfl ?_
      apply a_getfield d_P_boundOf_12 f_P_40
      · (repeat (first | with_reducible assumption | with_reducible exact a_us | with_reducible exact a_ns | refine a_un (by first | with_reducible assumption | omega) ?_ | refine a_nn (by first | with_reducible assumption | omega | (simp only [a_upd_1, a_new_1]; omega)) ?_ | exact a_us | exact a_ns))
      · rfl
      refine a_iload_n d_P_boundOf_15 rfl rfl ?_
      apply a_iald (t0 := 0) d_P_boundOf_16 rfl
      · (repeat (first | with_reducible assumption | with_reducible exact a_us | with_reducible exact a_ns | refine a_un (by first | with_reducible assumption | omega) ?_ | refine a_nn (by first | with_reducible assumption | omega | (simp only [a_upd_1, a_new_1]; omega)) ?_ | exact a_us | exact a_ns))
      · exact vp_lt (N := 864) (M := 864) (by decide) (by decide) c_1 (Int32.not_le.mp c_2)
      refine a_goto (tgt := 21) d_P_boundOf_17 (by decide) ?_
      refine a_ireturn d_P_boundOf_21 rfl (by first | rfl | assumption) ?_
      first | exact hK | (simp only [bnd, if_neg c_1, if_pos (Int32.not_lt.mp c_1), if_neg c_2, if_pos (Int32.not_le.mp c_2), if_true] at hK; exact hK) | contradiction

end ModP
