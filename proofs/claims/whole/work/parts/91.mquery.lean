/-! THE MODEL's questions -/
section ModM24
variable {G : aG} {σ0 : aS} {K : Option Value → aS → Prop} {m n : Nat} {f : Nat → Nat} {x : aX} {c : aN}
set_option maxHeartbeats 1000000 in
set_option maxRecDepth 100000 in
theorem lp_M_cA0 {w a b : Int32} {N : Nat} (hw : w = 0) (hN : x.1 34 = nI N) (hN2 : N ≤ 24) : ∀ (k i : Nat) (v : Int32), i + k = N → K (some (.int (cAtF (x.2.2.1 13) a b k i v))) (mk σ0 m x) → a_J G m_M_clauseAt 0 0 6 [(0, .ref m), (1, .int w), (2, .int a), (3, .int b), (4, .int v), (5, .int (nI i))] [] (mk σ0 m x) K := by
  intro k
  induction k with
  | zero =>
    intro i v hk hK
    refine a_iload d_M_clauseAt_6 rfl ?_
    refine a_iload_n d_M_clauseAt_8 rfl rfl ?_
    refine a_if_eq (tgt := 19) d_M_clauseAt_9 (by decide) (fun c_1 => ?_) (fun n9 => absurd (hw) n9)
    refine a_aload_n d_M_clauseAt_19 rfl rfl ?_
    refine m_get d_M_clauseAt_20 f_M_239 rfl ?_
    rw [hN]
    refine a_icmp_ge (tgt := 69) d_M_clauseAt_23 (by decide) (fun c_2 => ?_) (fun n9 => absurd (nI_le (by omega) (by omega)) n9)
    refine a_iconst (v := (-1)) d_M_clauseAt_69 (by decide) ?_
    exact a_ireturn d_M_clauseAt_70 rfl rfl hK
  | succ k ih =>
    intro i v hk hK
    refine a_iload d_M_clauseAt_6 rfl ?_
    refine a_iload_n d_M_clauseAt_8 rfl rfl ?_
    refine a_if_eq (tgt := 19) d_M_clauseAt_9 (by decide) (fun c_1 => ?_) (fun n9 => absurd (hw) n9)
    refine a_aload_n d_M_clauseAt_19 rfl rfl ?_
    refine m_get d_M_clauseAt_20 f_M_239 rfl ?_
    rw [hN]
    refine a_icmp_ge (tgt := 69) d_M_clauseAt_23 (by decide) (fun n9 => absurd n9 (nI_ge (by omega) (by omega))) (fun c_2 => ?_)
    refine a_iload_n d_M_clauseAt_26 rfl rfl ?_
    refine a_if_eq (tgt := 40) d_M_clauseAt_27 (by decide) (fun c_3 => ?_) (fun n9 => absurd (hw) n9)
    refine a_aload_n d_M_clauseAt_40 rfl rfl ?_
    refine m_get d_M_clauseAt_41 f_M_51 rfl ?_
    refine a_iload d_M_clauseAt_44 rfl ?_
    refine m_iald d_M_clauseAt_46 (by decide) rfl (vp_in_nI (show i < 24 by omega) (by decide)) ?_
    rw [nI_clamp (show i < 2 ^ 31 by omega)]
    refine a_iload_n d_M_clauseAt_47 rfl rfl ?_
    refine a_icmp_ne (tgt := 63) d_M_clauseAt_48 (by decide) (fun c_4 => ?_) (fun c_4 => ?_)
    · refine a_iinc (c0 := 1) d_M_clauseAt_63 rfl (by decide) (by decide) ?_
      refine a_goto (tgt := 6) d_M_clauseAt_66 (by decide) ?_
      rw [nI_1]
      refine a_lvk (ih (i + 1) _ (by omega) ?_) ⟨rfl, rfl, rfl, rfl, rfl, rfl, trivial⟩
      simp only [cAtF, if_pos c_1, if_neg c_2, if_pos (Int32.not_le.mp c_2), if_pos c_3, if_neg c_4, if_true] at hK
      exact hK
    · refine a_iload d_M_clauseAt_51 rfl ?_
      refine a_iload_n d_M_clauseAt_53 rfl rfl ?_
      refine a_icmp_ne (tgt := 60) d_M_clauseAt_54 (by decide) (fun c_5 => ?_) (fun c_5 => ?_)
      · refine a_iinc (c0 := 1) d_M_clauseAt_60 rfl (by decide) (by decide) ?_
        refine a_iinc (c0 := 1) d_M_clauseAt_63 rfl (by decide) (by decide) ?_
        refine a_goto (tgt := 6) d_M_clauseAt_66 (by decide) ?_
        rw [nI_1]
        refine a_lvk (ih (i + 1) _ (by omega) ?_) ⟨rfl, rfl, rfl, rfl, rfl, rfl, trivial⟩
        simp only [cAtF, if_pos c_1, if_neg c_2, if_pos (Int32.not_le.mp c_2), if_pos c_3, if_pos c_4, if_neg c_5, if_true] at hK
        exact hK
      · refine a_iload d_M_clauseAt_57 rfl ?_
        refine a_ireturn d_M_clauseAt_59 rfl rfl ?_
        simp only [cAtF, if_pos c_1, if_neg c_2, if_pos (Int32.not_le.mp c_2), if_pos c_3, if_pos c_4, if_pos c_5, if_true] at hK
        exact hK

set_option maxHeartbeats 1000000 in
set_option maxRecDepth 100000 in
theorem sp_M_clauseAt0 {w a b : Int32} {N : Nat} (hw : w = 0) (hN : x.1 34 = nI N) (hN2 : N ≤ 24) (hK : K (some (.int (cAtF (x.2.2.1 13) a b N 0 0))) (mk σ0 m x)) : a_C G m_M_clauseAt 0 0 [.ref m, .int w, .int a, .int b] (mk σ0 m x) K := by
  refine a_enter rfl (Nat.le_of_ble_eq_true rfl) ?_
  refine a_iconst (v := 0) d_M_clauseAt_0 (by decide) ?_
  refine a_istore d_M_clauseAt_1 (by decide) ?_
  refine a_iconst (v := 0) d_M_clauseAt_3 (by decide) ?_
  refine a_istore d_M_clauseAt_4 (by decide) ?_
  exact a_lvk (lp_M_cA0 hw hN hN2 N 0 0 (by omega) hK) ⟨rfl, rfl, rfl, rfl, rfl, rfl, trivial⟩

set_option maxHeartbeats 1000000 in
set_option maxRecDepth 100000 in
theorem lp_M_hM0 {w a : Int32} {N C : Nat} (hw : w = 0) (hN : x.1 34 = nI N) (hN2 : N ≤ 24) (hc : ∀ j, j < C → ¬ cAtF (x.2.2.1 13) a (nI j) N 0 0 < 0) (hC : cAtF (x.2.2.1 13) a (nI C) N 0 0 < 0) (hK : K (some (.int (nI C))) (mk σ0 m x)) : ∀ (k i : Nat), i + k = C → a_J G m_M_howMany 1 25 2 [(0, .ref m), (1, .int w), (2, .int a), (3, .int (nI i))] [] (mk σ0 m x) K := by
  intro k
  induction k with
  | zero =>
    intro i hk
    refine a_aload_n d_M_howMany_2 rfl rfl ?_
    refine a_iload_n d_M_howMany_3 rfl rfl ?_
    refine a_iload_n d_M_howMany_4 rfl rfl ?_
    refine a_iload_n d_M_howMany_5 rfl rfl ?_
    apply a_callV (ci := 7) 0 0 [_, _, _] _ d_M_howMany_6 l_M_344 ⟨im_M_clauseAt, se_M_clauseAt⟩ rfl rfl rfl rfl (Nat.le_of_ble_eq_true rfl) ⟨Nat.le_of_ble_eq_true rfl, Nat.le_of_ble_eq_true rfl⟩
    · (exact mk_O)
    refine sp_M_clauseAt0 hw hN hN2 ?_
    refine a_if_lt (tgt := 18) d_M_howMany_9 (by decide) (fun c_1 => ?_) (fun n9 => absurd ((by rw [show i = C by omega]; exact hC)) n9)
    refine a_iload_n d_M_howMany_18 rfl rfl ?_
    rw [show i = C by omega]
    exact a_ireturn d_M_howMany_19 rfl rfl hK
  | succ k ih =>
    intro i hk
    refine a_aload_n d_M_howMany_2 rfl rfl ?_
    refine a_iload_n d_M_howMany_3 rfl rfl ?_
    refine a_iload_n d_M_howMany_4 rfl rfl ?_
    refine a_iload_n d_M_howMany_5 rfl rfl ?_
    apply a_callV (ci := 7) 0 0 [_, _, _] _ d_M_howMany_6 l_M_344 ⟨im_M_clauseAt, se_M_clauseAt⟩ rfl rfl rfl rfl (Nat.le_of_ble_eq_true rfl) ⟨Nat.le_of_ble_eq_true rfl, Nat.le_of_ble_eq_true rfl⟩
    · (exact mk_O)
    refine sp_M_clauseAt0 hw hN hN2 ?_
    refine a_if_lt (tgt := 18) d_M_howMany_9 (by decide) (fun n9 => absurd n9 ((hc i (by omega)))) (fun c_1 => ?_)
    refine a_iinc (c0 := 1) d_M_howMany_12 rfl (by decide) (by decide) ?_
    refine a_goto (tgt := 2) d_M_howMany_15 (by decide) ?_
    rw [nI_1]
    exact a_lvk (ih (i + 1) (by omega)) ⟨rfl, rfl, rfl, rfl, trivial⟩

set_option maxHeartbeats 1000000 in
set_option maxRecDepth 100000 in
theorem sp_M_howMany0 {w a : Int32} {N C : Nat} (hw : w = 0) (hN : x.1 34 = nI N) (hN2 : N ≤ 24) (hc : ∀ j, j < C → ¬ cAtF (x.2.2.1 13) a (nI j) N 0 0 < 0) (hC : cAtF (x.2.2.1 13) a (nI C) N 0 0 < 0) (hK : K (some (.int (nI C))) (mk σ0 m x)) : a_C G m_M_howMany 1 25 [.ref m, .int w, .int a] (mk σ0 m x) K := by
  refine a_enter rfl (Nat.le_of_ble_eq_true rfl) ?_
  refine a_iconst (v := 0) d_M_howMany_0 (by decide) ?_
  refine a_istore_n d_M_howMany_1 rfl (by decide) ?_
  exact a_lvk (lp_M_hM0 hw hN hN2 hc hC hK C 0 (by omega)) ⟨rfl, rfl, rfl, rfl, trivial⟩

set_option maxHeartbeats 1000000 in
set_option maxRecDepth 100000 in
theorem lp_M_cA1 {w a b : Int32} {N : Nat} (hw : ¬ w = 0) (hN : x.1 43 = nI N) (hN2 : N ≤ 192) : ∀ (k i : Nat) (v : Int32), i + k = N → K (some (.int (cAtF (x.2.2.1 19) a b k i v))) (mk σ0 m x) → a_J G m_M_clauseAt 0 0 6 [(0, .ref m), (1, .int w), (2, .int a), (3, .int b), (4, .int v), (5, .int (nI i))] [] (mk σ0 m x) K := by
  intro k
  induction k with
  | zero =>
    intro i v hk hK
    refine a_iload d_M_clauseAt_6 rfl ?_
    refine a_iload_n d_M_clauseAt_8 rfl rfl ?_
    refine a_if_eq (tgt := 19) d_M_clauseAt_9 (by decide) (fun n9 => absurd n9 (hw)) (fun c_1 => ?_)
    refine a_aload_n d_M_clauseAt_12 rfl rfl ?_
    refine m_get d_M_clauseAt_13 f_M_245 rfl ?_
    refine a_goto (tgt := 23) d_M_clauseAt_16 (by decide) ?_
    rw [hN]
    refine a_icmp_ge (tgt := 69) d_M_clauseAt_23 (by decide) (fun c_2 => ?_) (fun n9 => absurd (nI_le (by omega) (by omega)) n9)
    refine a_iconst (v := (-1)) d_M_clauseAt_69 (by decide) ?_
    exact a_ireturn d_M_clauseAt_70 rfl rfl hK
  | succ k ih =>
    intro i v hk hK
    refine a_iload d_M_clauseAt_6 rfl ?_
    refine a_iload_n d_M_clauseAt_8 rfl rfl ?_
    refine a_if_eq (tgt := 19) d_M_clauseAt_9 (by decide) (fun n9 => absurd n9 (hw)) (fun c_1 => ?_)
    refine a_aload_n d_M_clauseAt_12 rfl rfl ?_
    refine m_get d_M_clauseAt_13 f_M_245 rfl ?_
    refine a_goto (tgt := 23) d_M_clauseAt_16 (by decide) ?_
    rw [hN]
    refine a_icmp_ge (tgt := 69) d_M_clauseAt_23 (by decide) (fun n9 => absurd n9 (nI_ge (by omega) (by omega))) (fun c_2 => ?_)
    refine a_iload_n d_M_clauseAt_26 rfl rfl ?_
    refine a_if_eq (tgt := 40) d_M_clauseAt_27 (by decide) (fun n9 => absurd n9 (hw)) (fun c_3 => ?_)
    refine a_aload_n d_M_clauseAt_30 rfl rfl ?_
    refine m_get d_M_clauseAt_31 f_M_70 rfl ?_
    refine a_iload d_M_clauseAt_34 rfl ?_
    refine m_iald d_M_clauseAt_36 (by decide) rfl (vp_in_nI (show i < 192 by omega) (by decide)) ?_
    rw [nI_clamp (show i < 2 ^ 31 by omega)]
    refine a_goto (tgt := 47) d_M_clauseAt_37 (by decide) ?_
    refine a_iload_n d_M_clauseAt_47 rfl rfl ?_
    refine a_icmp_ne (tgt := 63) d_M_clauseAt_48 (by decide) (fun c_4 => ?_) (fun c_4 => ?_)
    · refine a_iinc (c0 := 1) d_M_clauseAt_63 rfl (by decide) (by decide) ?_
      refine a_goto (tgt := 6) d_M_clauseAt_66 (by decide) ?_
      rw [nI_1]
      refine a_lvk (ih (i + 1) _ (by omega) ?_) ⟨rfl, rfl, rfl, rfl, rfl, rfl, trivial⟩
      simp only [cAtF, if_neg c_1, if_neg c_2, if_pos (Int32.not_le.mp c_2), if_neg c_3, if_neg c_4, if_true] at hK
      exact hK
    · refine a_iload d_M_clauseAt_51 rfl ?_
      refine a_iload_n d_M_clauseAt_53 rfl rfl ?_
      refine a_icmp_ne (tgt := 60) d_M_clauseAt_54 (by decide) (fun c_5 => ?_) (fun c_5 => ?_)
      · refine a_iinc (c0 := 1) d_M_clauseAt_60 rfl (by decide) (by decide) ?_
        refine a_iinc (c0 := 1) d_M_clauseAt_63 rfl (by decide) (by decide) ?_
        refine a_goto (tgt := 6) d_M_clauseAt_66 (by decide) ?_
        rw [nI_1]
        refine a_lvk (ih (i + 1) _ (by omega) ?_) ⟨rfl, rfl, rfl, rfl, rfl, rfl, trivial⟩
        simp only [cAtF, if_neg c_1, if_neg c_2, if_pos (Int32.not_le.mp c_2), if_neg c_3, if_pos c_4, if_neg c_5, if_true] at hK
        exact hK
      · refine a_iload d_M_clauseAt_57 rfl ?_
        refine a_ireturn d_M_clauseAt_59 rfl rfl ?_
        simp only [cAtF, if_neg c_1, if_neg c_2, if_pos (Int32.not_le.mp c_2), if_neg c_3, if_pos c_4, if_pos c_5, if_true] at hK
        exact hK

set_option maxHeartbeats 1000000 in
set_option maxRecDepth 100000 in
theorem sp_M_clauseAt1 {w a b : Int32} {N : Nat} (hw : ¬ w = 0) (hN : x.1 43 = nI N) (hN2 : N ≤ 192) (hK : K (some (.int (cAtF (x.2.2.1 19) a b N 0 0))) (mk σ0 m x)) : a_C G m_M_clauseAt 0 0 [.ref m, .int w, .int a, .int b] (mk σ0 m x) K := by
  refine a_enter rfl (Nat.le_of_ble_eq_true rfl) ?_
  refine a_iconst (v := 0) d_M_clauseAt_0 (by decide) ?_
  refine a_istore d_M_clauseAt_1 (by decide) ?_
  refine a_iconst (v := 0) d_M_clauseAt_3 (by decide) ?_
  refine a_istore d_M_clauseAt_4 (by decide) ?_
  exact a_lvk (lp_M_cA1 hw hN hN2 N 0 0 (by omega) hK) ⟨rfl, rfl, rfl, rfl, rfl, rfl, trivial⟩

set_option maxHeartbeats 1000000 in
set_option maxRecDepth 100000 in
theorem lp_M_hM1 {w a : Int32} {N C : Nat} (hw : ¬ w = 0) (hN : x.1 43 = nI N) (hN2 : N ≤ 192) (hc : ∀ j, j < C → ¬ cAtF (x.2.2.1 19) a (nI j) N 0 0 < 0) (hC : cAtF (x.2.2.1 19) a (nI C) N 0 0 < 0) (hK : K (some (.int (nI C))) (mk σ0 m x)) : ∀ (k i : Nat), i + k = C → a_J G m_M_howMany 1 25 2 [(0, .ref m), (1, .int w), (2, .int a), (3, .int (nI i))] [] (mk σ0 m x) K := by
  intro k
  induction k with
  | zero =>
    intro i hk
    refine a_aload_n d_M_howMany_2 rfl rfl ?_
    refine a_iload_n d_M_howMany_3 rfl rfl ?_
    refine a_iload_n d_M_howMany_4 rfl rfl ?_
    refine a_iload_n d_M_howMany_5 rfl rfl ?_
    apply a_callV (ci := 7) 0 0 [_, _, _] _ d_M_howMany_6 l_M_344 ⟨im_M_clauseAt, se_M_clauseAt⟩ rfl rfl rfl rfl (Nat.le_of_ble_eq_true rfl) ⟨Nat.le_of_ble_eq_true rfl, Nat.le_of_ble_eq_true rfl⟩
    · (exact mk_O)
    refine sp_M_clauseAt1 hw hN hN2 ?_
    refine a_if_lt (tgt := 18) d_M_howMany_9 (by decide) (fun c_1 => ?_) (fun n9 => absurd ((by rw [show i = C by omega]; exact hC)) n9)
    refine a_iload_n d_M_howMany_18 rfl rfl ?_
    rw [show i = C by omega]
    exact a_ireturn d_M_howMany_19 rfl rfl hK
  | succ k ih =>
    intro i hk
    refine a_aload_n d_M_howMany_2 rfl rfl ?_
    refine a_iload_n d_M_howMany_3 rfl rfl ?_
    refine a_iload_n d_M_howMany_4 rfl rfl ?_
    refine a_iload_n d_M_howMany_5 rfl rfl ?_
    apply a_callV (ci := 7) 0 0 [_, _, _] _ d_M_howMany_6 l_M_344 ⟨im_M_clauseAt, se_M_clauseAt⟩ rfl rfl rfl rfl (Nat.le_of_ble_eq_true rfl) ⟨Nat.le_of_ble_eq_true rfl, Nat.le_of_ble_eq_true rfl⟩
    · (exact mk_O)
    refine sp_M_clauseAt1 hw hN hN2 ?_
    refine a_if_lt (tgt := 18) d_M_howMany_9 (by decide) (fun n9 => absurd n9 ((hc i (by omega)))) (fun c_1 => ?_)
    refine a_iinc (c0 := 1) d_M_howMany_12 rfl (by decide) (by decide) ?_
    refine a_goto (tgt := 2) d_M_howMany_15 (by decide) ?_
    rw [nI_1]
    exact a_lvk (ih (i + 1) (by omega)) ⟨rfl, rfl, rfl, rfl, trivial⟩

set_option maxHeartbeats 1000000 in
set_option maxRecDepth 100000 in
theorem sp_M_howMany1 {w a : Int32} {N C : Nat} (hw : ¬ w = 0) (hN : x.1 43 = nI N) (hN2 : N ≤ 192) (hc : ∀ j, j < C → ¬ cAtF (x.2.2.1 19) a (nI j) N 0 0 < 0) (hC : cAtF (x.2.2.1 19) a (nI C) N 0 0 < 0) (hK : K (some (.int (nI C))) (mk σ0 m x)) : a_C G m_M_howMany 1 25 [.ref m, .int w, .int a] (mk σ0 m x) K := by
  refine a_enter rfl (Nat.le_of_ble_eq_true rfl) ?_
  refine a_iconst (v := 0) d_M_howMany_0 (by decide) ?_
  refine a_istore_n d_M_howMany_1 rfl (by decide) ?_
  exact a_lvk (lp_M_hM1 hw hN hN2 hc hC hK C 0 (by omega)) ⟨rfl, rfl, rfl, rfl, trivial⟩

set_option maxHeartbeats 1000000 in
set_option maxRecDepth 100000 in
theorem ct_L {a b : Int32} (ha : a < 0) (hK : K (some (.int (-1))) (mk σ0 m (sI x 0 0))) : a_C G m_M_counter 2 48 [.ref m, .int a, .int b] (mk σ0 m x) K := by
  refine a_enter rfl (Nat.le_of_ble_eq_true rfl) ?_
  refine a_aload_n d_M_counter_0 rfl rfl ?_
  refine a_iconst (v := 0) d_M_counter_1 (by decide) ?_
  refine m_putI d_M_counter_2 p_M_115 rfl rfl (by decide) ?_
  refine a_iload_n d_M_counter_5 rfl rfl ?_
  refine a_if_lt (tgt := 17) d_M_counter_6 (by decide) (fun c_1 => ?_) (fun n9 => absurd (ha) n9)
  refine a_iconst (v := (-1)) d_M_counter_17 (by decide) ?_
  exact a_ireturn d_M_counter_18 rfl rfl hK

set_option maxHeartbeats 1000000 in
set_option maxRecDepth 100000 in
theorem ct_H {a b : Int32} (ha : ¬ a < 0) (hb : x.1 28 ≤ a) (hK : K (some (.int (-1))) (mk σ0 m (sI x 0 0))) : a_C G m_M_counter 2 48 [.ref m, .int a, .int b] (mk σ0 m x) K := by
  refine a_enter rfl (Nat.le_of_ble_eq_true rfl) ?_
  refine a_aload_n d_M_counter_0 rfl rfl ?_
  refine a_iconst (v := 0) d_M_counter_1 (by decide) ?_
  refine m_putI d_M_counter_2 p_M_115 rfl rfl (by decide) ?_
  refine a_iload_n d_M_counter_5 rfl rfl ?_
  refine a_if_lt (tgt := 17) d_M_counter_6 (by decide) (fun n9 => absurd n9 (ha)) (fun c_1 => ?_)
  refine a_iload_n d_M_counter_9 rfl rfl ?_
  refine a_aload_n d_M_counter_10 rfl rfl ?_
  refine m_get d_M_counter_11 f_M_236 rfl ?_
  refine a_icmp_lt (tgt := 19) d_M_counter_14 (by decide) (fun n9 => absurd n9 (Int32.not_lt.mpr hb)) (fun c_2 => ?_)
  refine a_iconst (v := (-1)) d_M_counter_17 (by decide) ?_
  exact a_ireturn d_M_counter_18 rfl rfl hK

set_option maxHeartbeats 1000000 in
set_option maxRecDepth 100000 in
theorem ct_I {a b H : Int32} (ha : ¬ a < 0) (hb : a < x.1 28) (h6 : x.1 28 ≤ 6) (hH : ∀ K2 : Option Value → aS → Prop, K2 (some (.int H)) (mk σ0 m (sI x 0 0)) → a_C G m_M_howMany 1 25 [.ref m, .int 0, .int a] (mk σ0 m (sI x 0 0)) K2) (hK : K (some (.int (if b = 0 then x.2.2.1 12 a.toNatClampNeg else if b = 1 then H else if b = 2 then x.2.2.1 7 a.toNatClampNeg else if b = 3 then x.2.2.1 5 a.toNatClampNeg else -1))) (mk σ0 m (sI x 0 0))) : a_C G m_M_counter 2 48 [.ref m, .int a, .int b] (mk σ0 m x) K := by
  refine a_enter rfl (Nat.le_of_ble_eq_true rfl) ?_
  refine a_aload_n d_M_counter_0 rfl rfl ?_
  refine a_iconst (v := 0) d_M_counter_1 (by decide) ?_
  refine m_putI d_M_counter_2 p_M_115 rfl rfl (by decide) ?_
  refine a_iload_n d_M_counter_5 rfl rfl ?_
  refine a_if_lt (tgt := 17) d_M_counter_6 (by decide) (fun n9 => absurd n9 (ha)) (fun c_1 => ?_)
  refine a_iload_n d_M_counter_9 rfl rfl ?_
  refine a_aload_n d_M_counter_10 rfl rfl ?_
  refine m_get d_M_counter_11 f_M_236 rfl ?_
  refine a_icmp_lt (tgt := 19) d_M_counter_14 (by decide) (fun c_2 => ?_) (fun n9 => absurd (hb) n9)
  refine a_iload_n d_M_counter_19 rfl rfl ?_
  refine a_if_ne (tgt := 32) d_M_counter_20 (by decide) (fun c_3 => ?_) (fun c_3 => ?_)
  · refine a_iload_n d_M_counter_32 rfl rfl ?_
    refine a_iconst (v := 1) d_M_counter_33 (by decide) ?_
    refine a_icmp_ne (tgt := 46) d_M_counter_34 (by decide) (fun c_4 => ?_) (fun c_4 => ?_)
    · refine a_iload_n d_M_counter_46 rfl rfl ?_
      refine a_iconst (v := 2) d_M_counter_47 (by decide) ?_
      refine a_icmp_ne (tgt := 60) d_M_counter_48 (by decide) (fun c_5 => ?_) (fun c_5 => ?_)
      · refine a_iload_n d_M_counter_60 rfl rfl ?_
        refine a_iconst (v := 3) d_M_counter_61 (by decide) ?_
        refine a_icmp_ne (tgt := 74) d_M_counter_62 (by decide) (fun c_6 => ?_) (fun c_6 => ?_)
        · refine a_iconst (v := (-1)) d_M_counter_74 (by decide) ?_
          refine a_ireturn d_M_counter_75 rfl rfl ?_
          simp only [if_neg c_1, if_pos (Int32.not_lt.mp c_1), if_pos c_2, if_neg (Int32.not_le.mpr c_2), if_neg c_3, if_neg c_4, if_neg c_5, if_neg c_6, if_true, ite_true, ite_false] at hK
          exact hK
        · refine a_aload_n d_M_counter_65 rfl rfl ?_
          refine m_get d_M_counter_66 f_M_26 rfl ?_
          refine a_iload_n d_M_counter_69 rfl rfl ?_
          refine m_iald d_M_counter_70 (by decide) rfl (vp_lt (M := 6) (N := 6) rfl (by decide) ha (Int32.lt_of_lt_of_le hb h6)) ?_
          refine a_goto (tgt := 75) d_M_counter_71 (by decide) ?_
          refine a_ireturn d_M_counter_75 rfl rfl ?_
          simp only [if_neg c_1, if_pos (Int32.not_lt.mp c_1), if_pos c_2, if_neg (Int32.not_le.mpr c_2), if_neg c_3, if_neg c_4, if_neg c_5, if_pos c_6, if_true, ite_true, ite_false] at hK
          exact hK
      · refine a_aload_n d_M_counter_51 rfl rfl ?_
        refine m_get d_M_counter_52 f_M_32 rfl ?_
        refine a_iload_n d_M_counter_55 rfl rfl ?_
        refine m_iald d_M_counter_56 (by decide) rfl (vp_lt (M := 6) (N := 6) rfl (by decide) ha (Int32.lt_of_lt_of_le hb h6)) ?_
        refine a_goto (tgt := 75) d_M_counter_57 (by decide) ?_
        refine a_ireturn d_M_counter_75 rfl rfl ?_
        simp only [if_neg c_1, if_pos (Int32.not_lt.mp c_1), if_pos c_2, if_neg (Int32.not_le.mpr c_2), if_neg c_3, if_neg c_4, if_pos c_5, if_true, ite_true, ite_false] at hK
        exact hK
    · refine a_aload_n d_M_counter_37 rfl rfl ?_
      refine a_iconst (v := 0) d_M_counter_38 (by decide) ?_
      refine a_iload_n d_M_counter_39 rfl rfl ?_
      apply a_callV (ci := 7) 1 25 [_, _] _ d_M_counter_40 l_M_348 ⟨im_M_howMany, se_M_howMany⟩ rfl rfl rfl rfl (Nat.le_of_ble_eq_true rfl) ⟨Nat.le_of_ble_eq_true rfl, Nat.le_of_ble_eq_true rfl⟩
      · (exact mk_O)
      refine hH _ ?_
      refine a_goto (tgt := 75) d_M_counter_43 (by decide) ?_
      refine a_ireturn d_M_counter_75 rfl rfl ?_
      simp only [if_neg c_1, if_pos (Int32.not_lt.mp c_1), if_pos c_2, if_neg (Int32.not_le.mpr c_2), if_neg c_3, if_pos c_4, if_true, ite_true, ite_false] at hK
      exact hK
  · refine a_aload_n d_M_counter_23 rfl rfl ?_
    refine m_get d_M_counter_24 f_M_48 rfl ?_
    refine a_iload_n d_M_counter_27 rfl rfl ?_
    refine m_iald d_M_counter_28 (by decide) rfl (vp_lt (M := 6) (N := 6) rfl (by decide) ha (Int32.lt_of_lt_of_le hb h6)) ?_
    refine a_goto (tgt := 75) d_M_counter_29 (by decide) ?_
    refine a_ireturn d_M_counter_75 rfl rfl ?_
    simp only [if_neg c_1, if_pos (Int32.not_lt.mp c_1), if_pos c_2, if_neg (Int32.not_le.mpr c_2), if_pos c_3, if_true, ite_true, ite_false] at hK
    exact hK

set_option maxHeartbeats 1000000 in
set_option maxRecDepth 100000 in
theorem nd_L {a b : Int32} (ha : a < 0) (hK : K (some (.int (-1))) (mk σ0 m (sI x 0 0))) : a_C G m_M_node 2 48 [.ref m, .int a, .int b] (mk σ0 m x) K := by
  refine a_enter rfl (Nat.le_of_ble_eq_true rfl) ?_
  refine a_aload_n d_M_node_0 rfl rfl ?_
  refine a_iconst (v := 0) d_M_node_1 (by decide) ?_
  refine m_putI d_M_node_2 p_M_115 rfl rfl (by decide) ?_
  refine a_iload_n d_M_node_5 rfl rfl ?_
  refine a_if_lt (tgt := 17) d_M_node_6 (by decide) (fun c_1 => ?_) (fun n9 => absurd (ha) n9)
  refine a_iconst (v := (-1)) d_M_node_17 (by decide) ?_
  exact a_ireturn d_M_node_18 rfl rfl hK

set_option maxHeartbeats 1000000 in
set_option maxRecDepth 100000 in
theorem nd_H {a b : Int32} (ha : ¬ a < 0) (hb : x.1 36 ≤ a) (hK : K (some (.int (-1))) (mk σ0 m (sI x 0 0))) : a_C G m_M_node 2 48 [.ref m, .int a, .int b] (mk σ0 m x) K := by
  refine a_enter rfl (Nat.le_of_ble_eq_true rfl) ?_
  refine a_aload_n d_M_node_0 rfl rfl ?_
  refine a_iconst (v := 0) d_M_node_1 (by decide) ?_
  refine m_putI d_M_node_2 p_M_115 rfl rfl (by decide) ?_
  refine a_iload_n d_M_node_5 rfl rfl ?_
  refine a_if_lt (tgt := 17) d_M_node_6 (by decide) (fun n9 => absurd n9 (ha)) (fun c_1 => ?_)
  refine a_iload_n d_M_node_9 rfl rfl ?_
  refine a_aload_n d_M_node_10 rfl rfl ?_
  refine m_get d_M_node_11 f_M_242 rfl ?_
  refine a_icmp_lt (tgt := 19) d_M_node_14 (by decide) (fun n9 => absurd n9 (Int32.not_lt.mpr hb)) (fun c_2 => ?_)
  refine a_iconst (v := (-1)) d_M_node_17 (by decide) ?_
  exact a_ireturn d_M_node_18 rfl rfl hK

set_option maxHeartbeats 1000000 in
set_option maxRecDepth 100000 in
theorem nd_I {a b H : Int32} (ha : ¬ a < 0) (hb : a < x.1 36) (h6 : x.1 36 ≤ 24) (hH : ∀ K2 : Option Value → aS → Prop, K2 (some (.int H)) (mk σ0 m (sI x 0 0)) → a_C G m_M_howMany 1 25 [.ref m, .int 1, .int a] (mk σ0 m (sI x 0 0)) K2) (hK : K (some (.int (if b = 0 then H else if b = 1 then x.2.2.1 6 a.toNatClampNeg else -1))) (mk σ0 m (sI x 0 0))) : a_C G m_M_node 2 48 [.ref m, .int a, .int b] (mk σ0 m x) K := by
  refine a_enter rfl (Nat.le_of_ble_eq_true rfl) ?_
  refine a_aload_n d_M_node_0 rfl rfl ?_
  refine a_iconst (v := 0) d_M_node_1 (by decide) ?_
  refine m_putI d_M_node_2 p_M_115 rfl rfl (by decide) ?_
  refine a_iload_n d_M_node_5 rfl rfl ?_
  refine a_if_lt (tgt := 17) d_M_node_6 (by decide) (fun n9 => absurd n9 (ha)) (fun c_1 => ?_)
  refine a_iload_n d_M_node_9 rfl rfl ?_
  refine a_aload_n d_M_node_10 rfl rfl ?_
  refine m_get d_M_node_11 f_M_242 rfl ?_
  refine a_icmp_lt (tgt := 19) d_M_node_14 (by decide) (fun c_2 => ?_) (fun n9 => absurd (hb) n9)
  refine a_iload_n d_M_node_19 rfl rfl ?_
  refine a_if_ne (tgt := 32) d_M_node_20 (by decide) (fun c_3 => ?_) (fun c_3 => ?_)
  · refine a_iload_n d_M_node_32 rfl rfl ?_
    refine a_iconst (v := 1) d_M_node_33 (by decide) ?_
    refine a_icmp_ne (tgt := 46) d_M_node_34 (by decide) (fun c_4 => ?_) (fun c_4 => ?_)
    · refine a_iconst (v := (-1)) d_M_node_46 (by decide) ?_
      refine a_ireturn d_M_node_47 rfl rfl ?_
      simp only [if_neg c_1, if_pos (Int32.not_lt.mp c_1), if_pos c_2, if_neg (Int32.not_le.mpr c_2), if_neg c_3, if_neg c_4, if_true, ite_true, ite_false] at hK
      exact hK
    · refine a_aload_n d_M_node_37 rfl rfl ?_
      refine m_get d_M_node_38 f_M_29 rfl ?_
      refine a_iload_n d_M_node_41 rfl rfl ?_
      refine m_iald d_M_node_42 (by decide) rfl (vp_lt (M := 24) (N := 24) rfl (by decide) ha (Int32.lt_of_lt_of_le hb h6)) ?_
      refine a_goto (tgt := 47) d_M_node_43 (by decide) ?_
      refine a_ireturn d_M_node_47 rfl rfl ?_
      simp only [if_neg c_1, if_pos (Int32.not_lt.mp c_1), if_pos c_2, if_neg (Int32.not_le.mpr c_2), if_neg c_3, if_pos c_4, if_true, ite_true, ite_false] at hK
      exact hK
  · refine a_aload_n d_M_node_23 rfl rfl ?_
    refine a_iconst (v := 1) d_M_node_24 (by decide) ?_
    refine a_iload_n d_M_node_25 rfl rfl ?_
    apply a_callV (ci := 7) 1 25 [_, _] _ d_M_node_26 l_M_348 ⟨im_M_howMany, se_M_howMany⟩ rfl rfl rfl rfl (Nat.le_of_ble_eq_true rfl) ⟨Nat.le_of_ble_eq_true rfl, Nat.le_of_ble_eq_true rfl⟩
    · (exact mk_O)
    refine hH _ ?_
    refine a_goto (tgt := 47) d_M_node_29 (by decide) ?_
    refine a_ireturn d_M_node_47 rfl rfl ?_
    simp only [if_neg c_1, if_pos (Int32.not_lt.mp c_1), if_pos c_2, if_neg (Int32.not_le.mpr c_2), if_pos c_3, if_true, ite_true, ite_false] at hK
    exact hK

set_option maxHeartbeats 1000000 in
set_option maxRecDepth 100000 in
theorem cl_N0 {w a b e : Int32} {N : Nat} (hw : w = 0) (hN : x.1 34 = nI N) (hN2 : N ≤ 24) (hv : cAtF (x.2.2.1 13) a b N 0 0 = -1) (hK : K (some (.int (-1))) (mk σ0 m (sI x 0 0))) : a_C G m_M_clause 1 25 [.ref m, .int w, .int a, .int b, .int e] (mk σ0 m x) K := by
  refine a_enter rfl (Nat.le_of_ble_eq_true rfl) ?_
  refine a_aload_n d_M_clause_0 rfl rfl ?_
  refine a_iconst (v := 0) d_M_clause_1 (by decide) ?_
  refine m_putI d_M_clause_2 p_M_115 rfl rfl (by decide) ?_
  refine a_aload_n d_M_clause_5 rfl rfl ?_
  refine a_iload_n d_M_clause_6 rfl rfl ?_
  refine a_iload_n d_M_clause_7 rfl rfl ?_
  refine a_iload_n d_M_clause_8 rfl rfl ?_
  apply a_callV (ci := 7) 0 0 [_, _, _] _ d_M_clause_9 l_M_344 ⟨im_M_clauseAt, se_M_clauseAt⟩ rfl rfl rfl rfl (Nat.le_of_ble_eq_true rfl) ⟨Nat.le_of_ble_eq_true rfl, Nat.le_of_ble_eq_true rfl⟩
  · (exact mk_O)
  refine sp_M_clauseAt0 (x := sI x 0 0) hw hN hN2 ?_
  rw [show cAtF ((sI x 0 0).2.2.1 13) a b N 0 0 = _ from hv]
  refine a_istore d_M_clause_12 (by decide) ?_
  refine a_iload d_M_clause_14 rfl ?_
  refine a_if_lt (tgt := 30) d_M_clause_16 (by decide) (fun c_1 => ?_) (fun n9 => absurd (by decide) n9)
  refine a_iconst (v := (-1)) d_M_clause_30 (by decide) ?_
  exact a_ireturn d_M_clause_31 rfl rfl hK

set_option maxHeartbeats 1000000 in
set_option maxRecDepth 100000 in
theorem cl_Y0 {w a b e : Int32} {N r : Nat} (hw : w = 0) (hN : x.1 34 = nI N) (hN2 : N ≤ 24) (hv : cAtF (x.2.2.1 13) a b N 0 0 = nI r) (hr : r < N) (hK : K (some (.int (if e < 0 then -1 else if e ≤ 2 then (if e = 0 then (if 0 ≤ (sI x 0 0).2.2.1 15 r then (sI x 0 0).2.2.1 15 r else 16) else if e = 1 then (sI x 0 0).2.2.1 17 r else if (sI x 0 0).2.2.1 14 r = 0 then 0 else 1) else -1))) (mk σ0 m (sI x 0 0))) : a_C G m_M_clause 1 25 [.ref m, .int w, .int a, .int b, .int e] (mk σ0 m x) K := by
  refine a_enter rfl (Nat.le_of_ble_eq_true rfl) ?_
  refine a_aload_n d_M_clause_0 rfl rfl ?_
  refine a_iconst (v := 0) d_M_clause_1 (by decide) ?_
  refine m_putI d_M_clause_2 p_M_115 rfl rfl (by decide) ?_
  refine a_aload_n d_M_clause_5 rfl rfl ?_
  refine a_iload_n d_M_clause_6 rfl rfl ?_
  refine a_iload_n d_M_clause_7 rfl rfl ?_
  refine a_iload_n d_M_clause_8 rfl rfl ?_
  apply a_callV (ci := 7) 0 0 [_, _, _] _ d_M_clause_9 l_M_344 ⟨im_M_clauseAt, se_M_clauseAt⟩ rfl rfl rfl rfl (Nat.le_of_ble_eq_true rfl) ⟨Nat.le_of_ble_eq_true rfl, Nat.le_of_ble_eq_true rfl⟩
  · (exact mk_O)
  refine sp_M_clauseAt0 (x := sI x 0 0) hw hN hN2 ?_
  rw [show cAtF ((sI x 0 0).2.2.1 13) a b N 0 0 = _ from hv]
  refine a_istore d_M_clause_12 (by decide) ?_
  refine a_iload d_M_clause_14 rfl ?_
  refine a_if_lt (tgt := 30) d_M_clause_16 (by decide) (fun n9 => absurd n9 (nI_pos (by omega))) (fun c_1 => ?_)
  refine a_iload d_M_clause_19 rfl ?_
  refine a_if_lt (tgt := 30) d_M_clause_21 (by decide) (fun c_2 => ?_) (fun c_2 => ?_)
  · refine a_iconst (v := (-1)) d_M_clause_30 (by decide) ?_
    refine a_ireturn d_M_clause_31 rfl rfl ?_
    simp only [if_neg c_1, if_pos (Int32.not_lt.mp c_1), if_pos c_2, if_neg (Int32.not_le.mpr c_2), if_true, ite_true, ite_false] at hK
    exact hK
  · refine a_iload d_M_clause_24 rfl ?_
    refine a_iconst (v := 2) d_M_clause_26 (by decide) ?_
    refine a_icmp_le (tgt := 32) d_M_clause_27 (by decide) (fun c_3 => ?_) (fun c_3 => ?_)
    · refine a_iload_n d_M_clause_32 rfl rfl ?_
      refine a_if_eq (tgt := 46) d_M_clause_33 (by decide) (fun c_4 => ?_) (fun n9 => absurd (hw) n9)
      refine a_aload_n d_M_clause_46 rfl rfl ?_
      refine m_get d_M_clause_47 f_M_58 rfl ?_
      refine a_iload d_M_clause_50 rfl ?_
      refine m_iald d_M_clause_52 (by decide) rfl (vp_in_nI (show r < 24 by omega) (by decide)) ?_
      rw [nI_clamp (show r < 2 ^ 31 by omega)]
      refine a_istore d_M_clause_53 (by decide) ?_
      refine a_iload d_M_clause_55 rfl ?_
      refine a_if_ne (tgt := 75) d_M_clause_57 (by decide) (fun c_5 => ?_) (fun c_5 => ?_)
      · refine a_iload d_M_clause_75 rfl ?_
        refine a_iconst (v := 1) d_M_clause_77 (by decide) ?_
        refine a_icmp_ne (tgt := 105) d_M_clause_78 (by decide) (fun c_6 => ?_) (fun c_6 => ?_)
        · refine a_iload_n d_M_clause_105 rfl rfl ?_
          refine a_if_eq (tgt := 119) d_M_clause_106 (by decide) (fun c_7 => ?_) (fun n9 => absurd (hw) n9)
          refine a_aload_n d_M_clause_119 rfl rfl ?_
          refine m_get d_M_clause_120 f_M_54 rfl ?_
          refine a_iload d_M_clause_123 rfl ?_
          refine m_zald d_M_clause_125 (by decide) rfl (vp_in_nI (show r < 24 by omega) (by decide)) ?_
          rw [nI_clamp (show r < 2 ^ 31 by omega)]
          refine a_if_eq (tgt := 133) d_M_clause_126 (by decide) (fun c_8 => ?_) (fun c_8 => ?_)
          · refine a_iconst (v := 0) d_M_clause_133 (by decide) ?_
            refine a_ireturn d_M_clause_134 rfl rfl ?_
            simp only [if_neg c_1, if_pos (Int32.not_lt.mp c_1), if_neg c_2, if_pos (Int32.not_lt.mp c_2), if_pos c_3, if_neg (Int32.not_lt.mpr c_3), if_pos c_4, if_neg c_5, if_neg c_6, if_pos c_7, if_pos c_8, if_true, ite_true, ite_false] at hK
            exact hK
          · refine a_iconst (v := 1) d_M_clause_129 (by decide) ?_
            refine a_goto (tgt := 134) d_M_clause_130 (by decide) ?_
            refine a_ireturn d_M_clause_134 rfl rfl ?_
            simp only [if_neg c_1, if_pos (Int32.not_lt.mp c_1), if_neg c_2, if_pos (Int32.not_lt.mp c_2), if_pos c_3, if_neg (Int32.not_lt.mpr c_3), if_pos c_4, if_neg c_5, if_neg c_6, if_pos c_7, if_neg c_8, if_true, ite_true, ite_false] at hK
            exact hK
        · refine a_iload_n d_M_clause_81 rfl rfl ?_
          refine a_if_eq (tgt := 95) d_M_clause_82 (by decide) (fun c_9 => ?_) (fun n9 => absurd (hw) n9)
          refine a_aload_n d_M_clause_95 rfl rfl ?_
          refine m_get d_M_clause_96 f_M_64 rfl ?_
          refine a_iload d_M_clause_99 rfl ?_
          refine m_iald d_M_clause_101 (by decide) rfl (vp_in_nI (show r < 24 by omega) (by decide)) ?_
          rw [nI_clamp (show r < 2 ^ 31 by omega)]
          refine a_goto (tgt := 134) d_M_clause_102 (by decide) ?_
          refine a_ireturn d_M_clause_134 rfl rfl ?_
          simp only [if_neg c_1, if_pos (Int32.not_lt.mp c_1), if_neg c_2, if_pos (Int32.not_lt.mp c_2), if_pos c_3, if_neg (Int32.not_lt.mpr c_3), if_pos c_4, if_neg c_5, if_pos c_6, if_pos c_9, if_true, ite_true, ite_false] at hK
          exact hK
      · refine a_iload d_M_clause_60 rfl ?_
        refine a_if_ge (tgt := 70) d_M_clause_62 (by decide) (fun c_10 => ?_) (fun c_10 => ?_)
        · refine a_iload d_M_clause_70 rfl ?_
          refine a_goto (tgt := 134) d_M_clause_72 (by decide) ?_
          refine a_ireturn d_M_clause_134 rfl rfl ?_
          simp only [if_neg c_1, if_pos (Int32.not_lt.mp c_1), if_neg c_2, if_pos (Int32.not_lt.mp c_2), if_pos c_3, if_neg (Int32.not_lt.mpr c_3), if_pos c_4, if_pos c_5, if_pos c_10, if_neg (Int32.not_lt.mpr c_10), if_true, ite_true, ite_false] at hK
          exact hK
        · refine a_bipush (v := 16) d_M_clause_65 (by decide) ?_
          refine a_goto (tgt := 134) d_M_clause_67 (by decide) ?_
          refine a_ireturn d_M_clause_134 rfl rfl ?_
          simp only [if_neg c_1, if_pos (Int32.not_lt.mp c_1), if_neg c_2, if_pos (Int32.not_lt.mp c_2), if_pos c_3, if_neg (Int32.not_lt.mpr c_3), if_pos c_4, if_pos c_5, if_neg c_10, if_pos (Int32.not_le.mp c_10), if_true, ite_true, ite_false] at hK
          exact hK
    · refine a_iconst (v := (-1)) d_M_clause_30 (by decide) ?_
      refine a_ireturn d_M_clause_31 rfl rfl ?_
      simp only [if_neg c_1, if_pos (Int32.not_lt.mp c_1), if_neg c_2, if_pos (Int32.not_lt.mp c_2), if_neg c_3, if_pos (Int32.not_le.mp c_3), if_true, ite_true, ite_false] at hK
      exact hK

set_option maxHeartbeats 1000000 in
set_option maxRecDepth 100000 in
theorem ta_N0 {w a b e : Int32} {N : Nat} (hw : w = 0) (hN : x.1 34 = nI N) (hN2 : N ≤ 24) (hv : cAtF (x.2.2.1 13) a b N 0 0 = -1) (hK : K (some (.int (-1))) (mk σ0 m x)) : a_C G m_M_testAt 1 25 [.ref m, .int w, .int a, .int b, .int e] (mk σ0 m x) K := by
  refine a_enter rfl (Nat.le_of_ble_eq_true rfl) ?_
  refine a_aload_n d_M_testAt_0 rfl rfl ?_
  refine a_iload_n d_M_testAt_1 rfl rfl ?_
  refine a_iload_n d_M_testAt_2 rfl rfl ?_
  refine a_iload_n d_M_testAt_3 rfl rfl ?_
  apply a_callV (ci := 7) 0 0 [_, _, _] _ d_M_testAt_4 l_M_344 ⟨im_M_clauseAt, se_M_clauseAt⟩ rfl rfl rfl rfl (Nat.le_of_ble_eq_true rfl) ⟨Nat.le_of_ble_eq_true rfl, Nat.le_of_ble_eq_true rfl⟩
  · (exact mk_O)
  refine sp_M_clauseAt0 hw hN hN2 ?_
  rw [hv]
  refine a_istore d_M_testAt_7 (by decide) ?_
  refine a_iload d_M_testAt_9 rfl ?_
  refine a_if_lt (tgt := 45) d_M_testAt_11 (by decide) (fun c_1 => ?_) (fun n9 => absurd (by decide) n9)
  refine a_iconst (v := (-1)) d_M_testAt_45 (by decide) ?_
  exact a_ireturn d_M_testAt_46 rfl rfl hK

set_option maxHeartbeats 1000000 in
set_option maxRecDepth 100000 in
theorem ta_Y0 {w a b e : Int32} {N r : Nat} (hw : w = 0) (hN : x.1 34 = nI N) (hN2 : N ≤ 24) (hv : cAtF (x.2.2.1 13) a b N 0 0 = nI r) (hr : r < N) (hK : K (some (.int (if e < 0 then -1 else if e < x.2.2.1 17 r then x.2.2.1 16 r + e else -1))) (mk σ0 m x)) : a_C G m_M_testAt 1 25 [.ref m, .int w, .int a, .int b, .int e] (mk σ0 m x) K := by
  refine a_enter rfl (Nat.le_of_ble_eq_true rfl) ?_
  refine a_aload_n d_M_testAt_0 rfl rfl ?_
  refine a_iload_n d_M_testAt_1 rfl rfl ?_
  refine a_iload_n d_M_testAt_2 rfl rfl ?_
  refine a_iload_n d_M_testAt_3 rfl rfl ?_
  apply a_callV (ci := 7) 0 0 [_, _, _] _ d_M_testAt_4 l_M_344 ⟨im_M_clauseAt, se_M_clauseAt⟩ rfl rfl rfl rfl (Nat.le_of_ble_eq_true rfl) ⟨Nat.le_of_ble_eq_true rfl, Nat.le_of_ble_eq_true rfl⟩
  · (exact mk_O)
  refine sp_M_clauseAt0 hw hN hN2 ?_
  rw [hv]
  refine a_istore d_M_testAt_7 (by decide) ?_
  refine a_iload d_M_testAt_9 rfl ?_
  refine a_if_lt (tgt := 45) d_M_testAt_11 (by decide) (fun n9 => absurd n9 (nI_pos (by omega))) (fun c_1 => ?_)
  refine a_iload d_M_testAt_14 rfl ?_
  refine a_if_lt (tgt := 45) d_M_testAt_16 (by decide) (fun c_2 => ?_) (fun c_2 => ?_)
  · refine a_iconst (v := (-1)) d_M_testAt_45 (by decide) ?_
    refine a_ireturn d_M_testAt_46 rfl rfl ?_
    simp only [if_neg c_1, if_pos (Int32.not_lt.mp c_1), if_pos c_2, if_neg (Int32.not_le.mpr c_2), if_true, ite_true, ite_false] at hK
    exact hK
  · refine a_iload d_M_testAt_19 rfl ?_
    refine a_iload_n d_M_testAt_21 rfl rfl ?_
    refine a_if_eq (tgt := 35) d_M_testAt_22 (by decide) (fun c_3 => ?_) (fun n9 => absurd (hw) n9)
    refine a_aload_n d_M_testAt_35 rfl rfl ?_
    refine m_get d_M_testAt_36 f_M_64 rfl ?_
    refine a_iload d_M_testAt_39 rfl ?_
    refine m_iald d_M_testAt_41 (by decide) rfl (vp_in_nI (show r < 24 by omega) (by decide)) ?_
    rw [nI_clamp (show r < 2 ^ 31 by omega)]
    refine a_icmp_lt (tgt := 47) d_M_testAt_42 (by decide) (fun c_4 => ?_) (fun c_4 => ?_)
    · refine a_iload_n d_M_testAt_47 rfl rfl ?_
      refine a_if_eq (tgt := 61) d_M_testAt_48 (by decide) (fun c_5 => ?_) (fun n9 => absurd (hw) n9)
      refine a_aload_n d_M_testAt_61 rfl rfl ?_
      refine m_get d_M_testAt_62 f_M_61 rfl ?_
      refine a_iload d_M_testAt_65 rfl ?_
      refine m_iald d_M_testAt_67 (by decide) rfl (vp_in_nI (show r < 24 by omega) (by decide)) ?_
      rw [nI_clamp (show r < 2 ^ 31 by omega)]
      refine a_iload d_M_testAt_68 rfl ?_
      refine a_iadd d_M_testAt_70 ?_
      refine a_ireturn d_M_testAt_71 rfl rfl ?_
      simp only [if_neg c_1, if_pos (Int32.not_lt.mp c_1), if_neg c_2, if_pos (Int32.not_lt.mp c_2), if_pos c_3, if_pos c_4, if_neg (Int32.not_le.mpr c_4), if_pos c_5, if_true, ite_true, ite_false] at hK
      exact hK
    · refine a_iconst (v := (-1)) d_M_testAt_45 (by decide) ?_
      refine a_ireturn d_M_testAt_46 rfl rfl ?_
      simp only [if_neg c_1, if_pos (Int32.not_lt.mp c_1), if_neg c_2, if_pos (Int32.not_lt.mp c_2), if_pos c_3, if_neg c_4, if_pos (Int32.not_lt.mp c_4), if_true, ite_true, ite_false] at hK
      exact hK

set_option maxHeartbeats 1000000 in
set_option maxRecDepth 100000 in
theorem cl_N1 {w a b e : Int32} {N : Nat} (hw : ¬ w = 0) (hN : x.1 43 = nI N) (hN2 : N ≤ 192) (hv : cAtF (x.2.2.1 19) a b N 0 0 = -1) (hK : K (some (.int (-1))) (mk σ0 m (sI x 0 0))) : a_C G m_M_clause 1 25 [.ref m, .int w, .int a, .int b, .int e] (mk σ0 m x) K := by
  refine a_enter rfl (Nat.le_of_ble_eq_true rfl) ?_
  refine a_aload_n d_M_clause_0 rfl rfl ?_
  refine a_iconst (v := 0) d_M_clause_1 (by decide) ?_
  refine m_putI d_M_clause_2 p_M_115 rfl rfl (by decide) ?_
  refine a_aload_n d_M_clause_5 rfl rfl ?_
  refine a_iload_n d_M_clause_6 rfl rfl ?_
  refine a_iload_n d_M_clause_7 rfl rfl ?_
  refine a_iload_n d_M_clause_8 rfl rfl ?_
  apply a_callV (ci := 7) 0 0 [_, _, _] _ d_M_clause_9 l_M_344 ⟨im_M_clauseAt, se_M_clauseAt⟩ rfl rfl rfl rfl (Nat.le_of_ble_eq_true rfl) ⟨Nat.le_of_ble_eq_true rfl, Nat.le_of_ble_eq_true rfl⟩
  · (exact mk_O)
  refine sp_M_clauseAt1 (x := sI x 0 0) hw hN hN2 ?_
  rw [show cAtF ((sI x 0 0).2.2.1 19) a b N 0 0 = _ from hv]
  refine a_istore d_M_clause_12 (by decide) ?_
  refine a_iload d_M_clause_14 rfl ?_
  refine a_if_lt (tgt := 30) d_M_clause_16 (by decide) (fun c_1 => ?_) (fun n9 => absurd (by decide) n9)
  refine a_iconst (v := (-1)) d_M_clause_30 (by decide) ?_
  exact a_ireturn d_M_clause_31 rfl rfl hK

set_option maxHeartbeats 1000000 in
set_option maxRecDepth 100000 in
theorem cl_Y1 {w a b e : Int32} {N r : Nat} (hw : ¬ w = 0) (hN : x.1 43 = nI N) (hN2 : N ≤ 192) (hv : cAtF (x.2.2.1 19) a b N 0 0 = nI r) (hr : r < N) (hK : K (some (.int (if e < 0 then -1 else if e ≤ 2 then (if e = 0 then (if 0 ≤ (sI x 0 0).2.2.1 20 r then (sI x 0 0).2.2.1 20 r else 16) else if e = 1 then (sI x 0 0).2.2.1 22 r else (sI x 0 0).2.2.1 24 r) else -1))) (mk σ0 m (sI x 0 0))) : a_C G m_M_clause 1 25 [.ref m, .int w, .int a, .int b, .int e] (mk σ0 m x) K := by
  refine a_enter rfl (Nat.le_of_ble_eq_true rfl) ?_
  refine a_aload_n d_M_clause_0 rfl rfl ?_
  refine a_iconst (v := 0) d_M_clause_1 (by decide) ?_
  refine m_putI d_M_clause_2 p_M_115 rfl rfl (by decide) ?_
  refine a_aload_n d_M_clause_5 rfl rfl ?_
  refine a_iload_n d_M_clause_6 rfl rfl ?_
  refine a_iload_n d_M_clause_7 rfl rfl ?_
  refine a_iload_n d_M_clause_8 rfl rfl ?_
  apply a_callV (ci := 7) 0 0 [_, _, _] _ d_M_clause_9 l_M_344 ⟨im_M_clauseAt, se_M_clauseAt⟩ rfl rfl rfl rfl (Nat.le_of_ble_eq_true rfl) ⟨Nat.le_of_ble_eq_true rfl, Nat.le_of_ble_eq_true rfl⟩
  · (exact mk_O)
  refine sp_M_clauseAt1 (x := sI x 0 0) hw hN hN2 ?_
  rw [show cAtF ((sI x 0 0).2.2.1 19) a b N 0 0 = _ from hv]
  refine a_istore d_M_clause_12 (by decide) ?_
  refine a_iload d_M_clause_14 rfl ?_
  refine a_if_lt (tgt := 30) d_M_clause_16 (by decide) (fun n9 => absurd n9 (nI_pos (by omega))) (fun c_1 => ?_)
  refine a_iload d_M_clause_19 rfl ?_
  refine a_if_lt (tgt := 30) d_M_clause_21 (by decide) (fun c_2 => ?_) (fun c_2 => ?_)
  · refine a_iconst (v := (-1)) d_M_clause_30 (by decide) ?_
    refine a_ireturn d_M_clause_31 rfl rfl ?_
    simp only [if_neg c_1, if_pos (Int32.not_lt.mp c_1), if_pos c_2, if_neg (Int32.not_le.mpr c_2), if_true, ite_true, ite_false] at hK
    exact hK
  · refine a_iload d_M_clause_24 rfl ?_
    refine a_iconst (v := 2) d_M_clause_26 (by decide) ?_
    refine a_icmp_le (tgt := 32) d_M_clause_27 (by decide) (fun c_3 => ?_) (fun c_3 => ?_)
    · refine a_iload_n d_M_clause_32 rfl rfl ?_
      refine a_if_eq (tgt := 46) d_M_clause_33 (by decide) (fun n9 => absurd n9 (hw)) (fun c_4 => ?_)
      refine a_aload_n d_M_clause_36 rfl rfl ?_
      refine m_get d_M_clause_37 f_M_73 rfl ?_
      refine a_iload d_M_clause_40 rfl ?_
      refine m_iald d_M_clause_42 (by decide) rfl (vp_in_nI (show r < 192 by omega) (by decide)) ?_
      rw [nI_clamp (show r < 2 ^ 31 by omega)]
      refine a_goto (tgt := 53) d_M_clause_43 (by decide) ?_
      refine a_istore d_M_clause_53 (by decide) ?_
      refine a_iload d_M_clause_55 rfl ?_
      refine a_if_ne (tgt := 75) d_M_clause_57 (by decide) (fun c_5 => ?_) (fun c_5 => ?_)
      · refine a_iload d_M_clause_75 rfl ?_
        refine a_iconst (v := 1) d_M_clause_77 (by decide) ?_
        refine a_icmp_ne (tgt := 105) d_M_clause_78 (by decide) (fun c_6 => ?_) (fun c_6 => ?_)
        · refine a_iload_n d_M_clause_105 rfl rfl ?_
          refine a_if_eq (tgt := 119) d_M_clause_106 (by decide) (fun n9 => absurd n9 (hw)) (fun c_7 => ?_)
          refine a_aload_n d_M_clause_109 rfl rfl ?_
          refine m_get d_M_clause_110 f_M_85 rfl ?_
          refine a_iload d_M_clause_113 rfl ?_
          refine m_iald d_M_clause_115 (by decide) rfl (vp_in_nI (show r < 192 by omega) (by decide)) ?_
          rw [nI_clamp (show r < 2 ^ 31 by omega)]
          refine a_goto (tgt := 134) d_M_clause_116 (by decide) ?_
          refine a_ireturn d_M_clause_134 rfl rfl ?_
          simp only [if_neg c_1, if_pos (Int32.not_lt.mp c_1), if_neg c_2, if_pos (Int32.not_lt.mp c_2), if_pos c_3, if_neg (Int32.not_lt.mpr c_3), if_neg c_4, if_neg c_5, if_neg c_6, if_neg c_7, if_true, ite_true, ite_false] at hK
          exact hK
        · refine a_iload_n d_M_clause_81 rfl rfl ?_
          refine a_if_eq (tgt := 95) d_M_clause_82 (by decide) (fun n9 => absurd n9 (hw)) (fun c_8 => ?_)
          refine a_aload_n d_M_clause_85 rfl rfl ?_
          refine m_get d_M_clause_86 f_M_79 rfl ?_
          refine a_iload d_M_clause_89 rfl ?_
          refine m_iald d_M_clause_91 (by decide) rfl (vp_in_nI (show r < 192 by omega) (by decide)) ?_
          rw [nI_clamp (show r < 2 ^ 31 by omega)]
          refine a_goto (tgt := 134) d_M_clause_92 (by decide) ?_
          refine a_ireturn d_M_clause_134 rfl rfl ?_
          simp only [if_neg c_1, if_pos (Int32.not_lt.mp c_1), if_neg c_2, if_pos (Int32.not_lt.mp c_2), if_pos c_3, if_neg (Int32.not_lt.mpr c_3), if_neg c_4, if_neg c_5, if_pos c_6, if_neg c_8, if_true, ite_true, ite_false] at hK
          exact hK
      · refine a_iload d_M_clause_60 rfl ?_
        refine a_if_ge (tgt := 70) d_M_clause_62 (by decide) (fun c_9 => ?_) (fun c_9 => ?_)
        · refine a_iload d_M_clause_70 rfl ?_
          refine a_goto (tgt := 134) d_M_clause_72 (by decide) ?_
          refine a_ireturn d_M_clause_134 rfl rfl ?_
          simp only [if_neg c_1, if_pos (Int32.not_lt.mp c_1), if_neg c_2, if_pos (Int32.not_lt.mp c_2), if_pos c_3, if_neg (Int32.not_lt.mpr c_3), if_neg c_4, if_pos c_5, if_pos c_9, if_neg (Int32.not_lt.mpr c_9), if_true, ite_true, ite_false] at hK
          exact hK
        · refine a_bipush (v := 16) d_M_clause_65 (by decide) ?_
          refine a_goto (tgt := 134) d_M_clause_67 (by decide) ?_
          refine a_ireturn d_M_clause_134 rfl rfl ?_
          simp only [if_neg c_1, if_pos (Int32.not_lt.mp c_1), if_neg c_2, if_pos (Int32.not_lt.mp c_2), if_pos c_3, if_neg (Int32.not_lt.mpr c_3), if_neg c_4, if_pos c_5, if_neg c_9, if_pos (Int32.not_le.mp c_9), if_true, ite_true, ite_false] at hK
          exact hK
    · refine a_iconst (v := (-1)) d_M_clause_30 (by decide) ?_
      refine a_ireturn d_M_clause_31 rfl rfl ?_
      simp only [if_neg c_1, if_pos (Int32.not_lt.mp c_1), if_neg c_2, if_pos (Int32.not_lt.mp c_2), if_neg c_3, if_pos (Int32.not_le.mp c_3), if_true, ite_true, ite_false] at hK
      exact hK

set_option maxHeartbeats 1000000 in
set_option maxRecDepth 100000 in
theorem ta_N1 {w a b e : Int32} {N : Nat} (hw : ¬ w = 0) (hN : x.1 43 = nI N) (hN2 : N ≤ 192) (hv : cAtF (x.2.2.1 19) a b N 0 0 = -1) (hK : K (some (.int (-1))) (mk σ0 m x)) : a_C G m_M_testAt 1 25 [.ref m, .int w, .int a, .int b, .int e] (mk σ0 m x) K := by
  refine a_enter rfl (Nat.le_of_ble_eq_true rfl) ?_
  refine a_aload_n d_M_testAt_0 rfl rfl ?_
  refine a_iload_n d_M_testAt_1 rfl rfl ?_
  refine a_iload_n d_M_testAt_2 rfl rfl ?_
  refine a_iload_n d_M_testAt_3 rfl rfl ?_
  apply a_callV (ci := 7) 0 0 [_, _, _] _ d_M_testAt_4 l_M_344 ⟨im_M_clauseAt, se_M_clauseAt⟩ rfl rfl rfl rfl (Nat.le_of_ble_eq_true rfl) ⟨Nat.le_of_ble_eq_true rfl, Nat.le_of_ble_eq_true rfl⟩
  · (exact mk_O)
  refine sp_M_clauseAt1 hw hN hN2 ?_
  rw [hv]
  refine a_istore d_M_testAt_7 (by decide) ?_
  refine a_iload d_M_testAt_9 rfl ?_
  refine a_if_lt (tgt := 45) d_M_testAt_11 (by decide) (fun c_1 => ?_) (fun n9 => absurd (by decide) n9)
  refine a_iconst (v := (-1)) d_M_testAt_45 (by decide) ?_
  exact a_ireturn d_M_testAt_46 rfl rfl hK

set_option maxHeartbeats 1000000 in
set_option maxRecDepth 100000 in
theorem ta_Y1 {w a b e : Int32} {N r : Nat} (hw : ¬ w = 0) (hN : x.1 43 = nI N) (hN2 : N ≤ 192) (hv : cAtF (x.2.2.1 19) a b N 0 0 = nI r) (hr : r < N) (hK : K (some (.int (if e < 0 then -1 else if e < x.2.2.1 22 r then x.2.2.1 21 r + e else -1))) (mk σ0 m x)) : a_C G m_M_testAt 1 25 [.ref m, .int w, .int a, .int b, .int e] (mk σ0 m x) K := by
  refine a_enter rfl (Nat.le_of_ble_eq_true rfl) ?_
  refine a_aload_n d_M_testAt_0 rfl rfl ?_
  refine a_iload_n d_M_testAt_1 rfl rfl ?_
  refine a_iload_n d_M_testAt_2 rfl rfl ?_
  refine a_iload_n d_M_testAt_3 rfl rfl ?_
  apply a_callV (ci := 7) 0 0 [_, _, _] _ d_M_testAt_4 l_M_344 ⟨im_M_clauseAt, se_M_clauseAt⟩ rfl rfl rfl rfl (Nat.le_of_ble_eq_true rfl) ⟨Nat.le_of_ble_eq_true rfl, Nat.le_of_ble_eq_true rfl⟩
  · (exact mk_O)
  refine sp_M_clauseAt1 hw hN hN2 ?_
  rw [hv]
  refine a_istore d_M_testAt_7 (by decide) ?_
  refine a_iload d_M_testAt_9 rfl ?_
  refine a_if_lt (tgt := 45) d_M_testAt_11 (by decide) (fun n9 => absurd n9 (nI_pos (by omega))) (fun c_1 => ?_)
  refine a_iload d_M_testAt_14 rfl ?_
  refine a_if_lt (tgt := 45) d_M_testAt_16 (by decide) (fun c_2 => ?_) (fun c_2 => ?_)
  · refine a_iconst (v := (-1)) d_M_testAt_45 (by decide) ?_
    refine a_ireturn d_M_testAt_46 rfl rfl ?_
    simp only [if_neg c_1, if_pos (Int32.not_lt.mp c_1), if_pos c_2, if_neg (Int32.not_le.mpr c_2), if_true, ite_true, ite_false] at hK
    exact hK
  · refine a_iload d_M_testAt_19 rfl ?_
    refine a_iload_n d_M_testAt_21 rfl rfl ?_
    refine a_if_eq (tgt := 35) d_M_testAt_22 (by decide) (fun n9 => absurd n9 (hw)) (fun c_3 => ?_)
    refine a_aload_n d_M_testAt_25 rfl rfl ?_
    refine m_get d_M_testAt_26 f_M_79 rfl ?_
    refine a_iload d_M_testAt_29 rfl ?_
    refine m_iald d_M_testAt_31 (by decide) rfl (vp_in_nI (show r < 192 by omega) (by decide)) ?_
    rw [nI_clamp (show r < 2 ^ 31 by omega)]
    refine a_goto (tgt := 42) d_M_testAt_32 (by decide) ?_
    refine a_icmp_lt (tgt := 47) d_M_testAt_42 (by decide) (fun c_4 => ?_) (fun c_4 => ?_)
    · refine a_iload_n d_M_testAt_47 rfl rfl ?_
      refine a_if_eq (tgt := 61) d_M_testAt_48 (by decide) (fun n9 => absurd n9 (hw)) (fun c_5 => ?_)
      refine a_aload_n d_M_testAt_51 rfl rfl ?_
      refine m_get d_M_testAt_52 f_M_76 rfl ?_
      refine a_iload d_M_testAt_55 rfl ?_
      refine m_iald d_M_testAt_57 (by decide) rfl (vp_in_nI (show r < 192 by omega) (by decide)) ?_
      rw [nI_clamp (show r < 2 ^ 31 by omega)]
      refine a_goto (tgt := 68) d_M_testAt_58 (by decide) ?_
      refine a_iload d_M_testAt_68 rfl ?_
      refine a_iadd d_M_testAt_70 ?_
      refine a_ireturn d_M_testAt_71 rfl rfl ?_
      simp only [if_neg c_1, if_pos (Int32.not_lt.mp c_1), if_neg c_2, if_pos (Int32.not_lt.mp c_2), if_neg c_3, if_pos c_4, if_neg (Int32.not_le.mpr c_4), if_neg c_5, if_true, ite_true, ite_false] at hK
      exact hK
    · refine a_iconst (v := (-1)) d_M_testAt_45 (by decide) ?_
      refine a_ireturn d_M_testAt_46 rfl rfl ?_
      simp only [if_neg c_1, if_pos (Int32.not_lt.mp c_1), if_neg c_2, if_pos (Int32.not_lt.mp c_2), if_neg c_3, if_neg c_4, if_pos (Int32.not_lt.mp c_4), if_true, ite_true, ite_false] at hK
      exact hK

set_option maxHeartbeats 1000000 in
set_option maxRecDepth 100000 in
theorem te_N {w a b e u : Int32} (hT : ∀ K2 : Option Value → aS → Prop, K2 (some (.int (-1))) (mk σ0 m (sI x 0 0)) → a_C G m_M_testAt 1 25 [.ref m, .int w, .int a, .int b, .int e] (mk σ0 m (sI x 0 0)) K2) (hK : K (some (.int (-1))) (mk σ0 m (sI x 0 0))) : a_C G m_M_test 2 50 [.ref m, .int w, .int a, .int b, .int e, .int u] (mk σ0 m x) K := by
  refine a_enter rfl (Nat.le_of_ble_eq_true rfl) ?_
  refine a_aload_n d_M_test_0 rfl rfl ?_
  refine a_iconst (v := 0) d_M_test_1 (by decide) ?_
  refine m_putI d_M_test_2 p_M_115 rfl rfl (by decide) ?_
  refine a_aload_n d_M_test_5 rfl rfl ?_
  refine a_iload_n d_M_test_6 rfl rfl ?_
  refine a_iload_n d_M_test_7 rfl rfl ?_
  refine a_iload_n d_M_test_8 rfl rfl ?_
  refine a_iload d_M_test_9 rfl ?_
  apply a_callV (ci := 7) 1 25 [_, _, _, _] _ d_M_test_11 l_M_352 ⟨im_M_testAt, se_M_testAt⟩ rfl rfl rfl rfl (Nat.le_of_ble_eq_true rfl) ⟨Nat.le_of_ble_eq_true rfl, Nat.le_of_ble_eq_true rfl⟩
  · (exact mk_O)
  refine hT _ ?_
  refine a_istore d_M_test_14 (by decide) ?_
  refine a_iload d_M_test_16 rfl ?_
  refine a_if_ge (tgt := 23) d_M_test_18 (by decide) (fun n9 => absurd n9 (by decide)) (fun c_1 => ?_)
  refine a_iconst (v := (-1)) d_M_test_21 (by decide) ?_
  exact a_ireturn d_M_test_22 rfl rfl hK

set_option maxHeartbeats 1000000 in
set_option maxRecDepth 100000 in
theorem te_Y {w a b e u : Int32} {g : Nat} (hg : g < 900) (hT : ∀ K2 : Option Value → aS → Prop, K2 (some (.int (nI g))) (mk σ0 m (sI x 0 0)) → a_C G m_M_testAt 1 25 [.ref m, .int w, .int a, .int b, .int e] (mk σ0 m (sI x 0 0)) K2) (hK : K (some (.int (if u = 0 then (if (sI x 0 0).2.2.1 25 g = 0 then 0 else 1) else if u = 1 then (sI x 0 0).2.2.1 26 g else if u = 2 then (sI x 0 0).2.2.1 28 g else if u = 3 then (if (sI x 0 0).2.2.1 30 g = 0 then 0 else 1) else -1))) (mk σ0 m (sI x 0 0))) : a_C G m_M_test 2 50 [.ref m, .int w, .int a, .int b, .int e, .int u] (mk σ0 m x) K := by
  refine a_enter rfl (Nat.le_of_ble_eq_true rfl) ?_
  refine a_aload_n d_M_test_0 rfl rfl ?_
  refine a_iconst (v := 0) d_M_test_1 (by decide) ?_
  refine m_putI d_M_test_2 p_M_115 rfl rfl (by decide) ?_
  refine a_aload_n d_M_test_5 rfl rfl ?_
  refine a_iload_n d_M_test_6 rfl rfl ?_
  refine a_iload_n d_M_test_7 rfl rfl ?_
  refine a_iload_n d_M_test_8 rfl rfl ?_
  refine a_iload d_M_test_9 rfl ?_
  apply a_callV (ci := 7) 1 25 [_, _, _, _] _ d_M_test_11 l_M_352 ⟨im_M_testAt, se_M_testAt⟩ rfl rfl rfl rfl (Nat.le_of_ble_eq_true rfl) ⟨Nat.le_of_ble_eq_true rfl, Nat.le_of_ble_eq_true rfl⟩
  · (exact mk_O)
  refine hT _ ?_
  refine a_istore d_M_test_14 (by decide) ?_
  refine a_iload d_M_test_16 rfl ?_
  refine a_if_ge (tgt := 23) d_M_test_18 (by decide) (fun c_1 => ?_) (fun n9 => absurd (Int32.not_lt.mp (nI_pos (by omega))) n9)
  refine a_iload d_M_test_23 rfl ?_
  refine a_if_ne (tgt := 46) d_M_test_25 (by decide) (fun c_2 => ?_) (fun c_2 => ?_)
  · refine a_iload d_M_test_46 rfl ?_
    refine a_iconst (v := 1) d_M_test_48 (by decide) ?_
    refine a_icmp_ne (tgt := 62) d_M_test_49 (by decide) (fun c_3 => ?_) (fun c_3 => ?_)
    · refine a_iload d_M_test_62 rfl ?_
      refine a_iconst (v := 2) d_M_test_64 (by decide) ?_
      refine a_icmp_ne (tgt := 78) d_M_test_65 (by decide) (fun c_4 => ?_) (fun c_4 => ?_)
      · refine a_iload d_M_test_78 rfl ?_
        refine a_iconst (v := 3) d_M_test_80 (by decide) ?_
        refine a_icmp_ne (tgt := 102) d_M_test_81 (by decide) (fun c_5 => ?_) (fun c_5 => ?_)
        · refine a_iconst (v := (-1)) d_M_test_102 (by decide) ?_
          refine a_ireturn d_M_test_103 rfl rfl ?_
          simp only [if_pos c_1, if_neg (Int32.not_lt.mpr c_1), if_neg c_2, if_neg c_3, if_neg c_4, if_neg c_5, if_true, ite_true, ite_false] at hK
          exact hK
        · refine a_aload_n d_M_test_84 rfl rfl ?_
          refine m_get d_M_test_85 f_M_103 rfl ?_
          refine a_iload d_M_test_88 rfl ?_
          refine m_zald d_M_test_90 (by decide) rfl (vp_in_nI (show g < 900 by omega) (by decide)) ?_
          rw [nI_clamp (show g < 2 ^ 31 by omega)]
          refine a_if_eq (tgt := 98) d_M_test_91 (by decide) (fun c_6 => ?_) (fun c_6 => ?_)
          · refine a_iconst (v := 0) d_M_test_98 (by decide) ?_
            refine a_goto (tgt := 103) d_M_test_99 (by decide) ?_
            refine a_ireturn d_M_test_103 rfl rfl ?_
            simp only [if_pos c_1, if_neg (Int32.not_lt.mpr c_1), if_neg c_2, if_neg c_3, if_neg c_4, if_pos c_5, if_pos c_6, if_true, ite_true, ite_false] at hK
            exact hK
          · refine a_iconst (v := 1) d_M_test_94 (by decide) ?_
            refine a_goto (tgt := 103) d_M_test_95 (by decide) ?_
            refine a_ireturn d_M_test_103 rfl rfl ?_
            simp only [if_pos c_1, if_neg (Int32.not_lt.mpr c_1), if_neg c_2, if_neg c_3, if_neg c_4, if_pos c_5, if_neg c_6, if_true, ite_true, ite_false] at hK
            exact hK
      · refine a_aload_n d_M_test_68 rfl rfl ?_
        refine m_get d_M_test_69 f_M_97 rfl ?_
        refine a_iload d_M_test_72 rfl ?_
        refine m_iald d_M_test_74 (by decide) rfl (vp_in_nI (show g < 900 by omega) (by decide)) ?_
        rw [nI_clamp (show g < 2 ^ 31 by omega)]
        refine a_goto (tgt := 103) d_M_test_75 (by decide) ?_
        refine a_ireturn d_M_test_103 rfl rfl ?_
        simp only [if_pos c_1, if_neg (Int32.not_lt.mpr c_1), if_neg c_2, if_neg c_3, if_pos c_4, if_true, ite_true, ite_false] at hK
        exact hK
    · refine a_aload_n d_M_test_52 rfl rfl ?_
      refine m_get d_M_test_53 f_M_91 rfl ?_
      refine a_iload d_M_test_56 rfl ?_
      refine m_iald d_M_test_58 (by decide) rfl (vp_in_nI (show g < 900 by omega) (by decide)) ?_
      rw [nI_clamp (show g < 2 ^ 31 by omega)]
      refine a_goto (tgt := 103) d_M_test_59 (by decide) ?_
      refine a_ireturn d_M_test_103 rfl rfl ?_
      simp only [if_pos c_1, if_neg (Int32.not_lt.mpr c_1), if_neg c_2, if_pos c_3, if_true, ite_true, ite_false] at hK
      exact hK
  · refine a_aload_n d_M_test_28 rfl rfl ?_
    refine m_get d_M_test_29 f_M_88 rfl ?_
    refine a_iload d_M_test_32 rfl ?_
    refine m_zald d_M_test_34 (by decide) rfl (vp_in_nI (show g < 900 by omega) (by decide)) ?_
    rw [nI_clamp (show g < 2 ^ 31 by omega)]
    refine a_if_eq (tgt := 42) d_M_test_35 (by decide) (fun c_7 => ?_) (fun c_7 => ?_)
    · refine a_iconst (v := 0) d_M_test_42 (by decide) ?_
      refine a_goto (tgt := 103) d_M_test_43 (by decide) ?_
      refine a_ireturn d_M_test_103 rfl rfl ?_
      simp only [if_pos c_1, if_neg (Int32.not_lt.mpr c_1), if_pos c_2, if_pos c_7, if_true, ite_true, ite_false] at hK
      exact hK
    · refine a_iconst (v := 1) d_M_test_38 (by decide) ?_
      refine a_goto (tgt := 103) d_M_test_39 (by decide) ?_
      refine a_ireturn d_M_test_103 rfl rfl ?_
      simp only [if_pos c_1, if_neg (Int32.not_lt.mpr c_1), if_pos c_2, if_neg c_7, if_true, ite_true, ite_false] at hK
      exact hK

set_option maxHeartbeats 1000000 in
set_option maxRecDepth 100000 in
theorem th_N {w a b e : Int32} (hT : ∀ K2 : Option Value → aS → Prop, K2 (some (.int (-1))) (mk σ0 m (sI x 0 0)) → a_C G m_M_testAt 1 25 [.ref m, .int w, .int a, .int b, .int e] (mk σ0 m (sI x 0 0)) K2) (hK : K (some (.int 0)) (mk σ0 m (sI x 0 0))) : a_C G m_M_than 2 50 [.ref m, .int w, .int a, .int b, .int e] (mk σ0 m x) K := by
  refine a_enter rfl (Nat.le_of_ble_eq_true rfl) ?_
  refine a_aload_n d_M_than_0 rfl rfl ?_
  refine a_iconst (v := 0) d_M_than_1 (by decide) ?_
  refine m_putI d_M_than_2 p_M_115 rfl rfl (by decide) ?_
  refine a_aload_n d_M_than_5 rfl rfl ?_
  refine a_iload_n d_M_than_6 rfl rfl ?_
  refine a_iload_n d_M_than_7 rfl rfl ?_
  refine a_iload_n d_M_than_8 rfl rfl ?_
  refine a_iload d_M_than_9 rfl ?_
  apply a_callV (ci := 7) 1 25 [_, _, _, _] _ d_M_than_11 l_M_352 ⟨im_M_testAt, se_M_testAt⟩ rfl rfl rfl rfl (Nat.le_of_ble_eq_true rfl) ⟨Nat.le_of_ble_eq_true rfl, Nat.le_of_ble_eq_true rfl⟩
  · (exact mk_O)
  refine hT _ ?_
  refine a_istore d_M_than_14 (by decide) ?_
  refine a_iload d_M_than_16 rfl ?_
  refine a_if_ge (tgt := 25) d_M_than_18 (by decide) (fun n9 => absurd n9 (by decide)) (fun c_1 => ?_)
  refine a_iconst (v := 0) d_M_than_21 (by decide) ?_
  refine a_goto (tgt := 32) d_M_than_22 (by decide) ?_
  exact a_ireturn d_M_than_32 rfl rfl hK

set_option maxHeartbeats 1000000 in
set_option maxRecDepth 100000 in
theorem th_Y {w a b e : Int32} {g : Nat} (hg : g < 900) (hT : ∀ K2 : Option Value → aS → Prop, K2 (some (.int (nI g))) (mk σ0 m (sI x 0 0)) → a_C G m_M_testAt 1 25 [.ref m, .int w, .int a, .int b, .int e] (mk σ0 m (sI x 0 0)) K2) (hK : K (some (.int (x.2.2.1 29 g))) (mk σ0 m (sI x 0 0))) : a_C G m_M_than 2 50 [.ref m, .int w, .int a, .int b, .int e] (mk σ0 m x) K := by
  refine a_enter rfl (Nat.le_of_ble_eq_true rfl) ?_
  refine a_aload_n d_M_than_0 rfl rfl ?_
  refine a_iconst (v := 0) d_M_than_1 (by decide) ?_
  refine m_putI d_M_than_2 p_M_115 rfl rfl (by decide) ?_
  refine a_aload_n d_M_than_5 rfl rfl ?_
  refine a_iload_n d_M_than_6 rfl rfl ?_
  refine a_iload_n d_M_than_7 rfl rfl ?_
  refine a_iload_n d_M_than_8 rfl rfl ?_
  refine a_iload d_M_than_9 rfl ?_
  apply a_callV (ci := 7) 1 25 [_, _, _, _] _ d_M_than_11 l_M_352 ⟨im_M_testAt, se_M_testAt⟩ rfl rfl rfl rfl (Nat.le_of_ble_eq_true rfl) ⟨Nat.le_of_ble_eq_true rfl, Nat.le_of_ble_eq_true rfl⟩
  · (exact mk_O)
  refine hT _ ?_
  refine a_istore d_M_than_14 (by decide) ?_
  refine a_iload d_M_than_16 rfl ?_
  refine a_if_ge (tgt := 25) d_M_than_18 (by decide) (fun c_1 => ?_) (fun n9 => absurd (Int32.not_lt.mp (nI_pos (by omega))) n9)
  refine a_aload_n d_M_than_25 rfl rfl ?_
  refine m_get d_M_than_26 f_M_100 rfl ?_
  refine a_iload d_M_than_29 rfl ?_
  refine m_iald d_M_than_31 (by decide) rfl (vp_in_nI (show g < 900 by omega) (by decide)) ?_
  rw [nI_clamp (show g < 2 ^ 31 by omega)]
  exact a_ireturn d_M_than_32 rfl rfl hK

end ModM24
