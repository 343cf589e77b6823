/-! THE MODEL: a clause on the sheet -/
def hwM (p : Nat) : List Nat := if p = 0 then jS 46 else if p = 1 then jS 47 else jS 48
def tsM (c : aN) (g : Nat) : List Nat := (if c.1 39 g = 1 then [32] ++ ([40] ++ jS 44) else []) ++ ([32] ++ ([40] ++ ((if c.1 36 g = 1 then jS 43 ++ ([32] ++ c.2.1 0 (c.1 37 g)) else jS 42 ++ ([32] ++ numB (nI (c.1 37 g)))) ++ ([32] ++ (hwM (c.1 38 g) ++ ([32] ++ (numB (c.2.2 g) ++ ([41] ++ (if c.1 39 g = 1 then [41] else [])))))))))
def tlM (c : aN) : Nat → Nat → List Nat
  | _, 0 => []
  | g, n + 1 => tsM c g ++ tlM c (g + 1) n
def clM (c : aN) (a f n : Nat) : List Nat := [32] ++ ((if a = 16 then jS 45 else numB (nI a)) ++ tlM c f n)
/-- no name is empty -/
def NE (c : aN) : Prop := (∀ k, k < c.1 4 0 → 1 ≤ (c.2.1 0 k).length) ∧ (∀ k, k < c.1 6 0 → 1 ≤ (c.2.1 1 k).length)
section ModM29
variable {G : aG} {σ0 : aS} {K : Option Value → aS → Prop} {m : Nat} {x : aX} {c : aN} {L : List Nat} {t : Int32} {a : Int32} {F N g : Nat}
theorem pX_J : (pX x L t).2.2.2 = x.2.2.2 := rfl
set_option maxHeartbeats 1000000 in
set_option maxRecDepth 100000 in
theorem sA_1 (hg : g < 900) (h30 : x.2.2.1 30 g = 1) (hB : (L ++ [32] ++ [40] ++ jS 44).length ≤ 16384) (hK : a_J G m_M_clauseOut 5 107 50 [(0, .ref m), (1, .int a), (2, .int (nI F)), (3, .int (nI N)), (4, .int (nI g))] [] (mk σ0 m (pX x (L ++ [32] ++ [40] ++ jS 44) 2)) K) : a_J G m_M_clauseOut 5 107 30 [(0, .ref m), (1, .int a), (2, .int (nI F)), (3, .int (nI N)), (4, .int (nI g))] [] (mk σ0 m (pX x (L) 2)) K := by
  refine a_aload_n d_M_clauseOut_30 rfl rfl ?_
  refine m_get d_M_clauseOut_31 f_M_103 rfl ?_
  refine a_iload d_M_clauseOut_34 rfl ?_
  refine m_zald d_M_clauseOut_36 (by decide) rfl (vp_in_nI (show g < 900 by omega) (by decide)) ?_
  rw [nI_clamp (show g < 2 ^ 31 by omega), pX_r (by decide), h30]
  refine a_if_eq (tgt := 50) d_M_clauseOut_37 (by decide) (fun n9 => absurd n9 (by decide)) (fun c_1 => ?_)
  refine a_aload_n d_M_clauseOut_40 rfl rfl ?_
  apply a_callV (ci := 7) 2 42 [] _ d_M_clauseOut_41 l_M_320 ⟨im_M_open, se_M_open⟩ rfl rfl rfl rfl (Nat.le_of_ble_eq_true rfl) ⟨Nat.le_of_ble_eq_true rfl, Nat.le_of_ble_eq_true rfl⟩
  · (exact mk_O)
  refine oP_s (by simp only [List.length_append, List.length_cons, List.length_nil] at hB ⊢; omega) ?_
  refine a_aload_n d_M_clauseOut_44 rfl rfl ?_
  refine a_ldcS 44 d_M_clauseOut_45 (by decide) rfl rfl ?_
  apply a_callV (ci := 7) 4 85 [_] _ d_M_clauseOut_47 l_M_313 ⟨im_M_word, se_M_word⟩ rfl rfl rfl rfl (Nat.le_of_ble_eq_true rfl) ⟨Nat.le_of_ble_eq_true rfl, Nat.le_of_ble_eq_true rfl⟩
  · (exact mk_O)
  refine wD_n (by decide) (by simp only [List.length_append, List.length_cons, List.length_nil] at hB ⊢; omega) ?_
  exact a_lvk hK ⟨rfl, rfl, rfl, rfl, rfl, trivial⟩

set_option maxHeartbeats 1000000 in
set_option maxRecDepth 100000 in
theorem sA_0 (hg : g < 900) (h30 : x.2.2.1 30 g = 0) (hB : (L).length ≤ 16384) (hK : a_J G m_M_clauseOut 5 107 50 [(0, .ref m), (1, .int a), (2, .int (nI F)), (3, .int (nI N)), (4, .int (nI g))] [] (mk σ0 m (pX x (L) 2)) K) : a_J G m_M_clauseOut 5 107 30 [(0, .ref m), (1, .int a), (2, .int (nI F)), (3, .int (nI N)), (4, .int (nI g))] [] (mk σ0 m (pX x (L) 2)) K := by
  refine a_aload_n d_M_clauseOut_30 rfl rfl ?_
  refine m_get d_M_clauseOut_31 f_M_103 rfl ?_
  refine a_iload d_M_clauseOut_34 rfl ?_
  refine m_zald d_M_clauseOut_36 (by decide) rfl (vp_in_nI (show g < 900 by omega) (by decide)) ?_
  rw [nI_clamp (show g < 2 ^ 31 by omega), pX_r (by decide), h30]
  refine a_if_eq (tgt := 50) d_M_clauseOut_37 (by decide) (fun c_1 => ?_) (fun n9 => absurd (rfl) n9)
  exact a_lvk hK ⟨rfl, rfl, rfl, rfl, rfl, trivial⟩

set_option maxHeartbeats 1000000 in
set_option maxRecDepth 100000 in
theorem sB_1 (hg : g < 900) {k : Nat} {l : List Nat} (h25 : x.2.2.1 25 g = 1) (h26 : x.2.2.1 26 g = nI k) (hk : k < 6) (hn : x.2.2.2 11 k = e27 l) (hl : x.2.2.1 5 k = nI l.length) (hl1 : nmG l) (hl2 : 1 ≤ l.length) (hB : (L ++ [32] ++ [40] ++ jS 43 ++ [32] ++ l).length ≤ 16384) (hK : a_J G m_M_clauseOut 5 107 128 [(0, .ref m), (1, .int a), (2, .int (nI F)), (3, .int (nI N)), (4, .int (nI g))] [] (mk σ0 m (pX x (L ++ [32] ++ [40] ++ jS 43 ++ [32] ++ l) 2)) K) : a_J G m_M_clauseOut 5 107 50 [(0, .ref m), (1, .int a), (2, .int (nI F)), (3, .int (nI N)), (4, .int (nI g))] [] (mk σ0 m (pX x (L) 2)) K := by
  refine a_aload_n d_M_clauseOut_50 rfl rfl ?_
  apply a_callV (ci := 7) 2 42 [] _ d_M_clauseOut_51 l_M_320 ⟨im_M_open, se_M_open⟩ rfl rfl rfl rfl (Nat.le_of_ble_eq_true rfl) ⟨Nat.le_of_ble_eq_true rfl, Nat.le_of_ble_eq_true rfl⟩
  · (exact mk_O)
  refine oP_s (by simp only [List.length_append, List.length_cons, List.length_nil] at hB ⊢; omega) ?_
  refine a_aload_n d_M_clauseOut_54 rfl rfl ?_
  refine a_aload_n d_M_clauseOut_55 rfl rfl ?_
  refine m_get d_M_clauseOut_56 f_M_88 rfl ?_
  refine a_iload d_M_clauseOut_59 rfl ?_
  refine m_zald d_M_clauseOut_61 (by decide) rfl (vp_in_nI (show g < 900 by omega) (by decide)) ?_
  rw [nI_clamp (show g < 2 ^ 31 by omega), pX_r (by decide), h25]
  refine a_if_eq (tgt := 70) d_M_clauseOut_62 (by decide) (fun n9 => absurd n9 (by decide)) (fun c_1 => ?_)
  refine a_ldcS 43 d_M_clauseOut_65 (by decide) rfl rfl ?_
  refine a_goto (tgt := 72) d_M_clauseOut_67 (by decide) ?_
  apply a_callV (ci := 7) 4 85 [_] _ d_M_clauseOut_72 l_M_313 ⟨im_M_word, se_M_word⟩ rfl rfl rfl rfl (Nat.le_of_ble_eq_true rfl) ⟨Nat.le_of_ble_eq_true rfl, Nat.le_of_ble_eq_true rfl⟩
  · (exact mk_O)
  refine wD_n (by decide) (by simp only [List.length_append, List.length_cons, List.length_nil] at hB ⊢; omega) ?_
  refine a_aload_n d_M_clauseOut_75 rfl rfl ?_
  refine m_get d_M_clauseOut_76 f_M_88 rfl ?_
  refine a_iload d_M_clauseOut_79 rfl ?_
  refine m_zald d_M_clauseOut_81 (by decide) rfl (vp_in_nI (show g < 900 by omega) (by decide)) ?_
  rw [nI_clamp (show g < 2 ^ 31 by omega), pX_r (by decide), h25]
  refine a_if_eq (tgt := 116) d_M_clauseOut_82 (by decide) (fun n9 => absurd n9 (by decide)) (fun c_2 => ?_)
  refine a_aload_n d_M_clauseOut_85 rfl rfl ?_
  refine a_aload_n d_M_clauseOut_86 rfl rfl ?_
  refine m_get d_M_clauseOut_87 f_M_44 rfl ?_
  refine a_aload_n d_M_clauseOut_90 rfl rfl ?_
  refine m_get d_M_clauseOut_91 f_M_91 rfl ?_
  refine a_iload d_M_clauseOut_94 rfl ?_
  refine m_iald d_M_clauseOut_96 (by decide) rfl (vp_in_nI (show g < 900 by omega) (by decide)) ?_
  rw [nI_clamp (show g < 2 ^ 31 by omega), pX_r (by decide), h26]
  refine m_lald d_M_clauseOut_97 (by decide) rfl (vp_in_nI (show k < 6 by omega) (by decide)) ?_
  rw [nI_clamp (show k < 2 ^ 31 by omega), pX_J, hn]
  refine a_aload_n d_M_clauseOut_98 rfl rfl ?_
  refine m_get d_M_clauseOut_99 f_M_26 rfl ?_
  refine a_aload_n d_M_clauseOut_102 rfl rfl ?_
  refine m_get d_M_clauseOut_103 f_M_91 rfl ?_
  refine a_iload d_M_clauseOut_106 rfl ?_
  refine m_iald d_M_clauseOut_108 (by decide) rfl (vp_in_nI (show g < 900 by omega) (by decide)) ?_
  rw [nI_clamp (show g < 2 ^ 31 by omega), pX_r (by decide), h26]
  refine m_iald d_M_clauseOut_109 (by decide) rfl (vp_in_nI (show k < 6 by omega) (by decide)) ?_
  rw [nI_clamp (show k < 2 ^ 31 by omega), pX_r (by decide), hl]
  apply a_callV (ci := 7) 2 42 [_, _] _ d_M_clauseOut_110 l_M_323 ⟨im_M_nameOut, se_M_nameOut⟩ rfl rfl rfl rfl (Nat.le_of_ble_eq_true rfl) ⟨Nat.le_of_ble_eq_true rfl, Nat.le_of_ble_eq_true rfl⟩
  · (exact mk_O)
  refine sp_M_nameOut hl1 hl2 (by simp only [List.length_append, List.length_cons, List.length_nil] at hB ⊢; omega) ?_
  refine a_goto (tgt := 128) d_M_clauseOut_113 (by decide) ?_
  exact a_lvk hK ⟨rfl, rfl, rfl, rfl, rfl, trivial⟩

set_option maxHeartbeats 1000000 in
set_option maxRecDepth 100000 in
theorem sB_0 (hg : g < 900) {k : Nat} (h25 : x.2.2.1 25 g = 0) (h26 : x.2.2.1 26 g = nI k) (hB : (L ++ [32] ++ [40] ++ jS 42 ++ [32] ++ numB (nI k)).length ≤ 16384) (hK : a_J G m_M_clauseOut 5 107 128 [(0, .ref m), (1, .int a), (2, .int (nI F)), (3, .int (nI N)), (4, .int (nI g))] [] (mk σ0 m (pX x (L ++ [32] ++ [40] ++ jS 42 ++ [32] ++ numB (nI k)) 2)) K) : a_J G m_M_clauseOut 5 107 50 [(0, .ref m), (1, .int a), (2, .int (nI F)), (3, .int (nI N)), (4, .int (nI g))] [] (mk σ0 m (pX x (L) 2)) K := by
  refine a_aload_n d_M_clauseOut_50 rfl rfl ?_
  apply a_callV (ci := 7) 2 42 [] _ d_M_clauseOut_51 l_M_320 ⟨im_M_open, se_M_open⟩ rfl rfl rfl rfl (Nat.le_of_ble_eq_true rfl) ⟨Nat.le_of_ble_eq_true rfl, Nat.le_of_ble_eq_true rfl⟩
  · (exact mk_O)
  refine oP_s (by simp only [List.length_append, List.length_cons, List.length_nil] at hB ⊢; omega) ?_
  refine a_aload_n d_M_clauseOut_54 rfl rfl ?_
  refine a_aload_n d_M_clauseOut_55 rfl rfl ?_
  refine m_get d_M_clauseOut_56 f_M_88 rfl ?_
  refine a_iload d_M_clauseOut_59 rfl ?_
  refine m_zald d_M_clauseOut_61 (by decide) rfl (vp_in_nI (show g < 900 by omega) (by decide)) ?_
  rw [nI_clamp (show g < 2 ^ 31 by omega), pX_r (by decide), h25]
  refine a_if_eq (tgt := 70) d_M_clauseOut_62 (by decide) (fun c_1 => ?_) (fun n9 => absurd (rfl) n9)
  refine a_ldcS 42 d_M_clauseOut_70 (by decide) rfl rfl ?_
  apply a_callV (ci := 7) 4 85 [_] _ d_M_clauseOut_72 l_M_313 ⟨im_M_word, se_M_word⟩ rfl rfl rfl rfl (Nat.le_of_ble_eq_true rfl) ⟨Nat.le_of_ble_eq_true rfl, Nat.le_of_ble_eq_true rfl⟩
  · (exact mk_O)
  refine wD_n (by decide) (by simp only [List.length_append, List.length_cons, List.length_nil] at hB ⊢; omega) ?_
  refine a_aload_n d_M_clauseOut_75 rfl rfl ?_
  refine m_get d_M_clauseOut_76 f_M_88 rfl ?_
  refine a_iload d_M_clauseOut_79 rfl ?_
  refine m_zald d_M_clauseOut_81 (by decide) rfl (vp_in_nI (show g < 900 by omega) (by decide)) ?_
  rw [nI_clamp (show g < 2 ^ 31 by omega), pX_r (by decide), h25]
  refine a_if_eq (tgt := 116) d_M_clauseOut_82 (by decide) (fun c_2 => ?_) (fun n9 => absurd (rfl) n9)
  refine a_aload_n d_M_clauseOut_116 rfl rfl ?_
  refine a_aload_n d_M_clauseOut_117 rfl rfl ?_
  refine m_get d_M_clauseOut_118 f_M_91 rfl ?_
  refine a_iload d_M_clauseOut_121 rfl ?_
  refine m_iald d_M_clauseOut_123 (by decide) rfl (vp_in_nI (show g < 900 by omega) (by decide)) ?_
  rw [nI_clamp (show g < 2 ^ 31 by omega), pX_r (by decide), h26]
  refine a_i2l d_M_clauseOut_124 ?_
  apply a_callV (ci := 7) 2 42 [_] _ d_M_clauseOut_125 l_M_316 ⟨im_M_numberOut, se_M_numberOut⟩ rfl rfl rfl rfl (Nat.le_of_ble_eq_true rfl) ⟨Nat.le_of_ble_eq_true rfl, Nat.le_of_ble_eq_true rfl⟩
  · (exact mk_O)
  refine sp_M_numberOut (by simp only [List.length_append, List.length_cons, List.length_nil] at hB ⊢; omega) ?_
  exact a_lvk hK ⟨rfl, rfl, rfl, rfl, rfl, trivial⟩

set_option maxHeartbeats 1000000 in
set_option maxRecDepth 100000 in
theorem sC_0 (hg : g < 900) (h28 : x.2.2.1 28 g = 0) (hB : (L ++ [32] ++ jS 46).length ≤ 16384) (hK : a_J G m_M_clauseOut 5 107 165 [(0, .ref m), (1, .int a), (2, .int (nI F)), (3, .int (nI N)), (4, .int (nI g))] [] (mk σ0 m (pX x (L ++ [32] ++ jS 46) 2)) K) : a_J G m_M_clauseOut 5 107 128 [(0, .ref m), (1, .int a), (2, .int (nI F)), (3, .int (nI N)), (4, .int (nI g))] [] (mk σ0 m (pX x (L) 2)) K := by
  refine a_aload_n d_M_clauseOut_128 rfl rfl ?_
  refine a_aload_n d_M_clauseOut_129 rfl rfl ?_
  refine m_get d_M_clauseOut_130 f_M_97 rfl ?_
  refine a_iload d_M_clauseOut_133 rfl ?_
  refine m_iald d_M_clauseOut_135 (by decide) rfl (vp_in_nI (show g < 900 by omega) (by decide)) ?_
  rw [nI_clamp (show g < 2 ^ 31 by omega), pX_r (by decide), h28]
  refine a_if_ne (tgt := 144) d_M_clauseOut_136 (by decide) (fun n9 => absurd (rfl) n9) (fun c_1 => ?_)
  refine a_ldcS 46 d_M_clauseOut_139 (by decide) rfl rfl ?_
  refine a_goto (tgt := 162) d_M_clauseOut_141 (by decide) ?_
  apply a_callV (ci := 7) 4 85 [_] _ d_M_clauseOut_162 l_M_313 ⟨im_M_word, se_M_word⟩ rfl rfl rfl rfl (Nat.le_of_ble_eq_true rfl) ⟨Nat.le_of_ble_eq_true rfl, Nat.le_of_ble_eq_true rfl⟩
  · (exact mk_O)
  refine wD_s (by decide) (by simp only [List.length_append, List.length_cons, List.length_nil] at hB ⊢; omega) ?_
  exact a_lvk hK ⟨rfl, rfl, rfl, rfl, rfl, trivial⟩

set_option maxHeartbeats 1000000 in
set_option maxRecDepth 100000 in
theorem sC_1 (hg : g < 900) (h28 : x.2.2.1 28 g = 1) (hB : (L ++ [32] ++ jS 47).length ≤ 16384) (hK : a_J G m_M_clauseOut 5 107 165 [(0, .ref m), (1, .int a), (2, .int (nI F)), (3, .int (nI N)), (4, .int (nI g))] [] (mk σ0 m (pX x (L ++ [32] ++ jS 47) 2)) K) : a_J G m_M_clauseOut 5 107 128 [(0, .ref m), (1, .int a), (2, .int (nI F)), (3, .int (nI N)), (4, .int (nI g))] [] (mk σ0 m (pX x (L) 2)) K := by
  refine a_aload_n d_M_clauseOut_128 rfl rfl ?_
  refine a_aload_n d_M_clauseOut_129 rfl rfl ?_
  refine m_get d_M_clauseOut_130 f_M_97 rfl ?_
  refine a_iload d_M_clauseOut_133 rfl ?_
  refine m_iald d_M_clauseOut_135 (by decide) rfl (vp_in_nI (show g < 900 by omega) (by decide)) ?_
  rw [nI_clamp (show g < 2 ^ 31 by omega), pX_r (by decide), h28]
  refine a_if_ne (tgt := 144) d_M_clauseOut_136 (by decide) (fun c_1 => ?_) (fun n9 => absurd n9 (by decide))
  refine a_aload_n d_M_clauseOut_144 rfl rfl ?_
  refine m_get d_M_clauseOut_145 f_M_97 rfl ?_
  refine a_iload d_M_clauseOut_148 rfl ?_
  refine m_iald d_M_clauseOut_150 (by decide) rfl (vp_in_nI (show g < 900 by omega) (by decide)) ?_
  rw [nI_clamp (show g < 2 ^ 31 by omega), pX_r (by decide), h28]
  refine a_iconst (v := 1) d_M_clauseOut_151 (by decide) ?_
  refine a_icmp_ne (tgt := 160) d_M_clauseOut_152 (by decide) (fun n9 => absurd (rfl) n9) (fun c_2 => ?_)
  refine a_ldcS 47 d_M_clauseOut_155 (by decide) rfl rfl ?_
  refine a_goto (tgt := 162) d_M_clauseOut_157 (by decide) ?_
  apply a_callV (ci := 7) 4 85 [_] _ d_M_clauseOut_162 l_M_313 ⟨im_M_word, se_M_word⟩ rfl rfl rfl rfl (Nat.le_of_ble_eq_true rfl) ⟨Nat.le_of_ble_eq_true rfl, Nat.le_of_ble_eq_true rfl⟩
  · (exact mk_O)
  refine wD_s (by decide) (by simp only [List.length_append, List.length_cons, List.length_nil] at hB ⊢; omega) ?_
  exact a_lvk hK ⟨rfl, rfl, rfl, rfl, rfl, trivial⟩

set_option maxHeartbeats 1000000 in
set_option maxRecDepth 100000 in
theorem sC_2 (hg : g < 900) (h28 : x.2.2.1 28 g = 2) (hB : (L ++ [32] ++ jS 48).length ≤ 16384) (hK : a_J G m_M_clauseOut 5 107 165 [(0, .ref m), (1, .int a), (2, .int (nI F)), (3, .int (nI N)), (4, .int (nI g))] [] (mk σ0 m (pX x (L ++ [32] ++ jS 48) 2)) K) : a_J G m_M_clauseOut 5 107 128 [(0, .ref m), (1, .int a), (2, .int (nI F)), (3, .int (nI N)), (4, .int (nI g))] [] (mk σ0 m (pX x (L) 2)) K := by
  refine a_aload_n d_M_clauseOut_128 rfl rfl ?_
  refine a_aload_n d_M_clauseOut_129 rfl rfl ?_
  refine m_get d_M_clauseOut_130 f_M_97 rfl ?_
  refine a_iload d_M_clauseOut_133 rfl ?_
  refine m_iald d_M_clauseOut_135 (by decide) rfl (vp_in_nI (show g < 900 by omega) (by decide)) ?_
  rw [nI_clamp (show g < 2 ^ 31 by omega), pX_r (by decide), h28]
  refine a_if_ne (tgt := 144) d_M_clauseOut_136 (by decide) (fun c_1 => ?_) (fun n9 => absurd n9 (by decide))
  refine a_aload_n d_M_clauseOut_144 rfl rfl ?_
  refine m_get d_M_clauseOut_145 f_M_97 rfl ?_
  refine a_iload d_M_clauseOut_148 rfl ?_
  refine m_iald d_M_clauseOut_150 (by decide) rfl (vp_in_nI (show g < 900 by omega) (by decide)) ?_
  rw [nI_clamp (show g < 2 ^ 31 by omega), pX_r (by decide), h28]
  refine a_iconst (v := 1) d_M_clauseOut_151 (by decide) ?_
  refine a_icmp_ne (tgt := 160) d_M_clauseOut_152 (by decide) (fun c_2 => ?_) (fun n9 => absurd n9 (by decide))
  refine a_ldcS 48 d_M_clauseOut_160 (by decide) rfl rfl ?_
  apply a_callV (ci := 7) 4 85 [_] _ d_M_clauseOut_162 l_M_313 ⟨im_M_word, se_M_word⟩ rfl rfl rfl rfl (Nat.le_of_ble_eq_true rfl) ⟨Nat.le_of_ble_eq_true rfl, Nat.le_of_ble_eq_true rfl⟩
  · (exact mk_O)
  refine wD_s (by decide) (by simp only [List.length_append, List.length_cons, List.length_nil] at hB ⊢; omega) ?_
  exact a_lvk hK ⟨rfl, rfl, rfl, rfl, rfl, trivial⟩

set_option maxHeartbeats 1000000 in
set_option maxRecDepth 100000 in
theorem sD_0 (hg : g < 900) {b : Int32} (h29 : x.2.2.1 29 g = b) (h30 : x.2.2.1 30 g = 0) (hB : (L ++ [32] ++ numB b ++ [41]).length ≤ 16384) (hK : a_J G m_M_clauseOut 5 107 22 [(0, .ref m), (1, .int a), (2, .int (nI F)), (3, .int (nI N)), (4, .int (nI (g + 1)))] [] (mk σ0 m (pX x (L ++ [32] ++ numB b ++ [41]) 2)) K) : a_J G m_M_clauseOut 5 107 165 [(0, .ref m), (1, .int a), (2, .int (nI F)), (3, .int (nI N)), (4, .int (nI g))] [] (mk σ0 m (pX x (L) 2)) K := by
  refine a_aload_n d_M_clauseOut_165 rfl rfl ?_
  refine a_aload_n d_M_clauseOut_166 rfl rfl ?_
  refine m_get d_M_clauseOut_167 f_M_100 rfl ?_
  refine a_iload d_M_clauseOut_170 rfl ?_
  refine m_iald d_M_clauseOut_172 (by decide) rfl (vp_in_nI (show g < 900 by omega) (by decide)) ?_
  rw [nI_clamp (show g < 2 ^ 31 by omega), pX_r (by decide), h29]
  refine a_i2l d_M_clauseOut_173 ?_
  apply a_callV (ci := 7) 2 42 [_] _ d_M_clauseOut_174 l_M_316 ⟨im_M_numberOut, se_M_numberOut⟩ rfl rfl rfl rfl (Nat.le_of_ble_eq_true rfl) ⟨Nat.le_of_ble_eq_true rfl, Nat.le_of_ble_eq_true rfl⟩
  · (exact mk_O)
  refine sp_M_numberOut (by simp only [List.length_append, List.length_cons, List.length_nil] at hB ⊢; omega) ?_
  refine a_aload_n d_M_clauseOut_177 rfl rfl ?_
  apply a_callV (ci := 7) 2 42 [] _ d_M_clauseOut_178 l_M_327 ⟨im_M_close, se_M_close⟩ rfl rfl rfl rfl (Nat.le_of_ble_eq_true rfl) ⟨Nat.le_of_ble_eq_true rfl, Nat.le_of_ble_eq_true rfl⟩
  · (exact mk_O)
  refine cl_o (by simp only [List.length_append, List.length_cons, List.length_nil] at hB ⊢; omega) ?_
  refine a_aload_n d_M_clauseOut_181 rfl rfl ?_
  refine m_get d_M_clauseOut_182 f_M_103 rfl ?_
  refine a_iload d_M_clauseOut_185 rfl ?_
  refine m_zald d_M_clauseOut_187 (by decide) rfl (vp_in_nI (show g < 900 by omega) (by decide)) ?_
  rw [nI_clamp (show g < 2 ^ 31 by omega), pX_r (by decide), h30]
  refine a_if_eq (tgt := 195) d_M_clauseOut_188 (by decide) (fun c_1 => ?_) (fun n9 => absurd (rfl) n9)
  refine a_iinc (c0 := 1) d_M_clauseOut_195 rfl (by decide) (by decide) ?_
  refine a_goto (tgt := 22) d_M_clauseOut_198 (by decide) ?_
  rw [nI_1]
  exact a_lvk hK ⟨rfl, rfl, rfl, rfl, rfl, trivial⟩

set_option maxHeartbeats 1000000 in
set_option maxRecDepth 100000 in
theorem sD_1 (hg : g < 900) {b : Int32} (h29 : x.2.2.1 29 g = b) (h30 : x.2.2.1 30 g = 1) (hB : (L ++ [32] ++ numB b ++ [41] ++ [41]).length ≤ 16384) (hK : a_J G m_M_clauseOut 5 107 22 [(0, .ref m), (1, .int a), (2, .int (nI F)), (3, .int (nI N)), (4, .int (nI (g + 1)))] [] (mk σ0 m (pX x (L ++ [32] ++ numB b ++ [41] ++ [41]) 2)) K) : a_J G m_M_clauseOut 5 107 165 [(0, .ref m), (1, .int a), (2, .int (nI F)), (3, .int (nI N)), (4, .int (nI g))] [] (mk σ0 m (pX x (L) 2)) K := by
  refine a_aload_n d_M_clauseOut_165 rfl rfl ?_
  refine a_aload_n d_M_clauseOut_166 rfl rfl ?_
  refine m_get d_M_clauseOut_167 f_M_100 rfl ?_
  refine a_iload d_M_clauseOut_170 rfl ?_
  refine m_iald d_M_clauseOut_172 (by decide) rfl (vp_in_nI (show g < 900 by omega) (by decide)) ?_
  rw [nI_clamp (show g < 2 ^ 31 by omega), pX_r (by decide), h29]
  refine a_i2l d_M_clauseOut_173 ?_
  apply a_callV (ci := 7) 2 42 [_] _ d_M_clauseOut_174 l_M_316 ⟨im_M_numberOut, se_M_numberOut⟩ rfl rfl rfl rfl (Nat.le_of_ble_eq_true rfl) ⟨Nat.le_of_ble_eq_true rfl, Nat.le_of_ble_eq_true rfl⟩
  · (exact mk_O)
  refine sp_M_numberOut (by simp only [List.length_append, List.length_cons, List.length_nil] at hB ⊢; omega) ?_
  refine a_aload_n d_M_clauseOut_177 rfl rfl ?_
  apply a_callV (ci := 7) 2 42 [] _ d_M_clauseOut_178 l_M_327 ⟨im_M_close, se_M_close⟩ rfl rfl rfl rfl (Nat.le_of_ble_eq_true rfl) ⟨Nat.le_of_ble_eq_true rfl, Nat.le_of_ble_eq_true rfl⟩
  · (exact mk_O)
  refine cl_o (by simp only [List.length_append, List.length_cons, List.length_nil] at hB ⊢; omega) ?_
  refine a_aload_n d_M_clauseOut_181 rfl rfl ?_
  refine m_get d_M_clauseOut_182 f_M_103 rfl ?_
  refine a_iload d_M_clauseOut_185 rfl ?_
  refine m_zald d_M_clauseOut_187 (by decide) rfl (vp_in_nI (show g < 900 by omega) (by decide)) ?_
  rw [nI_clamp (show g < 2 ^ 31 by omega), pX_r (by decide), h30]
  refine a_if_eq (tgt := 195) d_M_clauseOut_188 (by decide) (fun n9 => absurd n9 (by decide)) (fun c_1 => ?_)
  refine a_aload_n d_M_clauseOut_191 rfl rfl ?_
  apply a_callV (ci := 7) 2 42 [] _ d_M_clauseOut_192 l_M_327 ⟨im_M_close, se_M_close⟩ rfl rfl rfl rfl (Nat.le_of_ble_eq_true rfl) ⟨Nat.le_of_ble_eq_true rfl, Nat.le_of_ble_eq_true rfl⟩
  · (exact mk_O)
  refine cl_o (by simp only [List.length_append, List.length_cons, List.length_nil] at hB ⊢; omega) ?_
  refine a_iinc (c0 := 1) d_M_clauseOut_195 rfl (by decide) (by decide) ?_
  refine a_goto (tgt := 22) d_M_clauseOut_198 (by decide) ?_
  rw [nI_1]
  exact a_lvk hK ⟨rfl, rfl, rfl, rfl, rfl, trivial⟩

theorem sA_ (hg : g < 900) {u : Nat} (hu : u ≤ 1) (h30 : x.2.2.1 30 g = nI u) (hB : (L ++ (if u = 1 then [32] ++ ([40] ++ jS 44) else [])).length ≤ 16384) (hK : a_J G m_M_clauseOut 5 107 50 [(0, .ref m), (1, .int a), (2, .int (nI F)), (3, .int (nI N)), (4, .int (nI g))] [] (mk σ0 m (pX x (L ++ (if u = 1 then [32] ++ ([40] ++ jS 44) else [])) 2)) K) : a_J G m_M_clauseOut 5 107 30 [(0, .ref m), (1, .int a), (2, .int (nI F)), (3, .int (nI N)), (4, .int (nI g))] [] (mk σ0 m (pX x (L) 2)) K := by
  by_cases z : u = 1
  · subst z
    rw [if_pos rfl] at hB hK
    rw [← List.append_assoc, ← List.append_assoc] at hB hK
    exact sA_1 hg h30 hB hK
  · have : u = 0 := by omega
    subst this
    rw [if_neg (by decide), List.append_nil] at hB hK
    exact sA_0 hg h30 hB hK
theorem sB_ (hg : g < c.1 8 0) (h : MGd c x) (hC : MC c x (c.1 4 0)) (hF : FQ c) (hE : NE c) (hB : (L ++ ([32] ++ ([40] ++ (if c.1 36 g = 1 then jS 43 ++ ([32] ++ c.2.1 0 (c.1 37 g)) else jS 42 ++ ([32] ++ numB (nI (c.1 37 g))))))).length ≤ 16384) (hK : a_J G m_M_clauseOut 5 107 128 [(0, .ref m), (1, .int a), (2, .int (nI F)), (3, .int (nI N)), (4, .int (nI g))] [] (mk σ0 m (pX x (L ++ ([32] ++ ([40] ++ (if c.1 36 g = 1 then jS 43 ++ ([32] ++ c.2.1 0 (c.1 37 g)) else jS 42 ++ ([32] ++ numB (nI (c.1 37 g))))))) 2)) K) : a_J G m_M_clauseOut 5 107 50 [(0, .ref m), (1, .int a), (2, .int (nI F)), (3, .int (nI N)), (4, .int (nI g))] [] (mk σ0 m (pX x (L) 2)) K := by
  have h8 := hF.2.2.2.2.2.1.1
  have h6 := hF.1.1
  have hb := hF.2.2.2.2.2.2.1 g
  have ht := hF.2.2.2.2.2.2.2.2.1 g hg
  have hm := h.2.2.1 g hg
  by_cases z : c.1 36 g = 1
  · rw [if_pos z] at hB hK
    have t6 := ht.1 z
    have hc := hC.2 _ t6
    rw [← List.append_assoc, ← List.append_assoc, ← List.append_assoc, ← List.append_assoc] at hB hK
    exact sB_1 (by omega) (by rw [hm.1, z]; rfl) hm.2.1 (by omega) hc.1 hc.2.1 (hF.2.2.2.2.2.2.2.1 0 _) (hE.1 _ t6) hB hK
  · rw [if_neg z] at hB hK
    rw [← List.append_assoc, ← List.append_assoc, ← List.append_assoc, ← List.append_assoc] at hB hK
    exact sB_0 (by omega) (by rw [hm.1, show c.1 36 g = 0 by omega]; rfl) hm.2.1 hB hK
theorem sC_ (hg : g < 900) {u : Nat} (hu : u ≤ 2) (h28 : x.2.2.1 28 g = nI u) (hB : (L ++ ([32] ++ hwM u)).length ≤ 16384) (hK : a_J G m_M_clauseOut 5 107 165 [(0, .ref m), (1, .int a), (2, .int (nI F)), (3, .int (nI N)), (4, .int (nI g))] [] (mk σ0 m (pX x (L ++ ([32] ++ hwM u)) 2)) K) : a_J G m_M_clauseOut 5 107 128 [(0, .ref m), (1, .int a), (2, .int (nI F)), (3, .int (nI N)), (4, .int (nI g))] [] (mk σ0 m (pX x (L) 2)) K := by
  unfold hwM at hB hK
  by_cases z : u = 0
  · subst z
    rw [if_pos rfl, ← List.append_assoc] at hB hK
    exact sC_0 hg h28 hB hK
  · by_cases y : u = 1
    · subst y
      rw [if_neg (by decide), if_pos rfl, ← List.append_assoc] at hB hK
      exact sC_1 hg h28 hB hK
    · have : u = 2 := by omega
      subst this
      rw [if_neg (by decide), if_neg (by decide), ← List.append_assoc] at hB hK
      exact sC_2 hg h28 hB hK
theorem sD_ (hg : g < 900) {u : Nat} {b : Int32} (hu : u ≤ 1) (h29 : x.2.2.1 29 g = b) (h30 : x.2.2.1 30 g = nI u) (hB : (L ++ ([32] ++ (numB b ++ ([41] ++ (if u = 1 then [41] else []))))).length ≤ 16384) (hK : a_J G m_M_clauseOut 5 107 22 [(0, .ref m), (1, .int a), (2, .int (nI F)), (3, .int (nI N)), (4, .int (nI (g + 1)))] [] (mk σ0 m (pX x (L ++ ([32] ++ (numB b ++ ([41] ++ (if u = 1 then [41] else []))))) 2)) K) : a_J G m_M_clauseOut 5 107 165 [(0, .ref m), (1, .int a), (2, .int (nI F)), (3, .int (nI N)), (4, .int (nI g))] [] (mk σ0 m (pX x (L) 2)) K := by
  by_cases z : u = 1
  · subst z
    rw [if_pos rfl] at hB hK
    rw [← List.append_assoc, ← List.append_assoc, ← List.append_assoc] at hB hK
    exact sD_1 hg h29 h30 hB hK
  · have : u = 0 := by omega
    subst this
    rw [if_neg (by decide), List.append_nil] at hB hK
    rw [← List.append_assoc, ← List.append_assoc] at hB hK
    exact sD_0 hg h29 h30 hB hK
theorem tsM_J (hg : g < c.1 8 0) (h : MGd c x) (hC : MC c x (c.1 4 0)) (hF : FQ c) (hE : NE c) (hB : (L ++ tsM c g).length ≤ 16384) (hK : a_J G m_M_clauseOut 5 107 22 [(0, .ref m), (1, .int a), (2, .int (nI F)), (3, .int (nI N)), (4, .int (nI (g + 1)))] [] (mk σ0 m (pX x (L ++ tsM c g) 2)) K) : a_J G m_M_clauseOut 5 107 30 [(0, .ref m), (1, .int a), (2, .int (nI F)), (3, .int (nI N)), (4, .int (nI g))] [] (mk σ0 m (pX x (L) 2)) K := by
  have h8 := hF.2.2.2.2.2.1.1
  have hb := hF.2.2.2.2.2.2.1 g
  have hm := h.2.2.1 g hg
  have e : L ++ tsM c g = L ++ (if c.1 39 g = 1 then [32] ++ ([40] ++ jS 44) else []) ++ ([32] ++ ([40] ++ (if c.1 36 g = 1 then jS 43 ++ ([32] ++ c.2.1 0 (c.1 37 g)) else jS 42 ++ ([32] ++ numB (nI (c.1 37 g)))))) ++ ([32] ++ hwM (c.1 38 g)) ++ ([32] ++ (numB (c.2.2 g) ++ ([41] ++ (if c.1 39 g = 1 then [41] else [])))) := by
    unfold tsM; simp only [List.append_assoc]
  rw [e] at hB hK
  have l1 : ∀ A B : List Nat, (A ++ B).length ≤ 16384 → A.length ≤ 16384 := fun A B z => by rw [List.length_append] at z; omega
  exact sA_ (by omega) hb.2.2.2.2.2.2 hm.2.2.2.2.2 (l1 _ _ (l1 _ _ (l1 _ _ hB))) (sB_ hg h hC hF hE (l1 _ _ (l1 _ _ hB)) (sC_ (by omega) hb.2.2.2.2.2.1 hm.2.2.2.1 (l1 _ _ hB) (sD_ (by omega) hb.2.2.2.2.2.2 hm.2.2.2.2.1 hm.2.2.2.2.2 hB hK)))
set_option maxHeartbeats 1000000 in
set_option maxRecDepth 100000 in
theorem lp_M_cO (hN : F + N ≤ c.1 8 0) (h : MGd c x) (hC : MC c x (c.1 4 0)) (hF : FQ c) (hE : NE c) : ∀ (n g : Nat) (L : List Nat), g + n = F + N → (L ++ tlM c g n).length ≤ 16384 → K none (mk σ0 m (pX x (L ++ tlM c g n) 2)) → a_J G m_M_clauseOut 5 107 22 [(0, .ref m), (1, .int a), (2, .int (nI F)), (3, .int (nI N)), (4, .int (nI g))] [] (mk σ0 m (pX x (L) 2)) K := by
  have h8 := hF.2.2.2.2.2.1.1
  intro n
  induction n with
  | zero =>
    intro g L hg hB hK
    refine a_iload d_M_clauseOut_22 rfl ?_
    refine a_iload_n d_M_clauseOut_24 rfl rfl ?_
    refine a_iload_n d_M_clauseOut_25 rfl rfl ?_
    refine a_iadd d_M_clauseOut_26 ?_
    rw [nI_add]
    refine a_icmp_ge (tgt := 201) d_M_clauseOut_27 (by decide) (fun c_1 => ?_) (fun n9 => absurd (nI_le (by omega) (by omega)) n9)
    rw [tlM, List.append_nil] at hK
    exact a_return d_M_clauseOut_201 rfl hK
  | succ n ih =>
    intro g L hg hB hK
    refine a_iload d_M_clauseOut_22 rfl ?_
    refine a_iload_n d_M_clauseOut_24 rfl rfl ?_
    refine a_iload_n d_M_clauseOut_25 rfl rfl ?_
    refine a_iadd d_M_clauseOut_26 ?_
    rw [nI_add]
    refine a_icmp_ge (tgt := 201) d_M_clauseOut_27 (by decide) (fun n9 => absurd n9 (nI_ge (by omega) (by omega))) (fun c_1 => ?_)
    rw [tlM, ← List.append_assoc] at hB hK
    refine tsM_J (by omega) h hC hF hE (by rw [List.length_append] at hB; omega) ?_
    exact ih (g + 1) _ (by omega) hB hK

set_option maxHeartbeats 1000000 in
set_option maxRecDepth 100000 in
theorem cO_any (hN : F + N ≤ c.1 8 0) (h : MGd c x) (hC : MC c x (c.1 4 0)) (hF : FQ c) (hE : NE c) (hB : (L ++ [32] ++ jS 45 ++ tlM c F N).length ≤ 16384) (hK : K none (mk σ0 m (pX x (L ++ [32] ++ jS 45 ++ tlM c F N) 2))) : a_C G m_M_clauseOut 5 107 [.ref m, .int (-1), .int (nI F), .int (nI N)] (mk σ0 m (pX x L 2)) K := by
  refine a_enter rfl (Nat.le_of_ble_eq_true rfl) ?_
  refine a_iload_n d_M_clauseOut_0 rfl rfl ?_
  refine a_if_ge (tgt := 13) d_M_clauseOut_1 (by decide) (fun n9 => absurd n9 (by decide)) (fun c_1 => ?_)
  refine a_aload_n d_M_clauseOut_4 rfl rfl ?_
  refine a_ldcS 45 d_M_clauseOut_5 (by decide) rfl rfl ?_
  apply a_callV (ci := 7) 4 85 [_] _ d_M_clauseOut_7 l_M_313 ⟨im_M_word, se_M_word⟩ rfl rfl rfl rfl (Nat.le_of_ble_eq_true rfl) ⟨Nat.le_of_ble_eq_true rfl, Nat.le_of_ble_eq_true rfl⟩
  · (exact mk_O)
  refine wD_s (by decide) (by rw [List.length_append] at hB; omega) ?_
  refine a_goto (tgt := 19) d_M_clauseOut_10 (by decide) ?_
  refine a_iload_n d_M_clauseOut_19 rfl rfl ?_
  refine a_istore d_M_clauseOut_20 (by decide) ?_
  exact a_lvk (lp_M_cO hN h hC hF hE N F _ (by omega) hB hK) ⟨rfl, rfl, rfl, rfl, rfl, trivial⟩

set_option maxHeartbeats 1000000 in
set_option maxRecDepth 100000 in
theorem cO_num {v : Nat} (hv : v ≤ 15) (hN : F + N ≤ c.1 8 0) (h : MGd c x) (hC : MC c x (c.1 4 0)) (hF : FQ c) (hE : NE c) (hB : (L ++ [32] ++ numB (nI v) ++ tlM c F N).length ≤ 16384) (hK : K none (mk σ0 m (pX x (L ++ [32] ++ numB (nI v) ++ tlM c F N) 2))) : a_C G m_M_clauseOut 5 107 [.ref m, .int (nI v), .int (nI F), .int (nI N)] (mk σ0 m (pX x L 2)) K := by
  refine a_enter rfl (Nat.le_of_ble_eq_true rfl) ?_
  refine a_iload_n d_M_clauseOut_0 rfl rfl ?_
  refine a_if_ge (tgt := 13) d_M_clauseOut_1 (by decide) (fun c_1 => ?_) (fun n9 => absurd (nI_pos' (by omega)) n9)
  refine a_aload_n d_M_clauseOut_13 rfl rfl ?_
  refine a_iload_n d_M_clauseOut_14 rfl rfl ?_
  refine a_i2l d_M_clauseOut_15 ?_
  apply a_callV (ci := 7) 2 42 [_] _ d_M_clauseOut_16 l_M_316 ⟨im_M_numberOut, se_M_numberOut⟩ rfl rfl rfl rfl (Nat.le_of_ble_eq_true rfl) ⟨Nat.le_of_ble_eq_true rfl, Nat.le_of_ble_eq_true rfl⟩
  · (exact mk_O)
  refine sp_M_numberOut (by rw [List.length_append] at hB; omega) ?_
  refine a_iload_n d_M_clauseOut_19 rfl rfl ?_
  refine a_istore d_M_clauseOut_20 (by decide) ?_
  exact a_lvk (lp_M_cO hN h hC hF hE N F _ (by omega) hB hK) ⟨rfl, rfl, rfl, rfl, rfl, trivial⟩

theorem sp_M_clauseOut {v : Nat} (hv : v ≤ 16) (hN : F + N ≤ c.1 8 0) (h : MGd c x) (hC : MC c x (c.1 4 0)) (hF : FQ c) (hE : NE c) (hB : (L ++ clM c v F N).length ≤ 16384) (hK : K none (mk σ0 m (pX x (L ++ clM c v F N) 2))) : a_C G m_M_clauseOut 5 107 [.ref m, .int (ccF v), .int (nI F), .int (nI N)] (mk σ0 m (pX x L 2)) K := by
  unfold clM at hB hK
  by_cases z : v = 16
  · subst z
    rw [if_pos rfl, ← List.append_assoc, ← List.append_assoc] at hB hK
    exact cO_any hN h hC hF hE hB hK
  · rw [if_neg z, ← List.append_assoc, ← List.append_assoc] at hB hK
    rw [show ccF v = nI v from if_neg z]
    exact cO_num (by omega) hN h hC hF hE hB hK
end ModM29
