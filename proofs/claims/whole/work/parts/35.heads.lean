/-! PRINTER, sixth part: nodes and counters -/
def wyB (q : aP) (k : Int32) (T : Nat → Nat) : Nat → Nat → List Nat
  | 0, _ => []
  | m + 1, i => (jS 36 ++ (ctB q 1 k (nI i) (T i) ++ (jS 22 ++ (nmL (nmf q 1 (clpart q 1 k (nI i) 2)) 12 ++ jS 32)))) ++ wyB q k T m (i + 1)
def ndB (q : aP) (k : Int32) (T : Nat → Nat) (c : Nat) : List Nat := jS 35 ++ (nmL (nmf q 1 k) 12 ++ (wyB q k T c 0 ++ jS 34))
def ruB (q : aP) (k : Int32) (T : Nat → Nat) : Nat → Nat → List Nat
  | 0, _ => []
  | m + 1, i => ((if clpart q 0 k (nI i) 2 = 1 then jS 23 else jS 24) ++ (ctB q 0 k (nI i) (T i) ++ jS 32)) ++ ruB q k T m (i + 1)
def coB (q : aP) (k : Int32) (T : Nat → Nat) (c : Nat) : List Nat := jS 21 ++ (nmL (nmf q 0 k) 12 ++ (jS 22 ++ (numB (cpart q k 0) ++ (ruB q k T c 0 ++ jS 34))))
section ModW6
variable {G : aG} {σ : aS} {K : Option Value → aS → Prop} {w p o cap : Nat} {s : aW} {q : aP}
set_option maxHeartbeats 4000000 in
set_option maxRecDepth 100000 in
theorem lp_W_writeNode {k : Int32} {T : Nat → Nat} {c : Nat} (hdis : w < o ∨ o + 1 < w) (hd1 : w < p ∨ p + 11 ≤ w) (hd2 : o + 1 < p ∨ p + 11 ≤ o) (hc : c ≤ 8) (hT : ∀ i, i < c → clpart q 1 k (nI i) 1 = nI (T i) ∧ T i ≤ 4) : ∀ (m i : Nat) {σ : aS} {s : aW}, PO σ p q → WR σ w p o cap s → i + m = c → (∀ τ, a_fw σ τ w o → WR τ w p o cap (putL cap s (wyB q k T m i ++ jS 34)) → K none τ) → a_J G m_W_writeNode 7 158 31 [(0, .ref w), (1, .int k), (2, .int (nI c)), (3, .int (nI i))] [] σ K := by
  intro m
  induction m with
  | zero =>
    intro i σ s hP hW hi hK
    have hF : a_fw σ σ w o := a_fw.rf
    obtain ⟨hW0, hB⟩ := id hW
    obtain ⟨hP0, hPr⟩ := id hP
    refine a_iload_n d_W_writeNode_31 rfl rfl ?_
    refine a_iload_n d_W_writeNode_32 rfl rfl ?_
    refine a_icmp_ge (tgt := 90) d_W_writeNode_33 (by decide) (fun c_1 => ?_) (fun n9 => absurd (by rw [show i = c by omega]; exact Int32.le_refl _) n9)
    refine a_aload_n d_W_writeNode_90 rfl rfl ?_
    refine a_ldcS 34 d_W_writeNode_91 (by decide) rfl rfl ?_
    apply a_callV (ci := 3) 4 85 [_] _ d_W_writeNode_93 l_W_25 ⟨im_W_writeText, se_W_writeText⟩ rfl rfl rfl rfl (Nat.le_of_ble_eq_true rfl) ⟨Nat.le_of_ble_eq_true rfl, Nat.le_of_ble_eq_true rfl⟩
    · (repeat (first | with_reducible assumption | with_reducible exact a_us | with_reducible exact a_ns | refine a_un (by first | with_reducible assumption | omega) ?_ | refine a_nn (by first | with_reducible assumption | omega | (simp only [a_upd_1, a_new_1]; omega)) ?_ | exact a_us | exact a_ns))
    refine sp_W_writeText (by decide) hdis hW (fun τ hf hW => ?_)
    have hP := hP.fw hf hd1 hd2
    have hF := hF.trans hf
    obtain ⟨hW0, hB⟩ := id hW
    obtain ⟨hP0, hPr⟩ := id hP
    refine a_return d_W_writeNode_96 rfl ?_
    exact hK _ hF hW
  | succ m ih =>
    intro i σ s hP hW hi hK
    have hF : a_fw σ σ w o := a_fw.rf
    obtain ⟨hW0, hB⟩ := id hW
    obtain ⟨hP0, hPr⟩ := id hP
    refine a_iload_n d_W_writeNode_31 rfl rfl ?_
    refine a_iload_n d_W_writeNode_32 rfl rfl ?_
    refine a_icmp_ge (tgt := 90) d_W_writeNode_33 (by decide) (fun n9 => absurd n9 (nI_ge (show i < c by omega) (by omega))) (fun c_1 => ?_)
    refine a_aload_n d_W_writeNode_36 rfl rfl ?_
    refine a_ldcS 36 d_W_writeNode_37 (by decide) rfl rfl ?_
    apply a_callV (ci := 3) 4 85 [_] _ d_W_writeNode_39 l_W_25 ⟨im_W_writeText, se_W_writeText⟩ rfl rfl rfl rfl (Nat.le_of_ble_eq_true rfl) ⟨Nat.le_of_ble_eq_true rfl, Nat.le_of_ble_eq_true rfl⟩
    · (repeat (first | with_reducible assumption | with_reducible exact a_us | with_reducible exact a_ns | refine a_un (by first | with_reducible assumption | omega) ?_ | refine a_nn (by first | with_reducible assumption | omega | (simp only [a_upd_1, a_new_1]; omega)) ?_ | exact a_us | exact a_ns))
    refine sp_W_writeText (by decide) hdis hW (fun τ hf hW => ?_)
    have hP := hP.fw hf hd1 hd2
    have hF := hF.trans hf
    obtain ⟨hW0, hB⟩ := id hW
    obtain ⟨hP0, hPr⟩ := id hP
    refine a_aload_n d_W_writeNode_42 rfl rfl ?_
    refine a_iconst (v := 1) d_W_writeNode_43 (by decide) ?_
    refine a_iload_n d_W_writeNode_44 rfl rfl ?_
    refine a_iload_n d_W_writeNode_45 rfl rfl ?_
    apply a_callV (ci := 3) 6 130 [_, _, _] _ d_W_writeNode_46 l_W_57 ⟨im_W_writeCallAndTests, se_W_writeCallAndTests⟩ rfl rfl rfl rfl (Nat.le_of_ble_eq_true rfl) ⟨Nat.le_of_ble_eq_true rfl, Nat.le_of_ble_eq_true rfl⟩
    · (repeat (first | with_reducible assumption | with_reducible exact a_us | with_reducible exact a_ns | refine a_un (by first | with_reducible assumption | omega) ?_ | refine a_nn (by first | with_reducible assumption | omega | (simp only [a_upd_1, a_new_1]; omega)) ?_ | exact a_us | exact a_ns))
    refine sp_W_callTests hdis hd1 hd2 (hT i (by omega)).1 (hT i (by omega)).2 hP hW (fun τ hf hW => ?_)
    have hP := hP.fw hf hd1 hd2
    have hF := hF.trans hf
    obtain ⟨hW0, hB⟩ := id hW
    obtain ⟨hP0, hPr⟩ := id hP
    refine a_aload_n d_W_writeNode_49 rfl rfl ?_
    refine a_ldcS 22 d_W_writeNode_50 (by decide) rfl rfl ?_
    apply a_callV (ci := 3) 4 85 [_] _ d_W_writeNode_52 l_W_25 ⟨im_W_writeText, se_W_writeText⟩ rfl rfl rfl rfl (Nat.le_of_ble_eq_true rfl) ⟨Nat.le_of_ble_eq_true rfl, Nat.le_of_ble_eq_true rfl⟩
    · (repeat (first | with_reducible assumption | with_reducible exact a_us | with_reducible exact a_ns | refine a_un (by first | with_reducible assumption | omega) ?_ | refine a_nn (by first | with_reducible assumption | omega | (simp only [a_upd_1, a_new_1]; omega)) ?_ | exact a_us | exact a_ns))
    refine sp_W_writeText (by decide) hdis hW (fun τ hf hW => ?_)
    have hP := hP.fw hf hd1 hd2
    have hF := hF.trans hf
    obtain ⟨hW0, hB⟩ := id hW
    obtain ⟨hP0, hPr⟩ := id hP
    refine a_aload_n d_W_writeNode_55 rfl rfl ?_
    refine a_aload_n d_W_writeNode_56 rfl rfl ?_
    apply a_getfield d_W_writeNode_57 f_W_9
    · (repeat (first | with_reducible assumption | with_reducible exact a_us | with_reducible exact a_ns | refine a_un (by first | with_reducible assumption | omega) ?_ | refine a_nn (by first | with_reducible assumption | omega | (simp only [a_upd_1, a_new_1]; omega)) ?_ | exact a_us | exact a_ns))
    · rfl
    refine a_iconst (v := 1) d_W_writeNode_60 (by decide) ?_
    refine a_aload_n d_W_writeNode_61 rfl rfl ?_
    apply a_getfield d_W_writeNode_62 f_W_9
    · (repeat (first | with_reducible assumption | with_reducible exact a_us | with_reducible exact a_ns | refine a_un (by first | with_reducible assumption | omega) ?_ | refine a_nn (by first | with_reducible assumption | omega | (simp only [a_upd_1, a_new_1]; omega)) ?_ | exact a_us | exact a_ns))
    · rfl
    refine a_iconst (v := 1) d_W_writeNode_65 (by decide) ?_
    refine a_iload_n d_W_writeNode_66 rfl rfl ?_
    refine a_iload_n d_W_writeNode_67 rfl rfl ?_
    refine a_iconst (v := 2) d_W_writeNode_68 (by decide) ?_
    apply a_callV (ci := 2) 2 46 [_, _, _, _] _ d_W_writeNode_69 l_W_49 ⟨im_P_clausePart, se_P_clausePart⟩ rfl rfl rfl rfl (Nat.le_of_ble_eq_true rfl) ⟨Nat.le_of_ble_eq_true rfl, Nat.le_of_ble_eq_true rfl⟩
    · (repeat (first | with_reducible assumption | with_reducible exact a_us | with_reducible exact a_ns | refine a_un (by first | with_reducible assumption | omega) ?_ | refine a_nn (by first | with_reducible assumption | omega | (simp only [a_upd_1, a_new_1]; omega)) ?_ | exact a_us | exact a_ns))
    refine sp_P_clausePart hP ?_
    apply a_callV (ci := 2) 1 22 [_, _] _ d_W_writeNode_72 l_W_29 ⟨im_P_nameOf, se_P_nameOf⟩ rfl rfl rfl rfl (Nat.le_of_ble_eq_true rfl) ⟨Nat.le_of_ble_eq_true rfl, Nat.le_of_ble_eq_true rfl⟩
    · (repeat (first | with_reducible assumption | with_reducible exact a_us | with_reducible exact a_ns | refine a_un (by first | with_reducible assumption | omega) ?_ | refine a_nn (by first | with_reducible assumption | omega | (simp only [a_upd_1, a_new_1]; omega)) ?_ | exact a_us | exact a_ns))
    refine sp_P_nameOf hP ?_
    apply a_callV (ci := 3) 2 46 [_] _ d_W_writeNode_75 l_W_35 ⟨im_W_writeName, se_W_writeName⟩ rfl rfl rfl rfl (Nat.le_of_ble_eq_true rfl) ⟨Nat.le_of_ble_eq_true rfl, Nat.le_of_ble_eq_true rfl⟩
    · (repeat (first | with_reducible assumption | with_reducible exact a_us | with_reducible exact a_ns | refine a_un (by first | with_reducible assumption | omega) ?_ | refine a_nn (by first | with_reducible assumption | omega | (simp only [a_upd_1, a_new_1]; omega)) ?_ | exact a_us | exact a_ns))
    refine sp_W_writeName hdis hW (fun τ hf hW => ?_)
    have hP := hP.fw hf hd1 hd2
    have hF := hF.trans hf
    obtain ⟨hW0, hB⟩ := id hW
    obtain ⟨hP0, hPr⟩ := id hP
    refine a_aload_n d_W_writeNode_78 rfl rfl ?_
    refine a_ldcS 32 d_W_writeNode_79 (by decide) rfl rfl ?_
    apply a_callV (ci := 3) 4 85 [_] _ d_W_writeNode_81 l_W_25 ⟨im_W_writeText, se_W_writeText⟩ rfl rfl rfl rfl (Nat.le_of_ble_eq_true rfl) ⟨Nat.le_of_ble_eq_true rfl, Nat.le_of_ble_eq_true rfl⟩
    · (repeat (first | with_reducible assumption | with_reducible exact a_us | with_reducible exact a_ns | refine a_un (by first | with_reducible assumption | omega) ?_ | refine a_nn (by first | with_reducible assumption | omega | (simp only [a_upd_1, a_new_1]; omega)) ?_ | exact a_us | exact a_ns))
    refine sp_W_writeText (by decide) hdis hW (fun τ hf hW => ?_)
    have hP := hP.fw hf hd1 hd2
    have hF := hF.trans hf
    obtain ⟨hW0, hB⟩ := id hW
    obtain ⟨hP0, hPr⟩ := id hP
    refine a_iinc (c0 := 1) d_W_writeNode_84 rfl (by decide) (by decide) ?_
    refine a_goto (tgt := 31) d_W_writeNode_87 (by decide) ?_
    refine a_lvk (ih (i + 1) hP hW (by omega) (fun υ hf2 hW3 => ?_)) ⟨rfl, rfl, rfl, by rw [← nI_1]; rfl, trivial⟩
    rw [wyB] at hK
    simp only [if_neg c_1, if_pos (Int32.not_le.mp c_1), if_true, putL_app] at hK hW3
    exact hK υ (hF.trans hf2) hW3

set_option maxHeartbeats 4000000 in
set_option maxRecDepth 100000 in
theorem sp_W_writeNode {k : Int32} {T : Nat → Nat} {c : Nat} (hdis : w < o ∨ o + 1 < w) (hd1 : w < p ∨ p + 11 ≤ w) (hd2 : o + 1 < p ∨ p + 11 ≤ o) (hct : npart q k 0 = nI c) (hc : c ≤ 8) (hT : ∀ i, i < c → clpart q 1 k (nI i) 1 = nI (T i) ∧ T i ≤ 4) (hP : PO σ p q) (hW : WR σ w p o cap s) (hK : ∀ τ, a_fw σ τ w o → WR τ w p o cap (putL cap s (ndB q k T c)) → K none τ) : a_C G m_W_writeNode 7 158 [.ref w, .int k] σ K := by
  have hF : a_fw σ σ w o := a_fw.rf
  obtain ⟨hW0, hB⟩ := id hW
  obtain ⟨hP0, hPr⟩ := id hP
  refine a_enter rfl (Nat.le_of_ble_eq_true rfl) ?_
  refine a_aload_n d_W_writeNode_0 rfl rfl ?_
  refine a_ldcS 35 d_W_writeNode_1 (by decide) rfl rfl ?_
  apply a_callV (ci := 3) 4 85 [_] _ d_W_writeNode_3 l_W_25 ⟨im_W_writeText, se_W_writeText⟩ rfl rfl rfl rfl (Nat.le_of_ble_eq_true rfl) ⟨Nat.le_of_ble_eq_true rfl, Nat.le_of_ble_eq_true rfl⟩
  · (repeat (first | with_reducible assumption | with_reducible exact a_us | with_reducible exact a_ns | refine a_un (by first | with_reducible assumption | omega) ?_ | refine a_nn (by first | with_reducible assumption | omega | (simp only [a_upd_1, a_new_1]; omega)) ?_ | exact a_us | exact a_ns))
  refine sp_W_writeText (by decide) hdis hW (fun τ hf hW => ?_)
  have hP := hP.fw hf hd1 hd2
  have hF := hF.trans hf
  obtain ⟨hW0, hB⟩ := id hW
  obtain ⟨hP0, hPr⟩ := id hP
  refine a_aload_n d_W_writeNode_6 rfl rfl ?_
  refine a_aload_n d_W_writeNode_7 rfl rfl ?_
  apply a_getfield d_W_writeNode_8 f_W_9
  · (repeat (first | with_reducible assumption | with_reducible exact a_us | with_reducible exact a_ns | refine a_un (by first | with_reducible assumption | omega) ?_ | refine a_nn (by first | with_reducible assumption | omega | (simp only [a_upd_1, a_new_1]; omega)) ?_ | exact a_us | exact a_ns))
  · rfl
  refine a_iconst (v := 1) d_W_writeNode_11 (by decide) ?_
  refine a_iload_n d_W_writeNode_12 rfl rfl ?_
  apply a_callV (ci := 2) 1 22 [_, _] _ d_W_writeNode_13 l_W_29 ⟨im_P_nameOf, se_P_nameOf⟩ rfl rfl rfl rfl (Nat.le_of_ble_eq_true rfl) ⟨Nat.le_of_ble_eq_true rfl, Nat.le_of_ble_eq_true rfl⟩
  · (repeat (first | with_reducible assumption | with_reducible exact a_us | with_reducible exact a_ns | refine a_un (by first | with_reducible assumption | omega) ?_ | refine a_nn (by first | with_reducible assumption | omega | (simp only [a_upd_1, a_new_1]; omega)) ?_ | exact a_us | exact a_ns))
  refine sp_P_nameOf hP ?_
  apply a_callV (ci := 3) 2 46 [_] _ d_W_writeNode_16 l_W_35 ⟨im_W_writeName, se_W_writeName⟩ rfl rfl rfl rfl (Nat.le_of_ble_eq_true rfl) ⟨Nat.le_of_ble_eq_true rfl, Nat.le_of_ble_eq_true rfl⟩
  · (repeat (first | with_reducible assumption | with_reducible exact a_us | with_reducible exact a_ns | refine a_un (by first | with_reducible assumption | omega) ?_ | refine a_nn (by first | with_reducible assumption | omega | (simp only [a_upd_1, a_new_1]; omega)) ?_ | exact a_us | exact a_ns))
  refine sp_W_writeName hdis hW (fun τ hf hW => ?_)
  have hP := hP.fw hf hd1 hd2
  have hF := hF.trans hf
  obtain ⟨hW0, hB⟩ := id hW
  obtain ⟨hP0, hPr⟩ := id hP
  refine a_aload_n d_W_writeNode_19 rfl rfl ?_
  apply a_getfield d_W_writeNode_20 f_W_9
  · (repeat (first | with_reducible assumption | with_reducible exact a_us | with_reducible exact a_ns | refine a_un (by first | with_reducible assumption | omega) ?_ | refine a_nn (by first | with_reducible assumption | omega | (simp only [a_upd_1, a_new_1]; omega)) ?_ | exact a_us | exact a_ns))
  · rfl
  refine a_iload_n d_W_writeNode_23 rfl rfl ?_
  refine a_iconst (v := 0) d_W_writeNode_24 (by decide) ?_
  apply a_callV (ci := 2) 1 23 [_, _] _ d_W_writeNode_25 l_W_67 ⟨im_P_nodePart, se_P_nodePart⟩ rfl rfl rfl rfl (Nat.le_of_ble_eq_true rfl) ⟨Nat.le_of_ble_eq_true rfl, Nat.le_of_ble_eq_true rfl⟩
  · (repeat (first | with_reducible assumption | with_reducible exact a_us | with_reducible exact a_ns | refine a_un (by first | with_reducible assumption | omega) ?_ | refine a_nn (by first | with_reducible assumption | omega | (simp only [a_upd_1, a_new_1]; omega)) ?_ | exact a_us | exact a_ns))
  refine sp_P_nodePart hP ?_
  rw [hct]
  refine a_istore_n d_W_writeNode_28 rfl (by decide) ?_
  refine a_iconst (v := 0) d_W_writeNode_29 (by decide) ?_
  refine a_istore_n d_W_writeNode_30 rfl (by decide) ?_
  simp only [ndB, putL_app] at hK
  refine a_lvk (lp_W_writeNode hdis hd1 hd2 hc hT c 0 hP hW (by omega) (fun υ hf2 hW3 => ?_)) ⟨rfl, rfl, rfl, rfl, trivial⟩
  rw [putL_app] at hW3
  exact hK υ (hF.trans hf2) hW3

set_option maxHeartbeats 4000000 in
set_option maxRecDepth 100000 in
theorem lp_W_writeCounter {k : Int32} {T : Nat → Nat} {c : Nat} (hdis : w < o ∨ o + 1 < w) (hd1 : w < p ∨ p + 11 ≤ w) (hd2 : o + 1 < p ∨ p + 11 ≤ o) (hc : c ≤ 8) (hT : ∀ i, i < c → clpart q 0 k (nI i) 1 = nI (T i) ∧ T i ≤ 4) : ∀ (m i : Nat) {σ : aS} {s : aW}, PO σ p q → WR σ w p o cap s → i + m = c → (∀ τ, a_fw σ τ w o → WR τ w p o cap (putL cap s (ruB q k T m i ++ jS 34)) → K none τ) → a_J G m_W_writeCounter 7 158 50 [(0, .ref w), (1, .int k), (2, .int (nI c)), (3, .int (nI i))] [] σ K := by
  intro m
  induction m with
  | zero =>
    intro i σ s hP hW hi hK
    have hF : a_fw σ σ w o := a_fw.rf
    obtain ⟨hW0, hB⟩ := id hW
    obtain ⟨hP0, hPr⟩ := id hP
    refine a_iload_n d_W_writeCounter_50 rfl rfl ?_
    refine a_iload_n d_W_writeCounter_51 rfl rfl ?_
    refine a_icmp_ge (tgt := 100) d_W_writeCounter_52 (by decide) (fun c_1 => ?_) (fun n9 => absurd (by rw [show i = c by omega]; exact Int32.le_refl _) n9)
    refine a_aload_n d_W_writeCounter_100 rfl rfl ?_
    refine a_ldcS 34 d_W_writeCounter_101 (by decide) rfl rfl ?_
    apply a_callV (ci := 3) 4 85 [_] _ d_W_writeCounter_103 l_W_25 ⟨im_W_writeText, se_W_writeText⟩ rfl rfl rfl rfl (Nat.le_of_ble_eq_true rfl) ⟨Nat.le_of_ble_eq_true rfl, Nat.le_of_ble_eq_true rfl⟩
    · (repeat (first | with_reducible assumption | with_reducible exact a_us | with_reducible exact a_ns | refine a_un (by first | with_reducible assumption | omega) ?_ | refine a_nn (by first | with_reducible assumption | omega | (simp only [a_upd_1, a_new_1]; omega)) ?_ | exact a_us | exact a_ns))
    refine sp_W_writeText (by decide) hdis hW (fun τ hf hW => ?_)
    have hP := hP.fw hf hd1 hd2
    have hF := hF.trans hf
    obtain ⟨hW0, hB⟩ := id hW
    obtain ⟨hP0, hPr⟩ := id hP
    refine a_return d_W_writeCounter_106 rfl ?_
    exact hK _ hF hW
  | succ m ih =>
    intro i σ s hP hW hi hK
    have hF : a_fw σ σ w o := a_fw.rf
    obtain ⟨hW0, hB⟩ := id hW
    obtain ⟨hP0, hPr⟩ := id hP
    refine a_iload_n d_W_writeCounter_50 rfl rfl ?_
    refine a_iload_n d_W_writeCounter_51 rfl rfl ?_
    refine a_icmp_ge (tgt := 100) d_W_writeCounter_52 (by decide) (fun n9 => absurd n9 (nI_ge (show i < c by omega) (by omega))) (fun c_1 => ?_)
    refine a_aload_n d_W_writeCounter_55 rfl rfl ?_
    refine a_aload_n d_W_writeCounter_56 rfl rfl ?_
    apply a_getfield d_W_writeCounter_57 f_W_9
    · (repeat (first | with_reducible assumption | with_reducible exact a_us | with_reducible exact a_ns | refine a_un (by first | with_reducible assumption | omega) ?_ | refine a_nn (by first | with_reducible assumption | omega | (simp only [a_upd_1, a_new_1]; omega)) ?_ | exact a_us | exact a_ns))
    · rfl
    refine a_iconst (v := 0) d_W_writeCounter_60 (by decide) ?_
    refine a_iload_n d_W_writeCounter_61 rfl rfl ?_
    refine a_iload_n d_W_writeCounter_62 rfl rfl ?_
    refine a_iconst (v := 2) d_W_writeCounter_63 (by decide) ?_
    apply a_callV (ci := 2) 2 46 [_, _, _, _] _ d_W_writeCounter_64 l_W_49 ⟨im_P_clausePart, se_P_clausePart⟩ rfl rfl rfl rfl (Nat.le_of_ble_eq_true rfl) ⟨Nat.le_of_ble_eq_true rfl, Nat.le_of_ble_eq_true rfl⟩
    · (repeat (first | with_reducible assumption | with_reducible exact a_us | with_reducible exact a_ns | refine a_un (by first | with_reducible assumption | omega) ?_ | refine a_nn (by first | with_reducible assumption | omega | (simp only [a_upd_1, a_new_1]; omega)) ?_ | exact a_us | exact a_ns))
    refine sp_P_clausePart hP ?_
    refine a_iconst (v := 1) d_W_writeCounter_67 (by decide) ?_
    refine a_icmp_ne (tgt := 76) d_W_writeCounter_68 (by decide) (fun c_2 => ?_) (fun c_2 => ?_)
    · refine a_ldcS 24 d_W_writeCounter_76 (by decide) rfl rfl ?_
      apply a_callV (ci := 3) 4 85 [_] _ d_W_writeCounter_78 l_W_25 ⟨im_W_writeText, se_W_writeText⟩ rfl rfl rfl rfl (Nat.le_of_ble_eq_true rfl) ⟨Nat.le_of_ble_eq_true rfl, Nat.le_of_ble_eq_true rfl⟩
      · (repeat (first | with_reducible assumption | with_reducible exact a_us | with_reducible exact a_ns | refine a_un (by first | with_reducible assumption | omega) ?_ | refine a_nn (by first | with_reducible assumption | omega | (simp only [a_upd_1, a_new_1]; omega)) ?_ | exact a_us | exact a_ns))
      refine sp_W_writeText (by decide) hdis hW (fun τ hf hW => ?_)
      have hP := hP.fw hf hd1 hd2
      have hF := hF.trans hf
      obtain ⟨hW0, hB⟩ := id hW
      obtain ⟨hP0, hPr⟩ := id hP
      refine a_aload_n d_W_writeCounter_81 rfl rfl ?_
      refine a_iconst (v := 0) d_W_writeCounter_82 (by decide) ?_
      refine a_iload_n d_W_writeCounter_83 rfl rfl ?_
      refine a_iload_n d_W_writeCounter_84 rfl rfl ?_
      apply a_callV (ci := 3) 6 130 [_, _, _] _ d_W_writeCounter_85 l_W_57 ⟨im_W_writeCallAndTests, se_W_writeCallAndTests⟩ rfl rfl rfl rfl (Nat.le_of_ble_eq_true rfl) ⟨Nat.le_of_ble_eq_true rfl, Nat.le_of_ble_eq_true rfl⟩
      · (repeat (first | with_reducible assumption | with_reducible exact a_us | with_reducible exact a_ns | refine a_un (by first | with_reducible assumption | omega) ?_ | refine a_nn (by first | with_reducible assumption | omega | (simp only [a_upd_1, a_new_1]; omega)) ?_ | exact a_us | exact a_ns))
      refine sp_W_callTests hdis hd1 hd2 (hT i (by omega)).1 (hT i (by omega)).2 hP hW (fun τ hf hW => ?_)
      have hP := hP.fw hf hd1 hd2
      have hF := hF.trans hf
      obtain ⟨hW0, hB⟩ := id hW
      obtain ⟨hP0, hPr⟩ := id hP
      refine a_aload_n d_W_writeCounter_88 rfl rfl ?_
      refine a_ldcS 32 d_W_writeCounter_89 (by decide) rfl rfl ?_
      apply a_callV (ci := 3) 4 85 [_] _ d_W_writeCounter_91 l_W_25 ⟨im_W_writeText, se_W_writeText⟩ rfl rfl rfl rfl (Nat.le_of_ble_eq_true rfl) ⟨Nat.le_of_ble_eq_true rfl, Nat.le_of_ble_eq_true rfl⟩
      · (repeat (first | with_reducible assumption | with_reducible exact a_us | with_reducible exact a_ns | refine a_un (by first | with_reducible assumption | omega) ?_ | refine a_nn (by first | with_reducible assumption | omega | (simp only [a_upd_1, a_new_1]; omega)) ?_ | exact a_us | exact a_ns))
      refine sp_W_writeText (by decide) hdis hW (fun τ hf hW => ?_)
      have hP := hP.fw hf hd1 hd2
      have hF := hF.trans hf
      obtain ⟨hW0, hB⟩ := id hW
      obtain ⟨hP0, hPr⟩ := id hP
      refine a_iinc (c0 := 1) d_W_writeCounter_94 rfl (by decide) (by decide) ?_
      refine a_goto (tgt := 50) d_W_writeCounter_97 (by decide) ?_
      refine a_lvk (ih (i + 1) hP hW (by omega) (fun υ hf2 hW3 => ?_)) ⟨rfl, rfl, rfl, by rw [← nI_1]; rfl, trivial⟩
      rw [ruB] at hK
      simp only [if_neg c_1, if_pos (Int32.not_le.mp c_1), if_neg c_2, if_true, putL_app] at hK hW3
      exact hK υ (hF.trans hf2) hW3
    · refine a_ldcS 23 d_W_writeCounter_71 (by decide) rfl rfl ?_
      refine a_goto (tgt := 78) d_W_writeCounter_73 (by decide) ?_
      apply a_callV (ci := 3) 4 85 [_] _ d_W_writeCounter_78 l_W_25 ⟨im_W_writeText, se_W_writeText⟩ rfl rfl rfl rfl (Nat.le_of_ble_eq_true rfl) ⟨Nat.le_of_ble_eq_true rfl, Nat.le_of_ble_eq_true rfl⟩
      · (repeat (first | with_reducible assumption | with_reducible exact a_us | with_reducible exact a_ns | refine a_un (by first | with_reducible assumption | omega) ?_ | refine a_nn (by first | with_reducible assumption | omega | (simp only [a_upd_1, a_new_1]; omega)) ?_ | exact a_us | exact a_ns))
      refine sp_W_writeText (by decide) hdis hW (fun τ hf hW => ?_)
      have hP := hP.fw hf hd1 hd2
      have hF := hF.trans hf
      obtain ⟨hW0, hB⟩ := id hW
      obtain ⟨hP0, hPr⟩ := id hP
      refine a_aload_n d_W_writeCounter_81 rfl rfl ?_
      refine a_iconst (v := 0) d_W_writeCounter_82 (by decide) ?_
      refine a_iload_n d_W_writeCounter_83 rfl rfl ?_
      refine a_iload_n d_W_writeCounter_84 rfl rfl ?_
      apply a_callV (ci := 3) 6 130 [_, _, _] _ d_W_writeCounter_85 l_W_57 ⟨im_W_writeCallAndTests, se_W_writeCallAndTests⟩ rfl rfl rfl rfl (Nat.le_of_ble_eq_true rfl) ⟨Nat.le_of_ble_eq_true rfl, Nat.le_of_ble_eq_true rfl⟩
      · (repeat (first | with_reducible assumption | with_reducible exact a_us | with_reducible exact a_ns | refine a_un (by first | with_reducible assumption | omega) ?_ | refine a_nn (by first | with_reducible assumption | omega | (simp only [a_upd_1, a_new_1]; omega)) ?_ | exact a_us | exact a_ns))
      refine sp_W_callTests hdis hd1 hd2 (hT i (by omega)).1 (hT i (by omega)).2 hP hW (fun τ hf hW => ?_)
      have hP := hP.fw hf hd1 hd2
      have hF := hF.trans hf
      obtain ⟨hW0, hB⟩ := id hW
      obtain ⟨hP0, hPr⟩ := id hP
      refine a_aload_n d_W_writeCounter_88 rfl rfl ?_
      refine a_ldcS 32 d_W_writeCounter_89 (by decide) rfl rfl ?_
      apply a_callV (ci := 3) 4 85 [_] _ d_W_writeCounter_91 l_W_25 ⟨im_W_writeText, se_W_writeText⟩ rfl rfl rfl rfl (Nat.le_of_ble_eq_true rfl) ⟨Nat.le_of_ble_eq_true rfl, Nat.le_of_ble_eq_true rfl⟩
      · (repeat (first | with_reducible assumption | with_reducible exact a_us | with_reducible exact a_ns | refine a_un (by first | with_reducible assumption | omega) ?_ | refine a_nn (by first | with_reducible assumption | omega | (simp only [a_upd_1, a_new_1]; omega)) ?_ | exact a_us | exact a_ns))
      refine sp_W_writeText (by decide) hdis hW (fun τ hf hW => ?_)
      have hP := hP.fw hf hd1 hd2
      have hF := hF.trans hf
      obtain ⟨hW0, hB⟩ := id hW
      obtain ⟨hP0, hPr⟩ := id hP
      refine a_iinc (c0 := 1) d_W_writeCounter_94 rfl (by decide) (by decide) ?_
      refine a_goto (tgt := 50) d_W_writeCounter_97 (by decide) ?_
      refine a_lvk (ih (i + 1) hP hW (by omega) (fun υ hf2 hW3 => ?_)) ⟨rfl, rfl, rfl, by rw [← nI_1]; rfl, trivial⟩
      rw [ruB] at hK
      simp only [if_neg c_1, if_pos (Int32.not_le.mp c_1), if_pos c_2, if_true, putL_app] at hK hW3
      exact hK υ (hF.trans hf2) hW3

set_option maxHeartbeats 4000000 in
set_option maxRecDepth 100000 in
theorem sp_W_writeCounter {k : Int32} {T : Nat → Nat} {c : Nat} (hdis : w < o ∨ o + 1 < w) (hd1 : w < p ∨ p + 11 ≤ w) (hd2 : o + 1 < p ∨ p + 11 ≤ o) (hct : cpart q k 1 = nI c) (hc : c ≤ 8) (hT : ∀ i, i < c → clpart q 0 k (nI i) 1 = nI (T i) ∧ T i ≤ 4) (hP : PO σ p q) (hW : WR σ w p o cap s) (hK : ∀ τ, a_fw σ τ w o → WR τ w p o cap (putL cap s (coB q k T c)) → K none τ) : a_C G m_W_writeCounter 7 158 [.ref w, .int k] σ K := by
  have hF : a_fw σ σ w o := a_fw.rf
  obtain ⟨hW0, hB⟩ := id hW
  obtain ⟨hP0, hPr⟩ := id hP
  refine a_enter rfl (Nat.le_of_ble_eq_true rfl) ?_
  refine a_aload_n d_W_writeCounter_0 rfl rfl ?_
  refine a_ldcS 21 d_W_writeCounter_1 (by decide) rfl rfl ?_
  apply a_callV (ci := 3) 4 85 [_] _ d_W_writeCounter_3 l_W_25 ⟨im_W_writeText, se_W_writeText⟩ rfl rfl rfl rfl (Nat.le_of_ble_eq_true rfl) ⟨Nat.le_of_ble_eq_true rfl, Nat.le_of_ble_eq_true rfl⟩
  · (repeat (first | with_reducible assumption | with_reducible exact a_us | with_reducible exact a_ns | refine a_un (by first | with_reducible assumption | omega) ?_ | refine a_nn (by first | with_reducible assumption | omega | (simp only [a_upd_1, a_new_1]; omega)) ?_ | exact a_us | exact a_ns))
  refine sp_W_writeText (by decide) hdis hW (fun τ hf hW => ?_)
  have hP := hP.fw hf hd1 hd2
  have hF := hF.trans hf
  obtain ⟨hW0, hB⟩ := id hW
  obtain ⟨hP0, hPr⟩ := id hP
  refine a_aload_n d_W_writeCounter_6 rfl rfl ?_
  refine a_aload_n d_W_writeCounter_7 rfl rfl ?_
  apply a_getfield d_W_writeCounter_8 f_W_9
  · (repeat (first | with_reducible assumption | with_reducible exact a_us | with_reducible exact a_ns | refine a_un (by first | with_reducible assumption | omega) ?_ | refine a_nn (by first | with_reducible assumption | omega | (simp only [a_upd_1, a_new_1]; omega)) ?_ | exact a_us | exact a_ns))
  · rfl
  refine a_iconst (v := 0) d_W_writeCounter_11 (by decide) ?_
  refine a_iload_n d_W_writeCounter_12 rfl rfl ?_
  apply a_callV (ci := 2) 1 22 [_, _] _ d_W_writeCounter_13 l_W_29 ⟨im_P_nameOf, se_P_nameOf⟩ rfl rfl rfl rfl (Nat.le_of_ble_eq_true rfl) ⟨Nat.le_of_ble_eq_true rfl, Nat.le_of_ble_eq_true rfl⟩
  · (repeat (first | with_reducible assumption | with_reducible exact a_us | with_reducible exact a_ns | refine a_un (by first | with_reducible assumption | omega) ?_ | refine a_nn (by first | with_reducible assumption | omega | (simp only [a_upd_1, a_new_1]; omega)) ?_ | exact a_us | exact a_ns))
  refine sp_P_nameOf hP ?_
  apply a_callV (ci := 3) 2 46 [_] _ d_W_writeCounter_16 l_W_35 ⟨im_W_writeName, se_W_writeName⟩ rfl rfl rfl rfl (Nat.le_of_ble_eq_true rfl) ⟨Nat.le_of_ble_eq_true rfl, Nat.le_of_ble_eq_true rfl⟩
  · (repeat (first | with_reducible assumption | with_reducible exact a_us | with_reducible exact a_ns | refine a_un (by first | with_reducible assumption | omega) ?_ | refine a_nn (by first | with_reducible assumption | omega | (simp only [a_upd_1, a_new_1]; omega)) ?_ | exact a_us | exact a_ns))
  refine sp_W_writeName hdis hW (fun τ hf hW => ?_)
  have hP := hP.fw hf hd1 hd2
  have hF := hF.trans hf
  obtain ⟨hW0, hB⟩ := id hW
  obtain ⟨hP0, hPr⟩ := id hP
  refine a_aload_n d_W_writeCounter_19 rfl rfl ?_
  refine a_ldcS 22 d_W_writeCounter_20 (by decide) rfl rfl ?_
  apply a_callV (ci := 3) 4 85 [_] _ d_W_writeCounter_22 l_W_25 ⟨im_W_writeText, se_W_writeText⟩ rfl rfl rfl rfl (Nat.le_of_ble_eq_true rfl) ⟨Nat.le_of_ble_eq_true rfl, Nat.le_of_ble_eq_true rfl⟩
  · (repeat (first | with_reducible assumption | with_reducible exact a_us | with_reducible exact a_ns | refine a_un (by first | with_reducible assumption | omega) ?_ | refine a_nn (by first | with_reducible assumption | omega | (simp only [a_upd_1, a_new_1]; omega)) ?_ | exact a_us | exact a_ns))
  refine sp_W_writeText (by decide) hdis hW (fun τ hf hW => ?_)
  have hP := hP.fw hf hd1 hd2
  have hF := hF.trans hf
  obtain ⟨hW0, hB⟩ := id hW
  obtain ⟨hP0, hPr⟩ := id hP
  refine a_aload_n d_W_writeCounter_25 rfl rfl ?_
  refine a_aload_n d_W_writeCounter_26 rfl rfl ?_
  apply a_getfield d_W_writeCounter_27 f_W_9
  · (repeat (first | with_reducible assumption | with_reducible exact a_us | with_reducible exact a_ns | refine a_un (by first | with_reducible assumption | omega) ?_ | refine a_nn (by first | with_reducible assumption | omega | (simp only [a_upd_1, a_new_1]; omega)) ?_ | exact a_us | exact a_ns))
  · rfl
  refine a_iload_n d_W_writeCounter_30 rfl rfl ?_
  refine a_iconst (v := 0) d_W_writeCounter_31 (by decide) ?_
  apply a_callV (ci := 2) 1 23 [_, _] _ d_W_writeCounter_32 l_W_41 ⟨im_P_counterPart, se_P_counterPart⟩ rfl rfl rfl rfl (Nat.le_of_ble_eq_true rfl) ⟨Nat.le_of_ble_eq_true rfl, Nat.le_of_ble_eq_true rfl⟩
  · (repeat (first | with_reducible assumption | with_reducible exact a_us | with_reducible exact a_ns | refine a_un (by first | with_reducible assumption | omega) ?_ | refine a_nn (by first | with_reducible assumption | omega | (simp only [a_upd_1, a_new_1]; omega)) ?_ | exact a_us | exact a_ns))
  refine sp_P_counterPart hP ?_
  apply a_callV (ci := 3) 2 46 [_] _ d_W_writeCounter_35 l_W_45 ⟨im_W_writeNumber, se_W_writeNumber⟩ rfl rfl rfl rfl (Nat.le_of_ble_eq_true rfl) ⟨Nat.le_of_ble_eq_true rfl, Nat.le_of_ble_eq_true rfl⟩
  · (repeat (first | with_reducible assumption | with_reducible exact a_us | with_reducible exact a_ns | refine a_un (by first | with_reducible assumption | omega) ?_ | refine a_nn (by first | with_reducible assumption | omega | (simp only [a_upd_1, a_new_1]; omega)) ?_ | exact a_us | exact a_ns))
  refine sp_W_writeNumber hdis hW (fun τ hf hW => ?_)
  have hP := hP.fw hf hd1 hd2
  have hF := hF.trans hf
  obtain ⟨hW0, hB⟩ := id hW
  obtain ⟨hP0, hPr⟩ := id hP
  refine a_aload_n d_W_writeCounter_38 rfl rfl ?_
  apply a_getfield d_W_writeCounter_39 f_W_9
  · (repeat (first | with_reducible assumption | with_reducible exact a_us | with_reducible exact a_ns | refine a_un (by first | with_reducible assumption | omega) ?_ | refine a_nn (by first | with_reducible assumption | omega | (simp only [a_upd_1, a_new_1]; omega)) ?_ | exact a_us | exact a_ns))
  · rfl
  refine a_iload_n d_W_writeCounter_42 rfl rfl ?_
  refine a_iconst (v := 1) d_W_writeCounter_43 (by decide) ?_
  apply a_callV (ci := 2) 1 23 [_, _] _ d_W_writeCounter_44 l_W_41 ⟨im_P_counterPart, se_P_counterPart⟩ rfl rfl rfl rfl (Nat.le_of_ble_eq_true rfl) ⟨Nat.le_of_ble_eq_true rfl, Nat.le_of_ble_eq_true rfl⟩
  · (repeat (first | with_reducible assumption | with_reducible exact a_us | with_reducible exact a_ns | refine a_un (by first | with_reducible assumption | omega) ?_ | refine a_nn (by first | with_reducible assumption | omega | (simp only [a_upd_1, a_new_1]; omega)) ?_ | exact a_us | exact a_ns))
  refine sp_P_counterPart hP ?_
  rw [hct]
  refine a_istore_n d_W_writeCounter_47 rfl (by decide) ?_
  refine a_iconst (v := 0) d_W_writeCounter_48 (by decide) ?_
  refine a_istore_n d_W_writeCounter_49 rfl (by decide) ?_
  simp only [coB, putL_app] at hK
  refine a_lvk (lp_W_writeCounter hdis hd1 hd2 hc hT c 0 hP hW (by omega) (fun υ hf2 hW3 => ?_)) ⟨rfl, rfl, rfl, rfl, trivial⟩
  rw [putL_app] at hW3
  exact hK υ (hF.trans hf2) hW3

end ModW6
