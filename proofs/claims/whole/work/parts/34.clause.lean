/-! PRINTER, fifth part: a clause's call and tests -/
def tlB (q : aP) (v k j : Int32) : Nat → Nat → List Nat
  | 0, _ => []
  | m + 1, i => (if tpart q (trow q v k j (nI i)) 3 = 1 then jS 26 ++ (tsB q (trow q v k j (nI i)) ++ jS 32) else jS 22 ++ (tsB q (trow q v k j (nI i)) ++ jS 33)) ++ tlB q v k j m (i + 1)
/-- the call's number, or any; the tests -/
def ctB (q : aP) (v k j : Int32) (t : Nat) : List Nat := (if clpart q v k j 0 = 16 then jS 25 else numB (clpart q v k j 0)) ++ tlB q v k j t 0
section ModW5
variable {G : aG} {σ : aS} {K : Option Value → aS → Prop} {w p o cap : Nat} {s : aW} {q : aP}
set_option maxHeartbeats 4000000 in
set_option maxRecDepth 100000 in
theorem lp_W_tests {v k j : Int32} {t : Nat} (hdis : w < o ∨ o + 1 < w) (hd1 : w < p ∨ p + 11 ≤ w) (hd2 : o + 1 < p ∨ p + 11 ≤ o) (ht : t ≤ 4) : ∀ (m i : Nat) {σ : aS} {s : aW}, PO σ p q → WR σ w p o cap s → i + m = t → (∀ τ, a_fw σ τ w o → WR τ w p o cap (putL cap s (tlB q v k j m i)) → K none τ) → a_J G m_W_writeCallAndTests 6 130 51 [(0, .ref w), (1, .int v), (2, .int k), (3, .int j), (5, .int (nI t)), (6, .int (nI i))] [] σ K := by
  intro m
  induction m with
  | zero =>
    intro i σ s hP hW hi hK
    have hF : a_fw σ σ w o := a_fw.rf
    obtain ⟨hW0, hB⟩ := id hW
    obtain ⟨hP0, hPr⟩ := id hP
    refine a_iload d_W_writeCallAndTests_51 rfl ?_
    refine a_iload d_W_writeCallAndTests_53 rfl ?_
    refine a_icmp_ge (tgt := 137) d_W_writeCallAndTests_55 (by decide) (fun c_1 => ?_) (fun n9 => absurd (by rw [show i = t by omega]; exact Int32.le_refl _) n9)
    refine a_return d_W_writeCallAndTests_137 rfl ?_
    exact hK σ a_fw.rf hW
  | succ m ih =>
    intro i σ s hP hW hi hK
    have hF : a_fw σ σ w o := a_fw.rf
    obtain ⟨hW0, hB⟩ := id hW
    obtain ⟨hP0, hPr⟩ := id hP
    by_cases hm : tpart q (trow q v k j (nI i)) 3 = 1
    · refine a_iload d_W_writeCallAndTests_51 rfl ?_
      refine a_iload d_W_writeCallAndTests_53 rfl ?_
      refine a_icmp_ge (tgt := 137) d_W_writeCallAndTests_55 (by decide) (fun n9 => absurd n9 (nI_ge (show i < t by omega) (by omega))) (fun c_1 => ?_)
      refine a_aload_n d_W_writeCallAndTests_58 rfl rfl ?_
      apply a_getfield d_W_writeCallAndTests_59 f_W_9
      · (repeat (first | with_reducible assumption | with_reducible exact a_us | with_reducible exact a_ns | refine a_un (by first | with_reducible assumption | omega) ?_ | refine a_nn (by first | with_reducible assumption | omega | (simp only [a_upd_1, a_new_1]; omega)) ?_ | exact a_us | exact a_ns))
      · rfl
      refine a_iload_n d_W_writeCallAndTests_62 rfl rfl ?_
      refine a_iload_n d_W_writeCallAndTests_63 rfl rfl ?_
      refine a_iload_n d_W_writeCallAndTests_64 rfl rfl ?_
      refine a_iload d_W_writeCallAndTests_65 rfl ?_
      apply a_callV (ci := 2) 2 46 [_, _, _, _] _ d_W_writeCallAndTests_67 l_W_74 ⟨im_P_testRow, se_P_testRow⟩ rfl rfl rfl rfl (Nat.le_of_ble_eq_true rfl) ⟨Nat.le_of_ble_eq_true rfl, Nat.le_of_ble_eq_true rfl⟩
      · (repeat (first | with_reducible assumption | with_reducible exact a_us | with_reducible exact a_ns | refine a_un (by first | with_reducible assumption | omega) ?_ | refine a_nn (by first | with_reducible assumption | omega | (simp only [a_upd_1, a_new_1]; omega)) ?_ | exact a_us | exact a_ns))
      refine sp_P_testRow hP ?_
      refine a_istore d_W_writeCallAndTests_70 (by decide) ?_
      refine a_aload_n d_W_writeCallAndTests_72 rfl rfl ?_
      apply a_getfield d_W_writeCallAndTests_73 f_W_9
      · (repeat (first | with_reducible assumption | with_reducible exact a_us | with_reducible exact a_ns | refine a_un (by first | with_reducible assumption | omega) ?_ | refine a_nn (by first | with_reducible assumption | omega | (simp only [a_upd_1, a_new_1]; omega)) ?_ | exact a_us | exact a_ns))
      · rfl
      refine a_iload d_W_writeCallAndTests_76 rfl ?_
      refine a_iconst (v := 3) d_W_writeCallAndTests_78 (by decide) ?_
      apply a_callV (ci := 2) 1 21 [_, _] _ d_W_writeCallAndTests_79 l_W_77 ⟨im_P_testPart, se_P_testPart⟩ rfl rfl rfl rfl (Nat.le_of_ble_eq_true rfl) ⟨Nat.le_of_ble_eq_true rfl, Nat.le_of_ble_eq_true rfl⟩
      · (repeat (first | with_reducible assumption | with_reducible exact a_us | with_reducible exact a_ns | refine a_un (by first | with_reducible assumption | omega) ?_ | refine a_nn (by first | with_reducible assumption | omega | (simp only [a_upd_1, a_new_1]; omega)) ?_ | exact a_us | exact a_ns))
      refine sp_P_testPart hP ?_
      refine a_iconst (v := 1) d_W_writeCallAndTests_82 (by decide) ?_
      refine a_icmp_ne (tgt := 90) d_W_writeCallAndTests_83 (by decide) (fun n9 => absurd (hm) n9) (fun c_2 => ?_)
      refine a_iconst (v := 1) d_W_writeCallAndTests_86 (by decide) ?_
      refine a_goto (tgt := 91) d_W_writeCallAndTests_87 (by decide) ?_
      refine a_istore d_W_writeCallAndTests_91 (by decide) ?_
      refine a_aload_n d_W_writeCallAndTests_93 rfl rfl ?_
      refine a_iload d_W_writeCallAndTests_94 rfl ?_
      refine a_if_eq (tgt := 104) d_W_writeCallAndTests_96 (by decide) (fun n9 => absurd n9 (by decide)) (fun c_3 => ?_)
      refine a_ldcS 26 d_W_writeCallAndTests_99 (by decide) rfl rfl ?_
      refine a_goto (tgt := 106) d_W_writeCallAndTests_101 (by decide) ?_
      apply a_callV (ci := 3) 4 85 [_] _ d_W_writeCallAndTests_106 l_W_25 ⟨im_W_writeText, se_W_writeText⟩ rfl rfl rfl rfl (Nat.le_of_ble_eq_true rfl) ⟨Nat.le_of_ble_eq_true rfl, Nat.le_of_ble_eq_true rfl⟩
      · (repeat (first | with_reducible assumption | with_reducible exact a_us | with_reducible exact a_ns | refine a_un (by first | with_reducible assumption | omega) ?_ | refine a_nn (by first | with_reducible assumption | omega | (simp only [a_upd_1, a_new_1]; omega)) ?_ | exact a_us | exact a_ns))
      refine sp_W_writeText (by decide) hdis hW (fun τ hf hW => ?_)
      have hP := hP.fw hf hd1 hd2
      have hF := hF.trans hf
      obtain ⟨hW0, hB⟩ := id hW
      obtain ⟨hP0, hPr⟩ := id hP
      refine a_aload_n d_W_writeCallAndTests_109 rfl rfl ?_
      refine a_iload d_W_writeCallAndTests_110 rfl ?_
      apply a_callV (ci := 3) 5 107 [_] _ d_W_writeCallAndTests_112 l_W_82 ⟨im_W_writeTest, se_W_writeTest⟩ rfl rfl rfl rfl (Nat.le_of_ble_eq_true rfl) ⟨Nat.le_of_ble_eq_true rfl, Nat.le_of_ble_eq_true rfl⟩
      · (repeat (first | with_reducible assumption | with_reducible exact a_us | with_reducible exact a_ns | refine a_un (by first | with_reducible assumption | omega) ?_ | refine a_nn (by first | with_reducible assumption | omega | (simp only [a_upd_1, a_new_1]; omega)) ?_ | exact a_us | exact a_ns))
      refine sp_W_writeTest hdis hd1 hd2 hP hW (fun τ hf hW => ?_)
      have hP := hP.fw hf hd1 hd2
      have hF := hF.trans hf
      obtain ⟨hW0, hB⟩ := id hW
      obtain ⟨hP0, hPr⟩ := id hP
      refine a_aload_n d_W_writeCallAndTests_115 rfl rfl ?_
      refine a_iload d_W_writeCallAndTests_116 rfl ?_
      refine a_if_eq (tgt := 126) d_W_writeCallAndTests_118 (by decide) (fun n9 => absurd n9 (by decide)) (fun c_4 => ?_)
      refine a_ldcS 32 d_W_writeCallAndTests_121 (by decide) rfl rfl ?_
      refine a_goto (tgt := 128) d_W_writeCallAndTests_123 (by decide) ?_
      apply a_callV (ci := 3) 4 85 [_] _ d_W_writeCallAndTests_128 l_W_25 ⟨im_W_writeText, se_W_writeText⟩ rfl rfl rfl rfl (Nat.le_of_ble_eq_true rfl) ⟨Nat.le_of_ble_eq_true rfl, Nat.le_of_ble_eq_true rfl⟩
      · (repeat (first | with_reducible assumption | with_reducible exact a_us | with_reducible exact a_ns | refine a_un (by first | with_reducible assumption | omega) ?_ | refine a_nn (by first | with_reducible assumption | omega | (simp only [a_upd_1, a_new_1]; omega)) ?_ | exact a_us | exact a_ns))
      refine sp_W_writeText (by decide) hdis hW (fun τ hf hW => ?_)
      have hP := hP.fw hf hd1 hd2
      have hF := hF.trans hf
      obtain ⟨hW0, hB⟩ := id hW
      obtain ⟨hP0, hPr⟩ := id hP
      refine a_iinc (c0 := 1) d_W_writeCallAndTests_131 rfl (by decide) (by decide) ?_
      refine a_goto (tgt := 51) d_W_writeCallAndTests_134 (by decide) ?_
      refine a_lvk (ih (i + 1) hP hW (by omega) (fun υ hf2 hW3 => ?_)) ⟨rfl, rfl, rfl, rfl, rfl, by rw [← nI_1]; rfl, trivial⟩
      rw [tlB, if_pos hm] at hK
      simp only [putL_app] at hK
      exact hK υ (hF.trans hf2) hW3
    · refine a_iload d_W_writeCallAndTests_51 rfl ?_
      refine a_iload d_W_writeCallAndTests_53 rfl ?_
      refine a_icmp_ge (tgt := 137) d_W_writeCallAndTests_55 (by decide) (fun n9 => absurd n9 (nI_ge (show i < t by omega) (by omega))) (fun c_1 => ?_)
      refine a_aload_n d_W_writeCallAndTests_58 rfl rfl ?_
      apply a_getfield d_W_writeCallAndTests_59 f_W_9
      · (repeat (first | with_reducible assumption | with_reducible exact a_us | with_reducible exact a_ns | refine a_un (by first | with_reducible assumption | omega) ?_ | refine a_nn (by first | with_reducible assumption | omega | (simp only [a_upd_1, a_new_1]; omega)) ?_ | exact a_us | exact a_ns))
      · rfl
      refine a_iload_n d_W_writeCallAndTests_62 rfl rfl ?_
      refine a_iload_n d_W_writeCallAndTests_63 rfl rfl ?_
      refine a_iload_n d_W_writeCallAndTests_64 rfl rfl ?_
      refine a_iload d_W_writeCallAndTests_65 rfl ?_
      apply a_callV (ci := 2) 2 46 [_, _, _, _] _ d_W_writeCallAndTests_67 l_W_74 ⟨im_P_testRow, se_P_testRow⟩ rfl rfl rfl rfl (Nat.le_of_ble_eq_true rfl) ⟨Nat.le_of_ble_eq_true rfl, Nat.le_of_ble_eq_true rfl⟩
      · (repeat (first | with_reducible assumption | with_reducible exact a_us | with_reducible exact a_ns | refine a_un (by first | with_reducible assumption | omega) ?_ | refine a_nn (by first | with_reducible assumption | omega | (simp only [a_upd_1, a_new_1]; omega)) ?_ | exact a_us | exact a_ns))
      refine sp_P_testRow hP ?_
      refine a_istore d_W_writeCallAndTests_70 (by decide) ?_
      refine a_aload_n d_W_writeCallAndTests_72 rfl rfl ?_
      apply a_getfield d_W_writeCallAndTests_73 f_W_9
      · (repeat (first | with_reducible assumption | with_reducible exact a_us | with_reducible exact a_ns | refine a_un (by first | with_reducible assumption | omega) ?_ | refine a_nn (by first | with_reducible assumption | omega | (simp only [a_upd_1, a_new_1]; omega)) ?_ | exact a_us | exact a_ns))
      · rfl
      refine a_iload d_W_writeCallAndTests_76 rfl ?_
      refine a_iconst (v := 3) d_W_writeCallAndTests_78 (by decide) ?_
      apply a_callV (ci := 2) 1 21 [_, _] _ d_W_writeCallAndTests_79 l_W_77 ⟨im_P_testPart, se_P_testPart⟩ rfl rfl rfl rfl (Nat.le_of_ble_eq_true rfl) ⟨Nat.le_of_ble_eq_true rfl, Nat.le_of_ble_eq_true rfl⟩
      · (repeat (first | with_reducible assumption | with_reducible exact a_us | with_reducible exact a_ns | refine a_un (by first | with_reducible assumption | omega) ?_ | refine a_nn (by first | with_reducible assumption | omega | (simp only [a_upd_1, a_new_1]; omega)) ?_ | exact a_us | exact a_ns))
      refine sp_P_testPart hP ?_
      refine a_iconst (v := 1) d_W_writeCallAndTests_82 (by decide) ?_
      refine a_icmp_ne (tgt := 90) d_W_writeCallAndTests_83 (by decide) (fun c_2 => ?_) (fun n9 => absurd n9 (hm))
      refine a_iconst (v := 0) d_W_writeCallAndTests_90 (by decide) ?_
      refine a_istore d_W_writeCallAndTests_91 (by decide) ?_
      refine a_aload_n d_W_writeCallAndTests_93 rfl rfl ?_
      refine a_iload d_W_writeCallAndTests_94 rfl ?_
      refine a_if_eq (tgt := 104) d_W_writeCallAndTests_96 (by decide) (fun c_3 => ?_) (fun n9 => absurd (rfl) n9)
      refine a_ldcS 22 d_W_writeCallAndTests_104 (by decide) rfl rfl ?_
      apply a_callV (ci := 3) 4 85 [_] _ d_W_writeCallAndTests_106 l_W_25 ⟨im_W_writeText, se_W_writeText⟩ rfl rfl rfl rfl (Nat.le_of_ble_eq_true rfl) ⟨Nat.le_of_ble_eq_true rfl, Nat.le_of_ble_eq_true rfl⟩
      · (repeat (first | with_reducible assumption | with_reducible exact a_us | with_reducible exact a_ns | refine a_un (by first | with_reducible assumption | omega) ?_ | refine a_nn (by first | with_reducible assumption | omega | (simp only [a_upd_1, a_new_1]; omega)) ?_ | exact a_us | exact a_ns))
      refine sp_W_writeText (by decide) hdis hW (fun τ hf hW => ?_)
      have hP := hP.fw hf hd1 hd2
      have hF := hF.trans hf
      obtain ⟨hW0, hB⟩ := id hW
      obtain ⟨hP0, hPr⟩ := id hP
      refine a_aload_n d_W_writeCallAndTests_109 rfl rfl ?_
      refine a_iload d_W_writeCallAndTests_110 rfl ?_
      apply a_callV (ci := 3) 5 107 [_] _ d_W_writeCallAndTests_112 l_W_82 ⟨im_W_writeTest, se_W_writeTest⟩ rfl rfl rfl rfl (Nat.le_of_ble_eq_true rfl) ⟨Nat.le_of_ble_eq_true rfl, Nat.le_of_ble_eq_true rfl⟩
      · (repeat (first | with_reducible assumption | with_reducible exact a_us | with_reducible exact a_ns | refine a_un (by first | with_reducible assumption | omega) ?_ | refine a_nn (by first | with_reducible assumption | omega | (simp only [a_upd_1, a_new_1]; omega)) ?_ | exact a_us | exact a_ns))
      refine sp_W_writeTest hdis hd1 hd2 hP hW (fun τ hf hW => ?_)
      have hP := hP.fw hf hd1 hd2
      have hF := hF.trans hf
      obtain ⟨hW0, hB⟩ := id hW
      obtain ⟨hP0, hPr⟩ := id hP
      refine a_aload_n d_W_writeCallAndTests_115 rfl rfl ?_
      refine a_iload d_W_writeCallAndTests_116 rfl ?_
      refine a_if_eq (tgt := 126) d_W_writeCallAndTests_118 (by decide) (fun c_4 => ?_) (fun n9 => absurd (rfl) n9)
      refine a_ldcS 33 d_W_writeCallAndTests_126 (by decide) rfl rfl ?_
      apply a_callV (ci := 3) 4 85 [_] _ d_W_writeCallAndTests_128 l_W_25 ⟨im_W_writeText, se_W_writeText⟩ rfl rfl rfl rfl (Nat.le_of_ble_eq_true rfl) ⟨Nat.le_of_ble_eq_true rfl, Nat.le_of_ble_eq_true rfl⟩
      · (repeat (first | with_reducible assumption | with_reducible exact a_us | with_reducible exact a_ns | refine a_un (by first | with_reducible assumption | omega) ?_ | refine a_nn (by first | with_reducible assumption | omega | (simp only [a_upd_1, a_new_1]; omega)) ?_ | exact a_us | exact a_ns))
      refine sp_W_writeText (by decide) hdis hW (fun τ hf hW => ?_)
      have hP := hP.fw hf hd1 hd2
      have hF := hF.trans hf
      obtain ⟨hW0, hB⟩ := id hW
      obtain ⟨hP0, hPr⟩ := id hP
      refine a_iinc (c0 := 1) d_W_writeCallAndTests_131 rfl (by decide) (by decide) ?_
      refine a_goto (tgt := 51) d_W_writeCallAndTests_134 (by decide) ?_
      refine a_lvk (ih (i + 1) hP hW (by omega) (fun υ hf2 hW3 => ?_)) ⟨rfl, rfl, rfl, rfl, rfl, by rw [← nI_1]; rfl, trivial⟩
      rw [tlB, if_neg hm] at hK
      simp only [putL_app] at hK
      exact hK υ (hF.trans hf2) hW3

set_option maxHeartbeats 4000000 in
set_option maxRecDepth 100000 in
theorem sp_W_callTests {v k j : Int32} {t : Nat} (hdis : w < o ∨ o + 1 < w) (hd1 : w < p ∨ p + 11 ≤ w) (hd2 : o + 1 < p ∨ p + 11 ≤ o) (ht1 : clpart q v k j 1 = nI t) (ht : t ≤ 4) (hP : PO σ p q) (hW : WR σ w p o cap s) (hK : ∀ τ, a_fw σ τ w o → WR τ w p o cap (putL cap s (ctB q v k j t)) → K none τ) : a_C G m_W_writeCallAndTests 6 130 [.ref w, .int v, .int k, .int j] σ K := by
  have hF : a_fw σ σ w o := a_fw.rf
  obtain ⟨hW0, hB⟩ := id hW
  obtain ⟨hP0, hPr⟩ := id hP
  refine a_enter rfl (Nat.le_of_ble_eq_true rfl) ?_
  refine a_aload_n d_W_writeCallAndTests_0 rfl rfl ?_
  apply a_getfield d_W_writeCallAndTests_1 f_W_9
  · (repeat (first | with_reducible assumption | with_reducible exact a_us | with_reducible exact a_ns | refine a_un (by first | with_reducible assumption | omega) ?_ | refine a_nn (by first | with_reducible assumption | omega | (simp only [a_upd_1, a_new_1]; omega)) ?_ | exact a_us | exact a_ns))
  · rfl
  refine a_iload_n d_W_writeCallAndTests_4 rfl rfl ?_
  refine a_iload_n d_W_writeCallAndTests_5 rfl rfl ?_
  refine a_iload_n d_W_writeCallAndTests_6 rfl rfl ?_
  refine a_iconst (v := 0) d_W_writeCallAndTests_7 (by decide) ?_
  apply a_callV (ci := 2) 2 46 [_, _, _, _] _ d_W_writeCallAndTests_8 l_W_49 ⟨im_P_clausePart, se_P_clausePart⟩ rfl rfl rfl rfl (Nat.le_of_ble_eq_true rfl) ⟨Nat.le_of_ble_eq_true rfl, Nat.le_of_ble_eq_true rfl⟩
  · (repeat (first | with_reducible assumption | with_reducible exact a_us | with_reducible exact a_ns | refine a_un (by first | with_reducible assumption | omega) ?_ | refine a_nn (by first | with_reducible assumption | omega | (simp only [a_upd_1, a_new_1]; omega)) ?_ | exact a_us | exact a_ns))
  refine sp_P_clausePart hP ?_
  refine a_istore d_W_writeCallAndTests_11 (by decide) ?_
  refine a_iload d_W_writeCallAndTests_13 rfl ?_
  refine a_bipush (v := 16) d_W_writeCallAndTests_15 (by decide) ?_
  refine a_icmp_ne (tgt := 29) d_W_writeCallAndTests_17 (by decide) (fun c_1 => ?_) (fun c_1 => ?_)
  · refine a_aload_n d_W_writeCallAndTests_29 rfl rfl ?_
    refine a_iload d_W_writeCallAndTests_30 rfl ?_
    apply a_callV (ci := 3) 2 46 [_] _ d_W_writeCallAndTests_32 l_W_45 ⟨im_W_writeNumber, se_W_writeNumber⟩ rfl rfl rfl rfl (Nat.le_of_ble_eq_true rfl) ⟨Nat.le_of_ble_eq_true rfl, Nat.le_of_ble_eq_true rfl⟩
    · (repeat (first | with_reducible assumption | with_reducible exact a_us | with_reducible exact a_ns | refine a_un (by first | with_reducible assumption | omega) ?_ | refine a_nn (by first | with_reducible assumption | omega | (simp only [a_upd_1, a_new_1]; omega)) ?_ | exact a_us | exact a_ns))
    refine sp_W_writeNumber hdis hW (fun τ hf hW => ?_)
    have hP := hP.fw hf hd1 hd2
    have hF := hF.trans hf
    obtain ⟨hW0, hB⟩ := id hW
    obtain ⟨hP0, hPr⟩ := id hP
    refine a_aload_n d_W_writeCallAndTests_35 rfl rfl ?_
    apply a_getfield d_W_writeCallAndTests_36 f_W_9
    · (repeat (first | with_reducible assumption | with_reducible exact a_us | with_reducible exact a_ns | refine a_un (by first | with_reducible assumption | omega) ?_ | refine a_nn (by first | with_reducible assumption | omega | (simp only [a_upd_1, a_new_1]; omega)) ?_ | exact a_us | exact a_ns))
    · rfl
    refine a_iload_n d_W_writeCallAndTests_39 rfl rfl ?_
    refine a_iload_n d_W_writeCallAndTests_40 rfl rfl ?_
    refine a_iload_n d_W_writeCallAndTests_41 rfl rfl ?_
    refine a_iconst (v := 1) d_W_writeCallAndTests_42 (by decide) ?_
    apply a_callV (ci := 2) 2 46 [_, _, _, _] _ d_W_writeCallAndTests_43 l_W_49 ⟨im_P_clausePart, se_P_clausePart⟩ rfl rfl rfl rfl (Nat.le_of_ble_eq_true rfl) ⟨Nat.le_of_ble_eq_true rfl, Nat.le_of_ble_eq_true rfl⟩
    · (repeat (first | with_reducible assumption | with_reducible exact a_us | with_reducible exact a_ns | refine a_un (by first | with_reducible assumption | omega) ?_ | refine a_nn (by first | with_reducible assumption | omega | (simp only [a_upd_1, a_new_1]; omega)) ?_ | exact a_us | exact a_ns))
    refine sp_P_clausePart hP ?_
    rw [ht1]
    refine a_istore d_W_writeCallAndTests_46 (by decide) ?_
    refine a_iconst (v := 0) d_W_writeCallAndTests_48 (by decide) ?_
    refine a_istore d_W_writeCallAndTests_49 (by decide) ?_
    simp only [ctB, if_neg c_1, if_true, putL_app] at hK
    exact a_lvk (lp_W_tests hdis hd1 hd2 ht t 0 hP hW (by omega) (fun υ hf2 hW3 => hK υ (hF.trans hf2) hW3)) ⟨rfl, rfl, rfl, rfl, rfl, rfl, trivial⟩
  · refine a_aload_n d_W_writeCallAndTests_20 rfl rfl ?_
    refine a_ldcS 25 d_W_writeCallAndTests_21 (by decide) rfl rfl ?_
    apply a_callV (ci := 3) 4 85 [_] _ d_W_writeCallAndTests_23 l_W_25 ⟨im_W_writeText, se_W_writeText⟩ rfl rfl rfl rfl (Nat.le_of_ble_eq_true rfl) ⟨Nat.le_of_ble_eq_true rfl, Nat.le_of_ble_eq_true rfl⟩
    · (repeat (first | with_reducible assumption | with_reducible exact a_us | with_reducible exact a_ns | refine a_un (by first | with_reducible assumption | omega) ?_ | refine a_nn (by first | with_reducible assumption | omega | (simp only [a_upd_1, a_new_1]; omega)) ?_ | exact a_us | exact a_ns))
    refine sp_W_writeText (by decide) hdis hW (fun τ hf hW => ?_)
    have hP := hP.fw hf hd1 hd2
    have hF := hF.trans hf
    obtain ⟨hW0, hB⟩ := id hW
    obtain ⟨hP0, hPr⟩ := id hP
    refine a_goto (tgt := 35) d_W_writeCallAndTests_26 (by decide) ?_
    refine a_aload_n d_W_writeCallAndTests_35 rfl rfl ?_
    apply a_getfield d_W_writeCallAndTests_36 f_W_9
    · (repeat (first | with_reducible assumption | with_reducible exact a_us | with_reducible exact a_ns | refine a_un (by first | with_reducible assumption | omega) ?_ | refine a_nn (by first | with_reducible assumption | omega | (simp only [a_upd_1, a_new_1]; omega)) ?_ | exact a_us | exact a_ns))
    · rfl
    refine a_iload_n d_W_writeCallAndTests_39 rfl rfl ?_
    refine a_iload_n d_W_writeCallAndTests_40 rfl rfl ?_
    refine a_iload_n d_W_writeCallAndTests_41 rfl rfl ?_
    refine a_iconst (v := 1) d_W_writeCallAndTests_42 (by decide) ?_
    apply a_callV (ci := 2) 2 46 [_, _, _, _] _ d_W_writeCallAndTests_43 l_W_49 ⟨im_P_clausePart, se_P_clausePart⟩ rfl rfl rfl rfl (Nat.le_of_ble_eq_true rfl) ⟨Nat.le_of_ble_eq_true rfl, Nat.le_of_ble_eq_true rfl⟩
    · (repeat (first | with_reducible assumption | with_reducible exact a_us | with_reducible exact a_ns | refine a_un (by first | with_reducible assumption | omega) ?_ | refine a_nn (by first | with_reducible assumption | omega | (simp only [a_upd_1, a_new_1]; omega)) ?_ | exact a_us | exact a_ns))
    refine sp_P_clausePart hP ?_
    rw [ht1]
    refine a_istore d_W_writeCallAndTests_46 (by decide) ?_
    refine a_iconst (v := 0) d_W_writeCallAndTests_48 (by decide) ?_
    refine a_istore d_W_writeCallAndTests_49 (by decide) ?_
    simp only [ctB, if_pos c_1, if_true, putL_app] at hK
    exact a_lvk (lp_W_tests hdis hd1 hd2 ht t 0 hP hW (by omega) (fun υ hf2 hW3 => hK υ (hF.trans hf2) hW3)) ⟨rfl, rfl, rfl, rfl, rfl, rfl, trivial⟩

end ModW5
