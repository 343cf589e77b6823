/-! PRINTER, fourth part: a test -/
theorem PO.fw {σ τ : aS} {p w o : Nat} {q : aP} (h : PO σ p q) (hf : a_fw σ τ w o) (h1 : w < p ∨ p + 11 ≤ w) (h2 : o + 1 < p ∨ p + 11 ≤ o) : PO τ p q := by
  obtain ⟨h0, g1, g2, g3, g4, g5, g6, g7, g8, g9, g10, hI⟩ := h
  exact ⟨(hf.2.2 p (by omega) (by omega) (by omega)).trans h0, (hf.2.2 (p + 1) (by omega) (by omega) (by omega)).trans g1, (hf.2.2 (p + 2) (by omega) (by omega) (by omega)).trans g2, (hf.2.2 (p + 3) (by omega) (by omega) (by omega)).trans g3, (hf.2.2 (p + 4) (by omega) (by omega) (by omega)).trans g4, (hf.2.2 (p + 5) (by omega) (by omega) (by omega)).trans g5, (hf.2.2 (p + 6) (by omega) (by omega) (by omega)).trans g6, (hf.2.2 (p + 7) (by omega) (by omega) (by omega)).trans g7, (hf.2.2 (p + 8) (by omega) (by omega) (by omega)).trans g8, (hf.2.2 (p + 9) (by omega) (by omega) (by omega)).trans g9, (hf.2.2 (p + 10) (by omega) (by omega) (by omega)).trans g10, hI⟩
/-- a test's bytes -/
def tsB (q : aP) (r : Int32) : List Nat := (if tpart q r 0 = 1 then jS 27 ++ nmL (nmf q 0 (tpart q r 1)) 12 else jS 28 ++ numB (tpart q r 1)) ++ ((if tpart q r 2 = 0 then jS 29 else if tpart q r 2 = 1 then jS 30 else jS 31) ++ (numB (bnd q r) ++ jS 32))
section ModW4
variable {G : aG} {σ : aS} {K : Option Value → aS → Prop} {w p o cap : Nat} {s : aW} {q : aP}
set_option maxHeartbeats 4000000 in
set_option maxRecDepth 100000 in
theorem sp_W_writeTest {r : Int32} (hdis : w < o ∨ o + 1 < w) (hd1 : w < p ∨ p + 11 ≤ w) (hd2 : o + 1 < p ∨ p + 11 ≤ o) (hP : PO σ p q) (hW : WR σ w p o cap s) (hK : ∀ τ, a_fw σ τ w o → WR τ w p o cap (putL cap s (tsB q r)) → K none τ) : a_C G m_W_writeTest 5 107 [.ref w, .int r] σ K := by
  have hF : a_fw σ σ w o := a_fw.rf
  obtain ⟨hW0, hB⟩ := id hW
  obtain ⟨hP0, hPr⟩ := id hP
  refine a_enter rfl (Nat.le_of_ble_eq_true rfl) ?_
  refine a_aload_n d_W_writeTest_0 rfl rfl ?_
  apply a_getfield d_W_writeTest_1 f_W_9
  · (repeat (first | with_reducible assumption | with_reducible exact a_us | with_reducible exact a_ns | refine a_un (by first | with_reducible assumption | omega) ?_ | refine a_nn (by first | with_reducible assumption | omega | (simp only [a_upd_1, a_new_1]; omega)) ?_ | exact a_us | exact a_ns))
  · rfl
  refine a_iload_n d_W_writeTest_4 rfl rfl ?_
  refine a_iconst (v := 1) d_W_writeTest_5 (by decide) ?_
  apply a_callV (ci := 2) 1 21 [_, _] _ d_W_writeTest_6 l_W_77 ⟨im_P_testPart, se_P_testPart⟩ rfl rfl rfl rfl (Nat.le_of_ble_eq_true rfl) ⟨Nat.le_of_ble_eq_true rfl, Nat.le_of_ble_eq_true rfl⟩
  · (repeat (first | with_reducible assumption | with_reducible exact a_us | with_reducible exact a_ns | refine a_un (by first | with_reducible assumption | omega) ?_ | refine a_nn (by first | with_reducible assumption | omega | (simp only [a_upd_1, a_new_1]; omega)) ?_ | exact a_us | exact a_ns))
  refine sp_P_testPart hP ?_
  refine a_istore_n d_W_writeTest_9 rfl (by decide) ?_
  refine a_aload_n d_W_writeTest_10 rfl rfl ?_
  apply a_getfield d_W_writeTest_11 f_W_9
  · (repeat (first | with_reducible assumption | with_reducible exact a_us | with_reducible exact a_ns | refine a_un (by first | with_reducible assumption | omega) ?_ | refine a_nn (by first | with_reducible assumption | omega | (simp only [a_upd_1, a_new_1]; omega)) ?_ | exact a_us | exact a_ns))
  · rfl
  refine a_iload_n d_W_writeTest_14 rfl rfl ?_
  refine a_iconst (v := 0) d_W_writeTest_15 (by decide) ?_
  apply a_callV (ci := 2) 1 21 [_, _] _ d_W_writeTest_16 l_W_77 ⟨im_P_testPart, se_P_testPart⟩ rfl rfl rfl rfl (Nat.le_of_ble_eq_true rfl) ⟨Nat.le_of_ble_eq_true rfl, Nat.le_of_ble_eq_true rfl⟩
  · (repeat (first | with_reducible assumption | with_reducible exact a_us | with_reducible exact a_ns | refine a_un (by first | with_reducible assumption | omega) ?_ | refine a_nn (by first | with_reducible assumption | omega | (simp only [a_upd_1, a_new_1]; omega)) ?_ | exact a_us | exact a_ns))
  refine sp_P_testPart hP ?_
  refine a_iconst (v := 1) d_W_writeTest_19 (by decide) ?_
  refine a_icmp_ne (tgt := 45) d_W_writeTest_20 (by decide) (fun c_1 => ?_) (fun c_1 => ?_)
  · refine a_aload_n d_W_writeTest_45 rfl rfl ?_
    refine a_ldcS 28 d_W_writeTest_46 (by decide) rfl rfl ?_
    apply a_callV (ci := 3) 4 85 [_] _ d_W_writeTest_48 l_W_25 ⟨im_W_writeText, se_W_writeText⟩ rfl rfl rfl rfl (Nat.le_of_ble_eq_true rfl) ⟨Nat.le_of_ble_eq_true rfl, Nat.le_of_ble_eq_true rfl⟩
    · (repeat (first | with_reducible assumption | with_reducible exact a_us | with_reducible exact a_ns | refine a_un (by first | with_reducible assumption | omega) ?_ | refine a_nn (by first | with_reducible assumption | omega | (simp only [a_upd_1, a_new_1]; omega)) ?_ | exact a_us | exact a_ns))
    refine sp_W_writeText (by decide) hdis hW (fun τ hf hW => ?_)
    have hP := hP.fw hf hd1 hd2
    have hF := hF.trans hf
    obtain ⟨hW0, hB⟩ := id hW
    obtain ⟨hP0, hPr⟩ := id hP
    refine a_aload_n d_W_writeTest_51 rfl rfl ?_
    refine a_iload_n d_W_writeTest_52 rfl rfl ?_
    apply a_callV (ci := 3) 2 46 [_] _ d_W_writeTest_53 l_W_45 ⟨im_W_writeNumber, se_W_writeNumber⟩ rfl rfl rfl rfl (Nat.le_of_ble_eq_true rfl) ⟨Nat.le_of_ble_eq_true rfl, Nat.le_of_ble_eq_true rfl⟩
    · (repeat (first | with_reducible assumption | with_reducible exact a_us | with_reducible exact a_ns | refine a_un (by first | with_reducible assumption | omega) ?_ | refine a_nn (by first | with_reducible assumption | omega | (simp only [a_upd_1, a_new_1]; omega)) ?_ | exact a_us | exact a_ns))
    refine sp_W_writeNumber hdis hW (fun τ hf hW => ?_)
    have hP := hP.fw hf hd1 hd2
    have hF := hF.trans hf
    obtain ⟨hW0, hB⟩ := id hW
    obtain ⟨hP0, hPr⟩ := id hP
    refine a_aload_n d_W_writeTest_56 rfl rfl ?_
    apply a_getfield d_W_writeTest_57 f_W_9
    · (repeat (first | with_reducible assumption | with_reducible exact a_us | with_reducible exact a_ns | refine a_un (by first | with_reducible assumption | omega) ?_ | refine a_nn (by first | with_reducible assumption | omega | (simp only [a_upd_1, a_new_1]; omega)) ?_ | exact a_us | exact a_ns))
    · rfl
    refine a_iload_n d_W_writeTest_60 rfl rfl ?_
    refine a_iconst (v := 2) d_W_writeTest_61 (by decide) ?_
    apply a_callV (ci := 2) 1 21 [_, _] _ d_W_writeTest_62 l_W_77 ⟨im_P_testPart, se_P_testPart⟩ rfl rfl rfl rfl (Nat.le_of_ble_eq_true rfl) ⟨Nat.le_of_ble_eq_true rfl, Nat.le_of_ble_eq_true rfl⟩
    · (repeat (first | with_reducible assumption | with_reducible exact a_us | with_reducible exact a_ns | refine a_un (by first | with_reducible assumption | omega) ?_ | refine a_nn (by first | with_reducible assumption | omega | (simp only [a_upd_1, a_new_1]; omega)) ?_ | exact a_us | exact a_ns))
    refine sp_P_testPart hP ?_
    refine a_istore_n d_W_writeTest_65 rfl (by decide) ?_
    refine a_aload_n d_W_writeTest_66 rfl rfl ?_
    refine a_iload_n d_W_writeTest_67 rfl rfl ?_
    refine a_if_ne (tgt := 76) d_W_writeTest_68 (by decide) (fun c_2 => ?_) (fun c_2 => ?_)
    · refine a_iload_n d_W_writeTest_76 rfl rfl ?_
      refine a_iconst (v := 1) d_W_writeTest_77 (by decide) ?_
      refine a_icmp_ne (tgt := 86) d_W_writeTest_78 (by decide) (fun c_3 => ?_) (fun c_3 => ?_)
      · refine a_ldcS 31 d_W_writeTest_86 (by decide) rfl rfl ?_
        apply a_callV (ci := 3) 4 85 [_] _ d_W_writeTest_88 l_W_25 ⟨im_W_writeText, se_W_writeText⟩ rfl rfl rfl rfl (Nat.le_of_ble_eq_true rfl) ⟨Nat.le_of_ble_eq_true rfl, Nat.le_of_ble_eq_true rfl⟩
        · (repeat (first | with_reducible assumption | with_reducible exact a_us | with_reducible exact a_ns | refine a_un (by first | with_reducible assumption | omega) ?_ | refine a_nn (by first | with_reducible assumption | omega | (simp only [a_upd_1, a_new_1]; omega)) ?_ | exact a_us | exact a_ns))
        refine sp_W_writeText (by decide) hdis hW (fun τ hf hW => ?_)
        have hP := hP.fw hf hd1 hd2
        have hF := hF.trans hf
        obtain ⟨hW0, hB⟩ := id hW
        obtain ⟨hP0, hPr⟩ := id hP
        refine a_aload_n d_W_writeTest_91 rfl rfl ?_
        refine a_aload_n d_W_writeTest_92 rfl rfl ?_
        apply a_getfield d_W_writeTest_93 f_W_9
        · (repeat (first | with_reducible assumption | with_reducible exact a_us | with_reducible exact a_ns | refine a_un (by first | with_reducible assumption | omega) ?_ | refine a_nn (by first | with_reducible assumption | omega | (simp only [a_upd_1, a_new_1]; omega)) ?_ | exact a_us | exact a_ns))
        · rfl
        refine a_iload_n d_W_writeTest_96 rfl rfl ?_
        apply a_callV (ci := 2) 0 0 [_] _ d_W_writeTest_97 l_W_97 ⟨im_P_boundOf, se_P_boundOf⟩ rfl rfl rfl rfl (Nat.le_of_ble_eq_true rfl) ⟨Nat.le_of_ble_eq_true rfl, Nat.le_of_ble_eq_true rfl⟩
        · (repeat (first | with_reducible assumption | with_reducible exact a_us | with_reducible exact a_ns | refine a_un (by first | with_reducible assumption | omega) ?_ | refine a_nn (by first | with_reducible assumption | omega | (simp only [a_upd_1, a_new_1]; omega)) ?_ | exact a_us | exact a_ns))
        refine sp_P_boundOf hP ?_
        apply a_callV (ci := 3) 2 46 [_] _ d_W_writeTest_100 l_W_45 ⟨im_W_writeNumber, se_W_writeNumber⟩ rfl rfl rfl rfl (Nat.le_of_ble_eq_true rfl) ⟨Nat.le_of_ble_eq_true rfl, Nat.le_of_ble_eq_true rfl⟩
        · (repeat (first | with_reducible assumption | with_reducible exact a_us | with_reducible exact a_ns | refine a_un (by first | with_reducible assumption | omega) ?_ | refine a_nn (by first | with_reducible assumption | omega | (simp only [a_upd_1, a_new_1]; omega)) ?_ | exact a_us | exact a_ns))
        refine sp_W_writeNumber hdis hW (fun τ hf hW => ?_)
        have hP := hP.fw hf hd1 hd2
        have hF := hF.trans hf
        obtain ⟨hW0, hB⟩ := id hW
        obtain ⟨hP0, hPr⟩ := id hP
        refine a_aload_n d_W_writeTest_103 rfl rfl ?_
        refine a_ldcS 32 d_W_writeTest_104 (by decide) rfl rfl ?_
        apply a_callV (ci := 3) 4 85 [_] _ d_W_writeTest_106 l_W_25 ⟨im_W_writeText, se_W_writeText⟩ rfl rfl rfl rfl (Nat.le_of_ble_eq_true rfl) ⟨Nat.le_of_ble_eq_true rfl, Nat.le_of_ble_eq_true rfl⟩
        · (repeat (first | with_reducible assumption | with_reducible exact a_us | with_reducible exact a_ns | refine a_un (by first | with_reducible assumption | omega) ?_ | refine a_nn (by first | with_reducible assumption | omega | (simp only [a_upd_1, a_new_1]; omega)) ?_ | exact a_us | exact a_ns))
        refine sp_W_writeText (by decide) hdis hW (fun τ hf hW => ?_)
        have hP := hP.fw hf hd1 hd2
        have hF := hF.trans hf
        obtain ⟨hW0, hB⟩ := id hW
        obtain ⟨hP0, hPr⟩ := id hP
        refine a_return d_W_writeTest_109 rfl ?_
        simp only [tsB, if_neg c_1, if_neg c_2, if_neg c_3, if_true, putL_app] at hK
        exact hK _ hF hW
      · refine a_ldcS 30 d_W_writeTest_81 (by decide) rfl rfl ?_
        refine a_goto (tgt := 88) d_W_writeTest_83 (by decide) ?_
        apply a_callV (ci := 3) 4 85 [_] _ d_W_writeTest_88 l_W_25 ⟨im_W_writeText, se_W_writeText⟩ rfl rfl rfl rfl (Nat.le_of_ble_eq_true rfl) ⟨Nat.le_of_ble_eq_true rfl, Nat.le_of_ble_eq_true rfl⟩
        · (repeat (first | with_reducible assumption | with_reducible exact a_us | with_reducible exact a_ns | refine a_un (by first | with_reducible assumption | omega) ?_ | refine a_nn (by first | with_reducible assumption | omega | (simp only [a_upd_1, a_new_1]; omega)) ?_ | exact a_us | exact a_ns))
        refine sp_W_writeText (by decide) hdis hW (fun τ hf hW => ?_)
        have hP := hP.fw hf hd1 hd2
        have hF := hF.trans hf
        obtain ⟨hW0, hB⟩ := id hW
        obtain ⟨hP0, hPr⟩ := id hP
        refine a_aload_n d_W_writeTest_91 rfl rfl ?_
        refine a_aload_n d_W_writeTest_92 rfl rfl ?_
        apply a_getfield d_W_writeTest_93 f_W_9
        · (repeat (first | with_reducible assumption | with_reducible exact a_us | with_reducible exact a_ns | refine a_un (by first | with_reducible assumption | omega) ?_ | refine a_nn (by first | with_reducible assumption | omega | (simp only [a_upd_1, a_new_1]; omega)) ?_ | exact a_us | exact a_ns))
        · rfl
        refine a_iload_n d_W_writeTest_96 rfl rfl ?_
        apply a_callV (ci := 2) 0 0 [_] _ d_W_writeTest_97 l_W_97 ⟨im_P_boundOf, se_P_boundOf⟩ rfl rfl rfl rfl (Nat.le_of_ble_eq_true rfl) ⟨Nat.le_of_ble_eq_true rfl, Nat.le_of_ble_eq_true rfl⟩
        · (repeat (first | with_reducible assumption | with_reducible exact a_us | with_reducible exact a_ns | refine a_un (by first | with_reducible assumption | omega) ?_ | refine a_nn (by first | with_reducible assumption | omega | (simp only [a_upd_1, a_new_1]; omega)) ?_ | exact a_us | exact a_ns))
        refine sp_P_boundOf hP ?_
        apply a_callV (ci := 3) 2 46 [_] _ d_W_writeTest_100 l_W_45 ⟨im_W_writeNumber, se_W_writeNumber⟩ rfl rfl rfl rfl (Nat.le_of_ble_eq_true rfl) ⟨Nat.le_of_ble_eq_true rfl, Nat.le_of_ble_eq_true rfl⟩
        · (repeat (first | with_reducible assumption | with_reducible exact a_us | with_reducible exact a_ns | refine a_un (by first | with_reducible assumption | omega) ?_ | refine a_nn (by first | with_reducible assumption | omega | (simp only [a_upd_1, a_new_1]; omega)) ?_ | exact a_us | exact a_ns))
        refine sp_W_writeNumber hdis hW (fun τ hf hW => ?_)
        have hP := hP.fw hf hd1 hd2
        have hF := hF.trans hf
        obtain ⟨hW0, hB⟩ := id hW
        obtain ⟨hP0, hPr⟩ := id hP
        refine a_aload_n d_W_writeTest_103 rfl rfl ?_
        refine a_ldcS 32 d_W_writeTest_104 (by decide) rfl rfl ?_
        apply a_callV (ci := 3) 4 85 [_] _ d_W_writeTest_106 l_W_25 ⟨im_W_writeText, se_W_writeText⟩ rfl rfl rfl rfl (Nat.le_of_ble_eq_true rfl) ⟨Nat.le_of_ble_eq_true rfl, Nat.le_of_ble_eq_true rfl⟩
        · (repeat (first | with_reducible assumption | with_reducible exact a_us | with_reducible exact a_ns | refine a_un (by first | with_reducible assumption | omega) ?_ | refine a_nn (by first | with_reducible assumption | omega | (simp only [a_upd_1, a_new_1]; omega)) ?_ | exact a_us | exact a_ns))
        refine sp_W_writeText (by decide) hdis hW (fun τ hf hW => ?_)
        have hP := hP.fw hf hd1 hd2
        have hF := hF.trans hf
        obtain ⟨hW0, hB⟩ := id hW
        obtain ⟨hP0, hPr⟩ := id hP
        refine a_return d_W_writeTest_109 rfl ?_
        simp only [tsB, if_neg c_1, if_neg c_2, if_pos c_3, if_true, putL_app] at hK
        exact hK _ hF hW
    · refine a_ldcS 29 d_W_writeTest_71 (by decide) rfl rfl ?_
      refine a_goto (tgt := 88) d_W_writeTest_73 (by decide) ?_
      apply a_callV (ci := 3) 4 85 [_] _ d_W_writeTest_88 l_W_25 ⟨im_W_writeText, se_W_writeText⟩ rfl rfl rfl rfl (Nat.le_of_ble_eq_true rfl) ⟨Nat.le_of_ble_eq_true rfl, Nat.le_of_ble_eq_true rfl⟩
      · (repeat (first | with_reducible assumption | with_reducible exact a_us | with_reducible exact a_ns | refine a_un (by first | with_reducible assumption | omega) ?_ | refine a_nn (by first | with_reducible assumption | omega | (simp only [a_upd_1, a_new_1]; omega)) ?_ | exact a_us | exact a_ns))
      refine sp_W_writeText (by decide) hdis hW (fun τ hf hW => ?_)
      have hP := hP.fw hf hd1 hd2
      have hF := hF.trans hf
      obtain ⟨hW0, hB⟩ := id hW
      obtain ⟨hP0, hPr⟩ := id hP
      refine a_aload_n d_W_writeTest_91 rfl rfl ?_
      refine a_aload_n d_W_writeTest_92 rfl rfl ?_
      apply a_getfield d_W_writeTest_93 f_W_9
      · (repeat (first | with_reducible assumption | with_reducible exact a_us | with_reducible exact a_ns | refine a_un (by first | with_reducible assumption | omega) ?_ | refine a_nn (by first | with_reducible assumption | omega | (simp only [a_upd_1, a_new_1]; omega)) ?_ | exact a_us | exact a_ns))
      · rfl
      refine a_iload_n d_W_writeTest_96 rfl rfl ?_
      apply a_callV (ci := 2) 0 0 [_] _ d_W_writeTest_97 l_W_97 ⟨im_P_boundOf, se_P_boundOf⟩ rfl rfl rfl rfl (Nat.le_of_ble_eq_true rfl) ⟨Nat.le_of_ble_eq_true rfl, Nat.le_of_ble_eq_true rfl⟩
      · (repeat (first | with_reducible assumption | with_reducible exact a_us | with_reducible exact a_ns | refine a_un (by first | with_reducible assumption | omega) ?_ | refine a_nn (by first | with_reducible assumption | omega | (simp only [a_upd_1, a_new_1]; omega)) ?_ | exact a_us | exact a_ns))
      refine sp_P_boundOf hP ?_
      apply a_callV (ci := 3) 2 46 [_] _ d_W_writeTest_100 l_W_45 ⟨im_W_writeNumber, se_W_writeNumber⟩ rfl rfl rfl rfl (Nat.le_of_ble_eq_true rfl) ⟨Nat.le_of_ble_eq_true rfl, Nat.le_of_ble_eq_true rfl⟩
      · (repeat (first | with_reducible assumption | with_reducible exact a_us | with_reducible exact a_ns | refine a_un (by first | with_reducible assumption | omega) ?_ | refine a_nn (by first | with_reducible assumption | omega | (simp only [a_upd_1, a_new_1]; omega)) ?_ | exact a_us | exact a_ns))
      refine sp_W_writeNumber hdis hW (fun τ hf hW => ?_)
      have hP := hP.fw hf hd1 hd2
      have hF := hF.trans hf
      obtain ⟨hW0, hB⟩ := id hW
      obtain ⟨hP0, hPr⟩ := id hP
      refine a_aload_n d_W_writeTest_103 rfl rfl ?_
      refine a_ldcS 32 d_W_writeTest_104 (by decide) rfl rfl ?_
      apply a_callV (ci := 3) 4 85 [_] _ d_W_writeTest_106 l_W_25 ⟨im_W_writeText, se_W_writeText⟩ rfl rfl rfl rfl (Nat.le_of_ble_eq_true rfl) ⟨Nat.le_of_ble_eq_true rfl, Nat.le_of_ble_eq_true rfl⟩
      · (repeat (first | with_reducible assumption | with_reducible exact a_us | with_reducible exact a_ns | refine a_un (by first | with_reducible assumption | omega) ?_ | refine a_nn (by first | with_reducible assumption | omega | (simp only [a_upd_1, a_new_1]; omega)) ?_ | exact a_us | exact a_ns))
      refine sp_W_writeText (by decide) hdis hW (fun τ hf hW => ?_)
      have hP := hP.fw hf hd1 hd2
      have hF := hF.trans hf
      obtain ⟨hW0, hB⟩ := id hW
      obtain ⟨hP0, hPr⟩ := id hP
      refine a_return d_W_writeTest_109 rfl ?_
      simp only [tsB, if_neg c_1, if_pos c_2, if_true, putL_app] at hK
      exact hK _ hF hW
  · refine a_aload_n d_W_writeTest_23 rfl rfl ?_
    refine a_ldcS 27 d_W_writeTest_24 (by decide) rfl rfl ?_
    apply a_callV (ci := 3) 4 85 [_] _ d_W_writeTest_26 l_W_25 ⟨im_W_writeText, se_W_writeText⟩ rfl rfl rfl rfl (Nat.le_of_ble_eq_true rfl) ⟨Nat.le_of_ble_eq_true rfl, Nat.le_of_ble_eq_true rfl⟩
    · (repeat (first | with_reducible assumption | with_reducible exact a_us | with_reducible exact a_ns | refine a_un (by first | with_reducible assumption | omega) ?_ | refine a_nn (by first | with_reducible assumption | omega | (simp only [a_upd_1, a_new_1]; omega)) ?_ | exact a_us | exact a_ns))
    refine sp_W_writeText (by decide) hdis hW (fun τ hf hW => ?_)
    have hP := hP.fw hf hd1 hd2
    have hF := hF.trans hf
    obtain ⟨hW0, hB⟩ := id hW
    obtain ⟨hP0, hPr⟩ := id hP
    refine a_aload_n d_W_writeTest_29 rfl rfl ?_
    refine a_aload_n d_W_writeTest_30 rfl rfl ?_
    apply a_getfield d_W_writeTest_31 f_W_9
    · (repeat (first | with_reducible assumption | with_reducible exact a_us | with_reducible exact a_ns | refine a_un (by first | with_reducible assumption | omega) ?_ | refine a_nn (by first | with_reducible assumption | omega | (simp only [a_upd_1, a_new_1]; omega)) ?_ | exact a_us | exact a_ns))
    · rfl
    refine a_iconst (v := 0) d_W_writeTest_34 (by decide) ?_
    refine a_iload_n d_W_writeTest_35 rfl rfl ?_
    apply a_callV (ci := 2) 1 22 [_, _] _ d_W_writeTest_36 l_W_29 ⟨im_P_nameOf, se_P_nameOf⟩ rfl rfl rfl rfl (Nat.le_of_ble_eq_true rfl) ⟨Nat.le_of_ble_eq_true rfl, Nat.le_of_ble_eq_true rfl⟩
    · (repeat (first | with_reducible assumption | with_reducible exact a_us | with_reducible exact a_ns | refine a_un (by first | with_reducible assumption | omega) ?_ | refine a_nn (by first | with_reducible assumption | omega | (simp only [a_upd_1, a_new_1]; omega)) ?_ | exact a_us | exact a_ns))
    refine sp_P_nameOf hP ?_
    apply a_callV (ci := 3) 2 46 [_] _ d_W_writeTest_39 l_W_35 ⟨im_W_writeName, se_W_writeName⟩ rfl rfl rfl rfl (Nat.le_of_ble_eq_true rfl) ⟨Nat.le_of_ble_eq_true rfl, Nat.le_of_ble_eq_true rfl⟩
    · (repeat (first | with_reducible assumption | with_reducible exact a_us | with_reducible exact a_ns | refine a_un (by first | with_reducible assumption | omega) ?_ | refine a_nn (by first | with_reducible assumption | omega | (simp only [a_upd_1, a_new_1]; omega)) ?_ | exact a_us | exact a_ns))
    refine sp_W_writeName hdis hW (fun τ hf hW => ?_)
    have hP := hP.fw hf hd1 hd2
    have hF := hF.trans hf
    obtain ⟨hW0, hB⟩ := id hW
    obtain ⟨hP0, hPr⟩ := id hP
    refine a_goto (tgt := 56) d_W_writeTest_42 (by decide) ?_
    refine a_aload_n d_W_writeTest_56 rfl rfl ?_
    apply a_getfield d_W_writeTest_57 f_W_9
    · (repeat (first | with_reducible assumption | with_reducible exact a_us | with_reducible exact a_ns | refine a_un (by first | with_reducible assumption | omega) ?_ | refine a_nn (by first | with_reducible assumption | omega | (simp only [a_upd_1, a_new_1]; omega)) ?_ | exact a_us | exact a_ns))
    · rfl
    refine a_iload_n d_W_writeTest_60 rfl rfl ?_
    refine a_iconst (v := 2) d_W_writeTest_61 (by decide) ?_
    apply a_callV (ci := 2) 1 21 [_, _] _ d_W_writeTest_62 l_W_77 ⟨im_P_testPart, se_P_testPart⟩ rfl rfl rfl rfl (Nat.le_of_ble_eq_true rfl) ⟨Nat.le_of_ble_eq_true rfl, Nat.le_of_ble_eq_true rfl⟩
    · (repeat (first | with_reducible assumption | with_reducible exact a_us | with_reducible exact a_ns | refine a_un (by first | with_reducible assumption | omega) ?_ | refine a_nn (by first | with_reducible assumption | omega | (simp only [a_upd_1, a_new_1]; omega)) ?_ | exact a_us | exact a_ns))
    refine sp_P_testPart hP ?_
    refine a_istore_n d_W_writeTest_65 rfl (by decide) ?_
    refine a_aload_n d_W_writeTest_66 rfl rfl ?_
    refine a_iload_n d_W_writeTest_67 rfl rfl ?_
    refine a_if_ne (tgt := 76) d_W_writeTest_68 (by decide) (fun c_4 => ?_) (fun c_4 => ?_)
    · refine a_iload_n d_W_writeTest_76 rfl rfl ?_
      refine a_iconst (v := 1) d_W_writeTest_77 (by decide) ?_
      refine a_icmp_ne (tgt := 86) d_W_writeTest_78 (by decide) (fun c_5 => ?_) (fun c_5 => ?_)
      · refine a_ldcS 31 d_W_writeTest_86 (by decide) rfl rfl ?_
        apply a_callV (ci := 3) 4 85 [_] _ d_W_writeTest_88 l_W_25 ⟨im_W_writeText, se_W_writeText⟩ rfl rfl rfl rfl (Nat.le_of_ble_eq_true rfl) ⟨Nat.le_of_ble_eq_true rfl, Nat.le_of_ble_eq_true rfl⟩
        · (repeat (first | with_reducible assumption | with_reducible exact a_us | with_reducible exact a_ns | refine a_un (by first | with_reducible assumption | omega) ?_ | refine a_nn (by first | with_reducible assumption | omega | (simp only [a_upd_1, a_new_1]; omega)) ?_ | exact a_us | exact a_ns))
        refine sp_W_writeText (by decide) hdis hW (fun τ hf hW => ?_)
        have hP := hP.fw hf hd1 hd2
        have hF := hF.trans hf
        obtain ⟨hW0, hB⟩ := id hW
        obtain ⟨hP0, hPr⟩ := id hP
        refine a_aload_n d_W_writeTest_91 rfl rfl ?_
        refine a_aload_n d_W_writeTest_92 rfl rfl ?_
        apply a_getfield d_W_writeTest_93 f_W_9
        · (repeat (first | with_reducible assumption | with_reducible exact a_us | with_reducible exact a_ns | refine a_un (by first | with_reducible assumption | omega) ?_ | refine a_nn (by first | with_reducible assumption | omega | (simp only [a_upd_1, a_new_1]; omega)) ?_ | exact a_us | exact a_ns))
        · rfl
        refine a_iload_n d_W_writeTest_96 rfl rfl ?_
        apply a_callV (ci := 2) 0 0 [_] _ d_W_writeTest_97 l_W_97 ⟨im_P_boundOf, se_P_boundOf⟩ rfl rfl rfl rfl (Nat.le_of_ble_eq_true rfl) ⟨Nat.le_of_ble_eq_true rfl, Nat.le_of_ble_eq_true rfl⟩
        · (repeat (first | with_reducible assumption | with_reducible exact a_us | with_reducible exact a_ns | refine a_un (by first | with_reducible assumption | omega) ?_ | refine a_nn (by first | with_reducible assumption | omega | (simp only [a_upd_1, a_new_1]; omega)) ?_ | exact a_us | exact a_ns))
        refine sp_P_boundOf hP ?_
        apply a_callV (ci := 3) 2 46 [_] _ d_W_writeTest_100 l_W_45 ⟨im_W_writeNumber, se_W_writeNumber⟩ rfl rfl rfl rfl (Nat.le_of_ble_eq_true rfl) ⟨Nat.le_of_ble_eq_true rfl, Nat.le_of_ble_eq_true rfl⟩
        · (repeat (first | with_reducible assumption | with_reducible exact a_us | with_reducible exact a_ns | refine a_un (by first | with_reducible assumption | omega) ?_ | refine a_nn (by first | with_reducible assumption | omega | (simp only [a_upd_1, a_new_1]; omega)) ?_ | exact a_us | exact a_ns))
        refine sp_W_writeNumber hdis hW (fun τ hf hW => ?_)
        have hP := hP.fw hf hd1 hd2
        have hF := hF.trans hf
        obtain ⟨hW0, hB⟩ := id hW
        obtain ⟨hP0, hPr⟩ := id hP
        refine a_aload_n d_W_writeTest_103 rfl rfl ?_
        refine a_ldcS 32 d_W_writeTest_104 (by decide) rfl rfl ?_
        apply a_callV (ci := 3) 4 85 [_] _ d_W_writeTest_106 l_W_25 ⟨im_W_writeText, se_W_writeText⟩ rfl rfl rfl rfl (Nat.le_of_ble_eq_true rfl) ⟨Nat.le_of_ble_eq_true rfl, Nat.le_of_ble_eq_true rfl⟩
        · (repeat (first | with_reducible assumption | with_reducible exact a_us | with_reducible exact a_ns | refine a_un (by first | with_reducible assumption | omega) ?_ | refine a_nn (by first | with_reducible assumption | omega | (simp only [a_upd_1, a_new_1]; omega)) ?_ | exact a_us | exact a_ns))
        refine sp_W_writeText (by decide) hdis hW (fun τ hf hW => ?_)
        have hP := hP.fw hf hd1 hd2
        have hF := hF.trans hf
        obtain ⟨hW0, hB⟩ := id hW
        obtain ⟨hP0, hPr⟩ := id hP
        refine a_return d_W_writeTest_109 rfl ?_
        simp only [tsB, if_pos c_1, if_neg c_4, if_neg c_5, if_true, putL_app] at hK
        exact hK _ hF hW
      · refine a_ldcS 30 d_W_writeTest_81 (by decide) rfl rfl ?_
        refine a_goto (tgt := 88) d_W_writeTest_83 (by decide) ?_
        apply a_callV (ci := 3) 4 85 [_] _ d_W_writeTest_88 l_W_25 ⟨im_W_writeText, se_W_writeText⟩ rfl rfl rfl rfl (Nat.le_of_ble_eq_true rfl) ⟨Nat.le_of_ble_eq_true rfl, Nat.le_of_ble_eq_true rfl⟩
        · (repeat (first | with_reducible assumption | with_reducible exact a_us | with_reducible exact a_ns | refine a_un (by first | with_reducible assumption | omega) ?_ | refine a_nn (by first | with_reducible assumption | omega | (simp only [a_upd_1, a_new_1]; omega)) ?_ | exact a_us | exact a_ns))
        refine sp_W_writeText (by decide) hdis hW (fun τ hf hW => ?_)
        have hP := hP.fw hf hd1 hd2
        have hF := hF.trans hf
        obtain ⟨hW0, hB⟩ := id hW
        obtain ⟨hP0, hPr⟩ := id hP
        refine a_aload_n d_W_writeTest_91 rfl rfl ?_
        refine a_aload_n d_W_writeTest_92 rfl rfl ?_
        apply a_getfield d_W_writeTest_93 f_W_9
        · (repeat (first | with_reducible assumption | with_reducible exact a_us | with_reducible exact a_ns | refine a_un (by first | with_reducible assumption | omega) ?_ | refine a_nn (by first | with_reducible assumption | omega | (simp only [a_upd_1, a_new_1]; omega)) ?_ | exact a_us | exact a_ns))
        · rfl
        refine a_iload_n d_W_writeTest_96 rfl rfl ?_
        apply a_callV (ci := 2) 0 0 [_] _ d_W_writeTest_97 l_W_97 ⟨im_P_boundOf, se_P_boundOf⟩ rfl rfl rfl rfl (Nat.le_of_ble_eq_true rfl) ⟨Nat.le_of_ble_eq_true rfl, Nat.le_of_ble_eq_true rfl⟩
        · (repeat (first | with_reducible assumption | with_reducible exact a_us | with_reducible exact a_ns | refine a_un (by first | with_reducible assumption | omega) ?_ | refine a_nn (by first | with_reducible assumption | omega | (simp only [a_upd_1, a_new_1]; omega)) ?_ | exact a_us | exact a_ns))
        refine sp_P_boundOf hP ?_
        apply a_callV (ci := 3) 2 46 [_] _ d_W_writeTest_100 l_W_45 ⟨im_W_writeNumber, se_W_writeNumber⟩ rfl rfl rfl rfl (Nat.le_of_ble_eq_true rfl) ⟨Nat.le_of_ble_eq_true rfl, Nat.le_of_ble_eq_true rfl⟩
        · (repeat (first | with_reducible assumption | with_reducible exact a_us | with_reducible exact a_ns | refine a_un (by first | with_reducible assumption | omega) ?_ | refine a_nn (by first | with_reducible assumption | omega | (simp only [a_upd_1, a_new_1]; omega)) ?_ | exact a_us | exact a_ns))
        refine sp_W_writeNumber hdis hW (fun τ hf hW => ?_)
        have hP := hP.fw hf hd1 hd2
        have hF := hF.trans hf
        obtain ⟨hW0, hB⟩ := id hW
        obtain ⟨hP0, hPr⟩ := id hP
        refine a_aload_n d_W_writeTest_103 rfl rfl ?_
        refine a_ldcS 32 d_W_writeTest_104 (by decide) rfl rfl ?_
        apply a_callV (ci := 3) 4 85 [_] _ d_W_writeTest_106 l_W_25 ⟨im_W_writeText, se_W_writeText⟩ rfl rfl rfl rfl (Nat.le_of_ble_eq_true rfl) ⟨Nat.le_of_ble_eq_true rfl, Nat.le_of_ble_eq_true rfl⟩
        · (repeat (first | with_reducible assumption | with_reducible exact a_us | with_reducible exact a_ns | refine a_un (by first | with_reducible assumption | omega) ?_ | refine a_nn (by first | with_reducible assumption | omega | (simp only [a_upd_1, a_new_1]; omega)) ?_ | exact a_us | exact a_ns))
        refine sp_W_writeText (by decide) hdis hW (fun τ hf hW => ?_)
        have hP := hP.fw hf hd1 hd2
        have hF := hF.trans hf
        obtain ⟨hW0, hB⟩ := id hW
        obtain ⟨hP0, hPr⟩ := id hP
        refine a_return d_W_writeTest_109 rfl ?_
        simp only [tsB, if_pos c_1, if_neg c_4, if_pos c_5, if_true, putL_app] at hK
        exact hK _ hF hW
    · refine a_ldcS 29 d_W_writeTest_71 (by decide) rfl rfl ?_
      refine a_goto (tgt := 88) d_W_writeTest_73 (by decide) ?_
      apply a_callV (ci := 3) 4 85 [_] _ d_W_writeTest_88 l_W_25 ⟨im_W_writeText, se_W_writeText⟩ rfl rfl rfl rfl (Nat.le_of_ble_eq_true rfl) ⟨Nat.le_of_ble_eq_true rfl, Nat.le_of_ble_eq_true rfl⟩
      · (repeat (first | with_reducible assumption | with_reducible exact a_us | with_reducible exact a_ns | refine a_un (by first | with_reducible assumption | omega) ?_ | refine a_nn (by first | with_reducible assumption | omega | (simp only [a_upd_1, a_new_1]; omega)) ?_ | exact a_us | exact a_ns))
      refine sp_W_writeText (by decide) hdis hW (fun τ hf hW => ?_)
      have hP := hP.fw hf hd1 hd2
      have hF := hF.trans hf
      obtain ⟨hW0, hB⟩ := id hW
      obtain ⟨hP0, hPr⟩ := id hP
      refine a_aload_n d_W_writeTest_91 rfl rfl ?_
      refine a_aload_n d_W_writeTest_92 rfl rfl ?_
      apply a_getfield d_W_writeTest_93 f_W_9
      · (repeat (first | with_reducible assumption | with_reducible exact a_us | with_reducible exact a_ns | refine a_un (by first | with_reducible assumption | omega) ?_ | refine a_nn (by first | with_reducible assumption | omega | (simp only [a_upd_1, a_new_1]; omega)) ?_ | exact a_us | exact a_ns))
      · rfl
      refine a_iload_n d_W_writeTest_96 rfl rfl ?_
      apply a_callV (ci := 2) 0 0 [_] _ d_W_writeTest_97 l_W_97 ⟨im_P_boundOf, se_P_boundOf⟩ rfl rfl rfl rfl (Nat.le_of_ble_eq_true rfl) ⟨Nat.le_of_ble_eq_true rfl, Nat.le_of_ble_eq_true rfl⟩
      · (repeat (first | with_reducible assumption | with_reducible exact a_us | with_reducible exact a_ns | refine a_un (by first | with_reducible assumption | omega) ?_ | refine a_nn (by first | with_reducible assumption | omega | (simp only [a_upd_1, a_new_1]; omega)) ?_ | exact a_us | exact a_ns))
      refine sp_P_boundOf hP ?_
      apply a_callV (ci := 3) 2 46 [_] _ d_W_writeTest_100 l_W_45 ⟨im_W_writeNumber, se_W_writeNumber⟩ rfl rfl rfl rfl (Nat.le_of_ble_eq_true rfl) ⟨Nat.le_of_ble_eq_true rfl, Nat.le_of_ble_eq_true rfl⟩
      · (repeat (first | with_reducible assumption | with_reducible exact a_us | with_reducible exact a_ns | refine a_un (by first | with_reducible assumption | omega) ?_ | refine a_nn (by first | with_reducible assumption | omega | (simp only [a_upd_1, a_new_1]; omega)) ?_ | exact a_us | exact a_ns))
      refine sp_W_writeNumber hdis hW (fun τ hf hW => ?_)
      have hP := hP.fw hf hd1 hd2
      have hF := hF.trans hf
      obtain ⟨hW0, hB⟩ := id hW
      obtain ⟨hP0, hPr⟩ := id hP
      refine a_aload_n d_W_writeTest_103 rfl rfl ?_
      refine a_ldcS 32 d_W_writeTest_104 (by decide) rfl rfl ?_
      apply a_callV (ci := 3) 4 85 [_] _ d_W_writeTest_106 l_W_25 ⟨im_W_writeText, se_W_writeText⟩ rfl rfl rfl rfl (Nat.le_of_ble_eq_true rfl) ⟨Nat.le_of_ble_eq_true rfl, Nat.le_of_ble_eq_true rfl⟩
      · (repeat (first | with_reducible assumption | with_reducible exact a_us | with_reducible exact a_ns | refine a_un (by first | with_reducible assumption | omega) ?_ | refine a_nn (by first | with_reducible assumption | omega | (simp only [a_upd_1, a_new_1]; omega)) ?_ | exact a_us | exact a_ns))
      refine sp_W_writeText (by decide) hdis hW (fun τ hf hW => ?_)
      have hP := hP.fw hf hd1 hd2
      have hF := hF.trans hf
      obtain ⟨hW0, hB⟩ := id hW
      obtain ⟨hP0, hPr⟩ := id hP
      refine a_return d_W_writeTest_109 rfl ?_
      simp only [tsB, if_pos c_1, if_pos c_4, if_true, putL_app] at hK
      exact hK _ hF hW

end ModW4
