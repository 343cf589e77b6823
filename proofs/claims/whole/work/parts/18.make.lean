/-! POLICY, sixth part: reachedFrom, standAfter, moveCounters -/
def bc1 (x : Int32) : Int32 := x - ((x.toUInt32 >>> ((1 : Int32).toUInt32 &&& Int32.toUInt32 31)).toInt32 &&& 1431655765)
def bc2 (x : Int32) : Int32 := (x &&& 858993459) + ((x.toUInt32 >>> ((2 : Int32).toUInt32 &&& Int32.toUInt32 31)).toInt32 &&& 858993459)
def bc3 (x : Int32) : Int32 := (x + (x.toUInt32 >>> ((4 : Int32).toUInt32 &&& Int32.toUInt32 31)).toInt32) &&& 252645135
def bc4 (x : Int32) : Int32 := x + (x.toUInt32 >>> ((8 : Int32).toUInt32 &&& Int32.toUInt32 31)).toInt32
def bc5 (x : Int32) : Int32 := x + (x.toUInt32 >>> ((16 : Int32).toUInt32 &&& Int32.toUInt32 31)).toInt32
/-- bitCount -/
def bcF (x : Int32) : Int32 := bc5 (bc4 (bc3 (bc2 (bc1 x)))) &&& 63
def rmF (q : aP) (l : aC) (k : Int32) : Nat → Int32 → Nat → Int32
  | _, m, 0 => m
  | j, m, n + 1 => rmF q l k (j + 1) (if app q l 1 k (nI j) = 0 then m else m ||| ((1 : Int32) <<< (clpart q 1 k (nI j) 2 &&& 31))) n
def rchF (q : aP) (l : aC) (k : Int32) : Int32 := if hrow q 1 k = -1 then -1 else bcF (rmF q l k 0 0 (q.2.2 4 (hrow q 1 k).toNatClampNeg).toNatClampNeg)
def saF (q : aP) (l : aC) (k : Nat) : Nat → Nat → Int32
  | _, 0 => q.2.2 6 k
  | j, n + 1 => if app q l 0 (nI k) (nI j) = 0 then saF q l k (j + 1) n else if clpart q 0 (nI k) (nI j) 2 = 1 then (if q.2.2 5 k < q.2.2 6 k + 1 then q.2.2 5 k else q.2.2 6 k + 1) else 0
def saV (q : aP) (l : aC) (k : Nat) : Int32 := saF q l k 0 (q.2.2 4 k).toNatClampNeg
def setA (B : Nat → Nat → Int32) (i : Nat) (X : Nat → Int32) : Nat → Nat → Int32 := fun a => if a = i then X else B a
theorem cpart_c {q : aP} {k : Nat} (hq : PI q) (h : k < q.1.1) : cpart q (nI k) 0 = q.2.2 5 k ∧ cpart q (nI k) 1 = q.2.2 4 k ∧ cpart q (nI k) 2 = q.2.2 6 k := by
  have := hq.1
  have e : (nI k).toNatClampNeg = k := nI_clamp (by omega)
  have f : ¬ nI k = -1 := nI_m1 (by omega)
  refine ⟨?_, ?_, ?_⟩
  · rw [cpart, hrow_c hq h, if_neg f, if_pos rfl, e]
  · rw [cpart, hrow_c hq h, if_neg f, if_neg (by decide), if_pos rfl, e]
  · rw [cpart, hrow_c hq h, if_neg f, if_neg (by decide), if_neg (by decide), if_pos rfl, e]
section ModP6
variable {G : aG} {σ : aS} {K : Option Value → aS → Prop} {p cc : Nat} {q : aP} {l : aC}
set_option maxHeartbeats 4000000 in
set_option maxRecDepth 100000 in
theorem sp_I_bitCount {x : Int32} (hK : K (some (.int (bcF x))) σ) : a_C G m_I_bitCount 0 0 [.int x] σ K := by
  refine a_enter rfl (Nat.le_of_ble_eq_true rfl) ?_
  refine a_iload_n d_I_bitCount_0 rfl rfl ?_
  refine a_iload_n d_I_bitCount_1 rfl rfl ?_
  refine a_iconst (v := 1) d_I_bitCount_2 (by decide) ?_
  refine a_iushr d_I_bitCount_3 ?_
  refine a_ldcw d_I_bitCount_4 k_I_265 ?_
  refine a_iand d_I_bitCount_7 ?_
  refine a_isub d_I_bitCount_8 ?_
  change a_J G m_I_bitCount 0 0 _ _ [.int (bc1 x)] σ K
  refine a_istore_n d_I_bitCount_9 rfl (by decide) ?_
  refine a_iload_n d_I_bitCount_10 rfl rfl ?_
  refine a_ldcw d_I_bitCount_11 k_I_266 ?_
  refine a_iand d_I_bitCount_14 ?_
  refine a_iload_n d_I_bitCount_15 rfl rfl ?_
  refine a_iconst (v := 2) d_I_bitCount_16 (by decide) ?_
  refine a_iushr d_I_bitCount_17 ?_
  refine a_ldcw d_I_bitCount_18 k_I_266 ?_
  refine a_iand d_I_bitCount_21 ?_
  refine a_iadd d_I_bitCount_22 ?_
  change a_J G m_I_bitCount 0 0 _ _ [.int (bc2 (bc1 x))] σ K
  refine a_istore_n d_I_bitCount_23 rfl (by decide) ?_
  refine a_iload_n d_I_bitCount_24 rfl rfl ?_
  refine a_iload_n d_I_bitCount_25 rfl rfl ?_
  refine a_iconst (v := 4) d_I_bitCount_26 (by decide) ?_
  refine a_iushr d_I_bitCount_27 ?_
  refine a_iadd d_I_bitCount_28 ?_
  refine a_ldcw d_I_bitCount_29 k_I_267 ?_
  refine a_iand d_I_bitCount_32 ?_
  change a_J G m_I_bitCount 0 0 _ _ [.int (bc3 (bc2 (bc1 x)))] σ K
  refine a_istore_n d_I_bitCount_33 rfl (by decide) ?_
  refine a_iload_n d_I_bitCount_34 rfl rfl ?_
  refine a_iload_n d_I_bitCount_35 rfl rfl ?_
  refine a_bipush (v := 8) d_I_bitCount_36 (by decide) ?_
  refine a_iushr d_I_bitCount_38 ?_
  refine a_iadd d_I_bitCount_39 ?_
  change a_J G m_I_bitCount 0 0 _ _ [.int (bc4 (bc3 (bc2 (bc1 x))))] σ K
  refine a_istore_n d_I_bitCount_40 rfl (by decide) ?_
  refine a_iload_n d_I_bitCount_41 rfl rfl ?_
  refine a_iload_n d_I_bitCount_42 rfl rfl ?_
  refine a_bipush (v := 16) d_I_bitCount_43 (by decide) ?_
  refine a_iushr d_I_bitCount_45 ?_
  refine a_iadd d_I_bitCount_46 ?_
  change a_J G m_I_bitCount 0 0 _ _ [.int (bc5 (bc4 (bc3 (bc2 (bc1 x)))))] σ K
  refine a_istore_n d_I_bitCount_47 rfl (by decide) ?_
  refine a_iload_n d_I_bitCount_48 rfl rfl ?_
  refine a_bipush (v := 63) d_I_bitCount_49 (by decide) ?_
  refine a_iand d_I_bitCount_51 ?_
  exact a_ireturn d_I_bitCount_52 rfl rfl hK

set_option maxHeartbeats 4000000 in
set_option maxRecDepth 100000 in
theorem lp_P_reachedFrom {k : Int32} {h t : Nat} (hP : PO σ p q) (hC : CO σ cc l) (hh : h < 30) (ht : q.2.2 4 h = nI t) (ht8 : t ≤ 8) : ∀ (n j : Nat) (m : Int32), j + n = t → K (some (.int (bcF (rmF q l k j m n)))) σ → a_J G m_P_reachedFrom 4 98 20 [(0, .ref p), (1, .int k), (2, .ref cc), (3, .int (nI h)), (4, .int m), (5, .int (nI j))] [] σ K := by
  obtain ⟨h0, h1, h2, h3, h4, h5, h6, h7, h8, h9, h10, hI⟩ := id hP
  have hC0 : σ.2.2 cc = some (.inr (1, [.int l.1, .int l.2.1, .int l.2.2.1, .int l.2.2.2])) := hC
  have ecl : (nI h).toNatClampNeg = h := nI_clamp (by omega)
  intro n
  induction n with
  | zero =>
    intro j m hj hK
    refine a_iload d_P_reachedFrom_20 rfl ?_
    refine a_aload_n d_P_reachedFrom_22 rfl rfl ?_
    apply a_getfield d_P_reachedFrom_23 f_P_15
    · (repeat (first | with_reducible assumption | with_reducible exact a_us | with_reducible exact a_ns | refine a_un (by first | with_reducible assumption | omega) ?_ | refine a_nn (by first | with_reducible assumption | omega | (simp only [a_upd_1, a_new_1]; omega)) ?_ | exact a_us | exact a_ns))
    · rfl
    refine a_iload_n d_P_reachedFrom_26 rfl rfl ?_
    apply a_iald (t0 := 0) d_P_reachedFrom_27 rfl
    · (repeat (first | with_reducible assumption | with_reducible exact a_us | with_reducible exact a_ns | refine a_un (by first | with_reducible assumption | omega) ?_ | refine a_nn (by first | with_reducible assumption | omega | (simp only [a_upd_1, a_new_1]; omega)) ?_ | exact a_us | exact a_ns))
    · exact vp_in_nI hh (by decide)
    rw [ecl, ht]
    refine a_icmp_ge (tgt := 65) d_P_reachedFrom_28 (by decide) (fun c_1 => ?_) (fun n9 => absurd (by rw [show j = t by omega]; exact Int32.le_refl _) n9)
    refine a_iload d_P_reachedFrom_65 rfl ?_
    refine a_callS 0 0 [_] _ d_P_reachedFrom_67 l_P_121 is_I_bitCount rfl rfl (Nat.le_of_ble_eq_true rfl) ⟨Nat.le_of_ble_eq_true rfl, Nat.le_of_ble_eq_true rfl⟩ ?_
    refine sp_I_bitCount ?_
    refine a_ireturn d_P_reachedFrom_70 rfl rfl ?_
    exact hK
  | succ n ih =>
    intro j m hj hK
    refine a_iload d_P_reachedFrom_20 rfl ?_
    refine a_aload_n d_P_reachedFrom_22 rfl rfl ?_
    apply a_getfield d_P_reachedFrom_23 f_P_15
    · (repeat (first | with_reducible assumption | with_reducible exact a_us | with_reducible exact a_ns | refine a_un (by first | with_reducible assumption | omega) ?_ | refine a_nn (by first | with_reducible assumption | omega | (simp only [a_upd_1, a_new_1]; omega)) ?_ | exact a_us | exact a_ns))
    · rfl
    refine a_iload_n d_P_reachedFrom_26 rfl rfl ?_
    apply a_iald (t0 := 0) d_P_reachedFrom_27 rfl
    · (repeat (first | with_reducible assumption | with_reducible exact a_us | with_reducible exact a_ns | refine a_un (by first | with_reducible assumption | omega) ?_ | refine a_nn (by first | with_reducible assumption | omega | (simp only [a_upd_1, a_new_1]; omega)) ?_ | exact a_us | exact a_ns))
    · exact vp_in_nI hh (by decide)
    rw [ecl, ht]
    refine a_icmp_ge (tgt := 65) d_P_reachedFrom_28 (by decide) (fun n9 => absurd n9 (nI_ge (show j < t by omega) (by omega))) (fun c_1 => ?_)
    refine a_aload_n d_P_reachedFrom_31 rfl rfl ?_
    refine a_iconst (v := 1) d_P_reachedFrom_32 (by decide) ?_
    refine a_iload_n d_P_reachedFrom_33 rfl rfl ?_
    refine a_iload d_P_reachedFrom_34 rfl ?_
    refine a_aload_n d_P_reachedFrom_36 rfl rfl ?_
    apply a_callV (ci := 2) 3 72 [_, _, _, _] _ d_P_reachedFrom_37 l_P_113 ⟨im_P_applies, se_P_applies⟩ rfl rfl rfl rfl (Nat.le_of_ble_eq_true rfl) ⟨Nat.le_of_ble_eq_true rfl, Nat.le_of_ble_eq_true rfl⟩
    · (repeat (first | with_reducible assumption | with_reducible exact a_us | with_reducible exact a_ns | refine a_un (by first | with_reducible assumption | omega) ?_ | refine a_nn (by first | with_reducible assumption | omega | (simp only [a_upd_1, a_new_1]; omega)) ?_ | exact a_us | exact a_ns))
    refine sp_P_applies hP hC ?_
    refine a_if_eq (tgt := 59) d_P_reachedFrom_40 (by decide) (fun c_2 => ?_) (fun c_2 => ?_)
    · refine a_iinc (c0 := 1) d_P_reachedFrom_59 rfl (by decide) (by decide) ?_
      refine a_goto (tgt := 20) d_P_reachedFrom_62 (by decide) ?_
      first | rw [rmF, if_pos c_2] at hK | rw [rmF, if_neg c_2] at hK
      exact a_lvk (ih (j + 1) _ (by omega) hK) ⟨rfl, rfl, rfl, rfl, rfl, by rw [← nI_1]; rfl, trivial⟩
    · refine a_iload d_P_reachedFrom_43 rfl ?_
      refine a_iconst (v := 1) d_P_reachedFrom_45 (by decide) ?_
      refine a_aload_n d_P_reachedFrom_46 rfl rfl ?_
      refine a_iconst (v := 1) d_P_reachedFrom_47 (by decide) ?_
      refine a_iload_n d_P_reachedFrom_48 rfl rfl ?_
      refine a_iload d_P_reachedFrom_49 rfl ?_
      refine a_iconst (v := 2) d_P_reachedFrom_51 (by decide) ?_
      apply a_callV (ci := 2) 2 46 [_, _, _, _] _ d_P_reachedFrom_52 l_P_117 ⟨im_P_clausePart, se_P_clausePart⟩ rfl rfl rfl rfl (Nat.le_of_ble_eq_true rfl) ⟨Nat.le_of_ble_eq_true rfl, Nat.le_of_ble_eq_true rfl⟩
      · (repeat (first | with_reducible assumption | with_reducible exact a_us | with_reducible exact a_ns | refine a_un (by first | with_reducible assumption | omega) ?_ | refine a_nn (by first | with_reducible assumption | omega | (simp only [a_upd_1, a_new_1]; omega)) ?_ | exact a_us | exact a_ns))
      refine sp_P_clausePart hP ?_
      refine a_ishl d_P_reachedFrom_55 ?_
      refine a_ior d_P_reachedFrom_56 ?_
      refine a_istore d_P_reachedFrom_57 (by decide) ?_
      refine a_iinc (c0 := 1) d_P_reachedFrom_59 rfl (by decide) (by decide) ?_
      refine a_goto (tgt := 20) d_P_reachedFrom_62 (by decide) ?_
      first | rw [rmF, if_pos c_2] at hK | rw [rmF, if_neg c_2] at hK
      exact a_lvk (ih (j + 1) _ (by omega) hK) ⟨rfl, rfl, rfl, rfl, rfl, by rw [← nI_1]; rfl, trivial⟩

set_option maxHeartbeats 4000000 in
set_option maxRecDepth 100000 in
theorem sp_P_reachedFrom {k : Int32} (hP : PO σ p q) (hC : CO σ cc l) (hK : K (some (.int (rchF q l k))) σ) : a_C G m_P_reachedFrom 4 98 [.ref p, .int k, .ref cc] σ K := by
  obtain ⟨h0, h1, h2, h3, h4, h5, h6, h7, h8, h9, h10, hI⟩ := id hP
  have hC0 : σ.2.2 cc = some (.inr (1, [.int l.1, .int l.2.1, .int l.2.2.1, .int l.2.2.2])) := hC
  refine a_enter rfl (Nat.le_of_ble_eq_true rfl) ?_
  refine a_aload_n d_P_reachedFrom_0 rfl rfl ?_
  refine a_iconst (v := 1) d_P_reachedFrom_1 (by decide) ?_
  refine a_iload_n d_P_reachedFrom_2 rfl rfl ?_
  apply a_callV (ci := 2) 0 0 [_, _] _ d_P_reachedFrom_3 l_P_53 ⟨im_P_headRow, se_P_headRow⟩ rfl rfl rfl rfl (Nat.le_of_ble_eq_true rfl) ⟨Nat.le_of_ble_eq_true rfl, Nat.le_of_ble_eq_true rfl⟩
  · (repeat (first | with_reducible assumption | with_reducible exact a_us | with_reducible exact a_ns | refine a_un (by first | with_reducible assumption | omega) ?_ | refine a_nn (by first | with_reducible assumption | omega | (simp only [a_upd_1, a_new_1]; omega)) ?_ | exact a_us | exact a_ns))
  refine sp_P_headRow hP ?_
  refine a_istore_n d_P_reachedFrom_6 rfl (by decide) ?_
  refine a_iload_n d_P_reachedFrom_7 rfl rfl ?_
  refine a_iconst (v := (-1)) d_P_reachedFrom_8 (by decide) ?_
  refine a_icmp_ne (tgt := 14) d_P_reachedFrom_9 (by decide) (fun c_1 => ?_) (fun c_1 => ?_)
  · refine a_iconst (v := 0) d_P_reachedFrom_14 (by decide) ?_
    refine a_istore d_P_reachedFrom_15 (by decide) ?_
    refine a_iconst (v := 0) d_P_reachedFrom_17 (by decide) ?_
    refine a_istore d_P_reachedFrom_18 (by decide) ?_
    simp only [rchF, if_neg c_1, if_true] at hK
    rcases hrow_in hI c_1 with ⟨n, -⟩ | ⟨-, j, hj, -, e⟩
    · exact absurd n (by decide)
    · have h24 := hI.2.1
      obtain ⟨t, ht, et⟩ := hI.2.2.2.1 j (by omega)
      rw [e] at hK ⊢
      rw [nI_clamp (by omega), et, nI_clamp (by omega)] at hK
      exact a_lvk (lp_P_reachedFrom hP hC (h := 6 + j) (by omega) et ht t 0 0 (by omega) hK) ⟨rfl, rfl, rfl, rfl, rfl, rfl, trivial⟩
  · refine a_iconst (v := (-1)) d_P_reachedFrom_12 (by decide) ?_
    refine a_ireturn d_P_reachedFrom_13 rfl rfl ?_
    simp only [rchF, if_pos c_1, if_true] at hK
    exact hK

set_option maxHeartbeats 4000000 in
set_option maxRecDepth 100000 in
theorem lp_P_standAfter {k t : Nat} (hP : PO σ p q) (hC : CO σ cc l) (hk : k < q.1.1) (ht8 : t ≤ 4) : ∀ n j : Nat, j + n = t → K (some (.int (saF q l k j n))) σ → a_J G m_P_standAfter 4 98 18 [(0, .ref p), (1, .int (nI k)), (2, .ref cc), (3, .int (q.2.2 6 k)), (4, .int (nI t)), (5, .int (nI j))] [] σ K := by
  obtain ⟨h0, h1, h2, h3, h4, h5, h6, h7, h8, h9, h10, hI⟩ := id hP
  have hC0 : σ.2.2 cc = some (.inr (1, [.int l.1, .int l.2.1, .int l.2.2.1, .int l.2.2.2])) := hC
  intro n
  induction n with
  | zero =>
    intro j hj hK
    refine a_iload d_P_standAfter_18 rfl ?_
    refine a_iload d_P_standAfter_20 rfl ?_
    refine a_icmp_ge (tgt := 85) d_P_standAfter_22 (by decide) (fun c_1 => ?_) (fun n9 => absurd (by rw [show j = t by omega]; exact Int32.le_refl _) n9)
    refine a_iload_n d_P_standAfter_85 rfl rfl ?_
    refine a_ireturn d_P_standAfter_86 rfl rfl ?_
    exact hK
  | succ n ih =>
    intro j hj hK
    refine a_iload d_P_standAfter_18 rfl ?_
    refine a_iload d_P_standAfter_20 rfl ?_
    refine a_icmp_ge (tgt := 85) d_P_standAfter_22 (by decide) (fun n9 => absurd n9 (nI_ge (show j < t by omega) (by omega))) (fun c_1 => ?_)
    refine a_aload_n d_P_standAfter_25 rfl rfl ?_
    refine a_iconst (v := 0) d_P_standAfter_26 (by decide) ?_
    refine a_iload_n d_P_standAfter_27 rfl rfl ?_
    refine a_iload d_P_standAfter_28 rfl ?_
    refine a_aload_n d_P_standAfter_30 rfl rfl ?_
    apply a_callV (ci := 2) 3 72 [_, _, _, _] _ d_P_standAfter_31 l_P_113 ⟨im_P_applies, se_P_applies⟩ rfl rfl rfl rfl (Nat.le_of_ble_eq_true rfl) ⟨Nat.le_of_ble_eq_true rfl, Nat.le_of_ble_eq_true rfl⟩
    · (repeat (first | with_reducible assumption | with_reducible exact a_us | with_reducible exact a_ns | refine a_un (by first | with_reducible assumption | omega) ?_ | refine a_nn (by first | with_reducible assumption | omega | (simp only [a_upd_1, a_new_1]; omega)) ?_ | exact a_us | exact a_ns))
    refine sp_P_applies hP hC ?_
    refine a_if_eq (tgt := 79) d_P_standAfter_34 (by decide) (fun c_2 => ?_) (fun c_2 => ?_)
    · refine a_iinc (c0 := 1) d_P_standAfter_79 rfl (by decide) (by decide) ?_
      refine a_goto (tgt := 18) d_P_standAfter_82 (by decide) ?_
      rw [saF, if_pos c_2] at hK
      exact a_lvk (ih (j + 1) (by omega) hK) ⟨rfl, rfl, rfl, rfl, rfl, by rw [← nI_1]; rfl, trivial⟩
    · refine a_aload_n d_P_standAfter_37 rfl rfl ?_
      refine a_iconst (v := 0) d_P_standAfter_38 (by decide) ?_
      refine a_iload_n d_P_standAfter_39 rfl rfl ?_
      refine a_iload d_P_standAfter_40 rfl ?_
      refine a_iconst (v := 2) d_P_standAfter_42 (by decide) ?_
      apply a_callV (ci := 2) 2 46 [_, _, _, _] _ d_P_standAfter_43 l_P_117 ⟨im_P_clausePart, se_P_clausePart⟩ rfl rfl rfl rfl (Nat.le_of_ble_eq_true rfl) ⟨Nat.le_of_ble_eq_true rfl, Nat.le_of_ble_eq_true rfl⟩
      · (repeat (first | with_reducible assumption | with_reducible exact a_us | with_reducible exact a_ns | refine a_un (by first | with_reducible assumption | omega) ?_ | refine a_nn (by first | with_reducible assumption | omega | (simp only [a_upd_1, a_new_1]; omega)) ?_ | exact a_us | exact a_ns))
      refine sp_P_clausePart hP ?_
      refine a_iconst (v := 1) d_P_standAfter_46 (by decide) ?_
      refine a_icmp_ne (tgt := 54) d_P_standAfter_47 (by decide) (fun c_3 => ?_) (fun c_3 => ?_)
      · refine a_iconst (v := 0) d_P_standAfter_54 (by decide) ?_
        refine a_istore d_P_standAfter_55 (by decide) ?_
        refine a_iload d_P_standAfter_57 rfl ?_
        refine a_if_eq (tgt := 77) d_P_standAfter_59 (by decide) (fun c_4 => ?_) (fun c_4 => ?_)
        · refine a_iconst (v := 0) d_P_standAfter_77 (by decide) ?_
          refine a_ireturn d_P_standAfter_78 rfl rfl ?_
          first | (rw [saF] at hK; simp only [if_neg c_1, if_pos (Int32.not_le.mp c_1), if_neg c_2, if_neg c_3, if_pos c_4, if_true] at hK; exact hK) | contradiction
        · refine a_iload_n d_P_standAfter_62 rfl rfl ?_
          refine a_iconst (v := 1) d_P_standAfter_63 (by decide) ?_
          refine a_iadd d_P_standAfter_64 ?_
          refine a_aload_n d_P_standAfter_65 rfl rfl ?_
          refine a_iload_n d_P_standAfter_66 rfl rfl ?_
          refine a_iconst (v := 0) d_P_standAfter_67 (by decide) ?_
          apply a_callV (ci := 2) 1 23 [_, _] _ d_P_standAfter_68 l_P_96 ⟨im_P_counterPart, se_P_counterPart⟩ rfl rfl rfl rfl (Nat.le_of_ble_eq_true rfl) ⟨Nat.le_of_ble_eq_true rfl, Nat.le_of_ble_eq_true rfl⟩
          · (repeat (first | with_reducible assumption | with_reducible exact a_us | with_reducible exact a_ns | refine a_un (by first | with_reducible assumption | omega) ?_ | refine a_nn (by first | with_reducible assumption | omega | (simp only [a_upd_1, a_new_1]; omega)) ?_ | exact a_us | exact a_ns))
          refine sp_P_counterPart hP ?_
          rw [(cpart_c hI hk).1]
          refine a_mmin d_P_standAfter_71 l_P_130 (Nat.le_of_ble_eq_true rfl) ⟨Nat.le_of_ble_eq_true rfl, Nat.le_of_ble_eq_true rfl⟩ ?_
          refine a_goto (tgt := 78) d_P_standAfter_74 (by decide) ?_
          refine a_ireturn d_P_standAfter_78 rfl rfl ?_
          first | (rw [saF] at hK; simp only [if_neg c_1, if_pos (Int32.not_le.mp c_1), if_neg c_2, if_neg c_3, if_neg c_4, if_true] at hK; exact hK) | contradiction
      · refine a_iconst (v := 1) d_P_standAfter_50 (by decide) ?_
        refine a_goto (tgt := 55) d_P_standAfter_51 (by decide) ?_
        refine a_istore d_P_standAfter_55 (by decide) ?_
        refine a_iload d_P_standAfter_57 rfl ?_
        refine a_if_eq (tgt := 77) d_P_standAfter_59 (by decide) (fun c_5 => ?_) (fun c_5 => ?_)
        · refine a_iconst (v := 0) d_P_standAfter_77 (by decide) ?_
          refine a_ireturn d_P_standAfter_78 rfl rfl ?_
          first | (rw [saF] at hK; simp only [if_neg c_1, if_pos (Int32.not_le.mp c_1), if_neg c_2, if_pos c_3, if_pos c_5, if_true] at hK; exact hK) | contradiction
        · refine a_iload_n d_P_standAfter_62 rfl rfl ?_
          refine a_iconst (v := 1) d_P_standAfter_63 (by decide) ?_
          refine a_iadd d_P_standAfter_64 ?_
          refine a_aload_n d_P_standAfter_65 rfl rfl ?_
          refine a_iload_n d_P_standAfter_66 rfl rfl ?_
          refine a_iconst (v := 0) d_P_standAfter_67 (by decide) ?_
          apply a_callV (ci := 2) 1 23 [_, _] _ d_P_standAfter_68 l_P_96 ⟨im_P_counterPart, se_P_counterPart⟩ rfl rfl rfl rfl (Nat.le_of_ble_eq_true rfl) ⟨Nat.le_of_ble_eq_true rfl, Nat.le_of_ble_eq_true rfl⟩
          · (repeat (first | with_reducible assumption | with_reducible exact a_us | with_reducible exact a_ns | refine a_un (by first | with_reducible assumption | omega) ?_ | refine a_nn (by first | with_reducible assumption | omega | (simp only [a_upd_1, a_new_1]; omega)) ?_ | exact a_us | exact a_ns))
          refine sp_P_counterPart hP ?_
          rw [(cpart_c hI hk).1]
          refine a_mmin d_P_standAfter_71 l_P_130 (Nat.le_of_ble_eq_true rfl) ⟨Nat.le_of_ble_eq_true rfl, Nat.le_of_ble_eq_true rfl⟩ ?_
          refine a_goto (tgt := 78) d_P_standAfter_74 (by decide) ?_
          refine a_ireturn d_P_standAfter_78 rfl rfl ?_
          first | (rw [saF] at hK; simp only [if_neg c_1, if_pos (Int32.not_le.mp c_1), if_neg c_2, if_pos c_3, if_neg c_5, if_true] at hK; exact hK) | contradiction

set_option maxHeartbeats 4000000 in
set_option maxRecDepth 100000 in
theorem sp_P_standAfter {k : Nat} (hP : PO σ p q) (hC : CO σ cc l) (hk : k < q.1.1) (hK : K (some (.int (saV q l k))) σ) : a_C G m_P_standAfter 4 98 [.ref p, .int (nI k), .ref cc] σ K := by
  obtain ⟨h0, h1, h2, h3, h4, h5, h6, h7, h8, h9, h10, hI⟩ := id hP
  have hC0 : σ.2.2 cc = some (.inr (1, [.int l.1, .int l.2.1, .int l.2.2.1, .int l.2.2.2])) := hC
  refine a_enter rfl (Nat.le_of_ble_eq_true rfl) ?_
  refine a_aload_n d_P_standAfter_0 rfl rfl ?_
  refine a_iload_n d_P_standAfter_1 rfl rfl ?_
  refine a_iconst (v := 2) d_P_standAfter_2 (by decide) ?_
  apply a_callV (ci := 2) 1 23 [_, _] _ d_P_standAfter_3 l_P_96 ⟨im_P_counterPart, se_P_counterPart⟩ rfl rfl rfl rfl (Nat.le_of_ble_eq_true rfl) ⟨Nat.le_of_ble_eq_true rfl, Nat.le_of_ble_eq_true rfl⟩
  · (repeat (first | with_reducible assumption | with_reducible exact a_us | with_reducible exact a_ns | refine a_un (by first | with_reducible assumption | omega) ?_ | refine a_nn (by first | with_reducible assumption | omega | (simp only [a_upd_1, a_new_1]; omega)) ?_ | exact a_us | exact a_ns))
  refine sp_P_counterPart hP ?_
  rw [(cpart_c hI hk).2.2]
  refine a_istore_n d_P_standAfter_6 rfl (by decide) ?_
  refine a_aload_n d_P_standAfter_7 rfl rfl ?_
  refine a_iload_n d_P_standAfter_8 rfl rfl ?_
  refine a_iconst (v := 1) d_P_standAfter_9 (by decide) ?_
  apply a_callV (ci := 2) 1 23 [_, _] _ d_P_standAfter_10 l_P_96 ⟨im_P_counterPart, se_P_counterPart⟩ rfl rfl rfl rfl (Nat.le_of_ble_eq_true rfl) ⟨Nat.le_of_ble_eq_true rfl, Nat.le_of_ble_eq_true rfl⟩
  · (repeat (first | with_reducible assumption | with_reducible exact a_us | with_reducible exact a_ns | refine a_un (by first | with_reducible assumption | omega) ?_ | refine a_nn (by first | with_reducible assumption | omega | (simp only [a_upd_1, a_new_1]; omega)) ?_ | exact a_us | exact a_ns))
  refine sp_P_counterPart hP ?_
  obtain ⟨t, ht, et⟩ := hI.2.2.1 k (by have := hI.1; omega)
  rw [(cpart_c hI hk).2.1, et]
  rw [saV, et, nI_clamp (by omega)] at hK
  refine a_istore d_P_standAfter_13 (by decide) ?_
  refine a_iconst (v := 0) d_P_standAfter_15 (by decide) ?_
  refine a_istore d_P_standAfter_16 (by decide) ?_
  exact a_lvk (lp_P_standAfter hP hC hk ht t 0 (by omega) hK) ⟨rfl, rfl, rfl, rfl, rfl, rfl, trivial⟩

end ModP6
