/-! CALL; POLICY, fifth part: what is true of a call -/
abbrev aC : Type := Int32 × Int32 × Int32 × Int32
def CO (σ : aS) (c : Nat) (l : aC) : Prop := σ.2.2 c = some (.inr (1, [.int l.1, .int l.2.1, .int l.2.2.1, .int l.2.2.2]))
theorem CO.fr {σ τ : aS} {c lo hi : Nat} {l : aC} (h : CO σ c l) (hf : a_fr σ τ lo hi) (hd : c < lo ∨ hi ≤ c) : CO τ c l := (hf.2.2 c hd).trans h
def argN (n : Int32) : Int32 := if n = 16 then 3 else n &&& 3
def isO (l : aC) (n : Int32) : Int32 := if n = 16 then 1 else if n = l.1 then 1 else 0
def hasF (l : aC) (i : Int32) : Int32 := if i < 0 then 0 else if i < argN l.1 then 1 else 0
def argF (l : aC) (i : Int32) : Int32 := if i = 0 then l.2.1 else if i = 1 then l.2.2.1 else l.2.2.2
def plainF (q : aP) (l : aC) (r : Int32) : Int32 := if tpart q r 0 = 1 then (if cpart q (tpart q r 1) 2 = -1 then 0 else if cmpF (cpart q (tpart q r 1) 2) (tpart q r 2) (bnd q r) = 0 then 0 else 1) else if hasF l (tpart q r 1) = 0 then 0 else if cmpF (argF l (tpart q r 1)) (tpart q r 2) (bnd q r) = 0 then 0 else 1
def xorF (v t : Int32) : Int32 := if t = 1 then (if v = 1 then 0 else 1) else if v = 0 then 0 else 1
def isT (q : aP) (l : aC) (r : Int32) : Int32 := xorF (plainF q l r) (tpart q r 3)
def apF (q : aP) (l : aC) (r : Nat) (i : Nat) : Nat → Int32
  | 0 => 1
  | n + 1 => if isT q l (nI (r * 4 + i)) = 0 then 0 else apF q l r (i + 1) n
section ModP5
variable {G : aG} {σ : aS} {K : Option Value → aS → Prop} {p cc : Nat} {q : aP} {l : aC}
set_option maxHeartbeats 4000000 in
set_option maxRecDepth 100000 in
theorem sp_C_argumentsOf {n : Int32} (hK : K (some (.int (argN n))) σ) : a_C G m_C_argumentsOf 0 0 [.int n] σ K := by
  refine a_enter rfl (Nat.le_of_ble_eq_true rfl) ?_
  refine a_iload_n d_C_argumentsOf_0 rfl rfl ?_
  refine a_bipush (v := 16) d_C_argumentsOf_1 (by decide) ?_
  refine a_icmp_ne (tgt := 10) d_C_argumentsOf_3 (by decide) (fun c_1 => ?_) (fun c_1 => ?_)
  · refine a_iload_n d_C_argumentsOf_10 rfl rfl ?_
    refine a_iconst (v := 3) d_C_argumentsOf_11 (by decide) ?_
    refine a_iand d_C_argumentsOf_12 ?_
    refine a_ireturn d_C_argumentsOf_13 rfl (by first | rfl | assumption) ?_
    first | exact hK | (simp only [argN, if_neg c_1, if_true] at hK; exact hK) | contradiction
  · refine a_iconst (v := 3) d_C_argumentsOf_6 (by decide) ?_
    refine a_goto (tgt := 13) d_C_argumentsOf_7 (by decide) ?_
    refine a_ireturn d_C_argumentsOf_13 rfl (by first | rfl | assumption) ?_
    first | exact hK | (simp only [argN, if_pos c_1, if_true] at hK; exact hK) | contradiction

set_option maxHeartbeats 4000000 in
set_option maxRecDepth 100000 in
theorem sp_C_isOf {n : Int32} (hC : CO σ cc l) (hK : K (some (.int (isO l n))) σ) : a_C G m_C_isOf 0 0 [.ref cc, .int n] σ K := by
  have hC0 : σ.2.2 cc = some (.inr (1, [.int l.1, .int l.2.1, .int l.2.2.1, .int l.2.2.2])) := hC
  refine a_enter rfl (Nat.le_of_ble_eq_true rfl) ?_
  refine a_iload_n d_C_isOf_0 rfl rfl ?_
  refine a_bipush (v := 16) d_C_isOf_1 (by decide) ?_
  refine a_icmp_eq (tgt := 14) d_C_isOf_3 (by decide) (fun c_1 => ?_) (fun c_1 => ?_)
  · refine a_iconst (v := 1) d_C_isOf_14 (by decide) ?_
    refine a_goto (tgt := 19) d_C_isOf_15 (by decide) ?_
    refine a_ireturn d_C_isOf_19 rfl (by first | rfl | assumption) ?_
    first | exact hK | (simp only [isO, if_pos c_1, if_true] at hK; exact hK) | contradiction
  · refine a_iload_n d_C_isOf_6 rfl rfl ?_
    refine a_aload_n d_C_isOf_7 rfl rfl ?_
    apply a_getfield d_C_isOf_8 f_C_9
    · (repeat (first | with_reducible assumption | with_reducible exact a_us | with_reducible exact a_ns | refine a_un (by first | with_reducible assumption | omega) ?_ | refine a_nn (by first | with_reducible assumption | omega | (simp only [a_upd_1, a_new_1]; omega)) ?_ | exact a_us | exact a_ns))
    · rfl
    refine a_icmp_ne (tgt := 18) d_C_isOf_11 (by decide) (fun c_2 => ?_) (fun c_2 => ?_)
    · refine a_iconst (v := 0) d_C_isOf_18 (by decide) ?_
      refine a_ireturn d_C_isOf_19 rfl (by first | rfl | assumption) ?_
      first | exact hK | (simp only [isO, if_neg c_1, if_neg c_2, if_true] at hK; exact hK) | contradiction
    · refine a_iconst (v := 1) d_C_isOf_14 (by decide) ?_
      refine a_goto (tgt := 19) d_C_isOf_15 (by decide) ?_
      refine a_ireturn d_C_isOf_19 rfl (by first | rfl | assumption) ?_
      first | exact hK | (simp only [isO, if_neg c_1, if_pos c_2, if_true] at hK; exact hK) | contradiction

set_option maxHeartbeats 4000000 in
set_option maxRecDepth 100000 in
theorem sp_C_has {i : Int32} (hC : CO σ cc l) (hK : K (some (.int (hasF l i))) σ) : a_C G m_C_has 1 20 [.ref cc, .int i] σ K := by
  have hC0 : σ.2.2 cc = some (.inr (1, [.int l.1, .int l.2.1, .int l.2.2.1, .int l.2.2.2])) := hC
  refine a_enter rfl (Nat.le_of_ble_eq_true rfl) ?_
  refine a_iload_n d_C_has_0 rfl rfl ?_
  refine a_if_lt (tgt := 19) d_C_has_1 (by decide) (fun c_1 => ?_) (fun c_1 => ?_)
  · refine a_iconst (v := 0) d_C_has_19 (by decide) ?_
    refine a_ireturn d_C_has_20 rfl (by first | rfl | assumption) ?_
    first | exact hK | (simp only [hasF, if_pos c_1, if_neg (Int32.not_le.mpr c_1), if_true] at hK; exact hK) | contradiction
  · refine a_iload_n d_C_has_4 rfl rfl ?_
    refine a_aload_n d_C_has_5 rfl rfl ?_
    apply a_getfield d_C_has_6 f_C_9
    · (repeat (first | with_reducible assumption | with_reducible exact a_us | with_reducible exact a_ns | refine a_un (by first | with_reducible assumption | omega) ?_ | refine a_nn (by first | with_reducible assumption | omega | (simp only [a_upd_1, a_new_1]; omega)) ?_ | exact a_us | exact a_ns))
    · rfl
    refine a_callS 0 0 [_] _ d_C_has_9 l_C_24 is_C_argumentsOf rfl rfl (Nat.le_of_ble_eq_true rfl) ⟨Nat.le_of_ble_eq_true rfl, Nat.le_of_ble_eq_true rfl⟩ ?_
    refine sp_C_argumentsOf ?_
    refine a_icmp_ge (tgt := 19) d_C_has_12 (by decide) (fun c_2 => ?_) (fun c_2 => ?_)
    · refine a_iconst (v := 0) d_C_has_19 (by decide) ?_
      refine a_ireturn d_C_has_20 rfl (by first | rfl | assumption) ?_
      first | exact hK | (simp only [hasF, if_neg c_1, if_pos (Int32.not_lt.mp c_1), if_pos c_2, if_neg (Int32.not_lt.mpr c_2), if_true] at hK; exact hK) | contradiction
    · refine a_iconst (v := 1) d_C_has_15 (by decide) ?_
      refine a_goto (tgt := 20) d_C_has_16 (by decide) ?_
      refine a_ireturn d_C_has_20 rfl (by first | rfl | assumption) ?_
      first | exact hK | (simp only [hasF, if_neg c_1, if_pos (Int32.not_lt.mp c_1), if_neg c_2, if_pos (Int32.not_le.mp c_2), if_true] at hK; exact hK) | contradiction

set_option maxHeartbeats 4000000 in
set_option maxRecDepth 100000 in
theorem sp_C_argument {i : Int32} (hC : CO σ cc l) (hK : K (some (.int (argF l i))) σ) : a_C G m_C_argument 0 0 [.ref cc, .int i] σ K := by
  have hC0 : σ.2.2 cc = some (.inr (1, [.int l.1, .int l.2.1, .int l.2.2.1, .int l.2.2.2])) := hC
  refine a_enter rfl (Nat.le_of_ble_eq_true rfl) ?_
  refine a_iload_n d_C_argument_0 rfl rfl ?_
  refine a_if_ne (tgt := 9) d_C_argument_1 (by decide) (fun c_1 => ?_) (fun c_1 => ?_)
  · refine a_iload_n d_C_argument_9 rfl rfl ?_
    refine a_iconst (v := 1) d_C_argument_10 (by decide) ?_
    refine a_icmp_ne (tgt := 21) d_C_argument_11 (by decide) (fun c_2 => ?_) (fun c_2 => ?_)
    · refine a_aload_n d_C_argument_21 rfl rfl ?_
      apply a_getfield d_C_argument_22 f_C_21
      · (repeat (first | with_reducible assumption | with_reducible exact a_us | with_reducible exact a_ns | refine a_un (by first | with_reducible assumption | omega) ?_ | refine a_nn (by first | with_reducible assumption | omega | (simp only [a_upd_1, a_new_1]; omega)) ?_ | exact a_us | exact a_ns))
      · rfl
      refine a_ireturn d_C_argument_25 rfl (by first | rfl | assumption) ?_
      first | exact hK | (simp only [argF, if_neg c_1, if_neg c_2, if_true] at hK; exact hK) | contradiction
    · refine a_aload_n d_C_argument_14 rfl rfl ?_
      apply a_getfield d_C_argument_15 f_C_18
      · (repeat (first | with_reducible assumption | with_reducible exact a_us | with_reducible exact a_ns | refine a_un (by first | with_reducible assumption | omega) ?_ | refine a_nn (by first | with_reducible assumption | omega | (simp only [a_upd_1, a_new_1]; omega)) ?_ | exact a_us | exact a_ns))
      · rfl
      refine a_goto (tgt := 25) d_C_argument_18 (by decide) ?_
      refine a_ireturn d_C_argument_25 rfl (by first | rfl | assumption) ?_
      first | exact hK | (simp only [argF, if_neg c_1, if_pos c_2, if_true] at hK; exact hK) | contradiction
  · refine a_aload_n d_C_argument_4 rfl rfl ?_
    apply a_getfield d_C_argument_5 f_C_15
    · (repeat (first | with_reducible assumption | with_reducible exact a_us | with_reducible exact a_ns | refine a_un (by first | with_reducible assumption | omega) ?_ | refine a_nn (by first | with_reducible assumption | omega | (simp only [a_upd_1, a_new_1]; omega)) ?_ | exact a_us | exact a_ns))
    · rfl
    refine a_ireturn d_C_argument_8 rfl (by first | rfl | assumption) ?_
    first | exact hK | (simp only [argF, if_pos c_1, if_true] at hK; exact hK) | contradiction

set_option maxHeartbeats 4000000 in
set_option maxRecDepth 100000 in
theorem sp_C_become {n a b d : Int32} (hC : CO σ cc l) (hK : ∀ τ, a_fr σ τ cc (cc + 1) → CO τ cc (n, a, b, d) → K none τ) : a_C G m_C_become 0 0 [.ref cc, .int n, .int a, .int b, .int d] σ K := by
  have hC0 : σ.2.2 cc = some (.inr (1, [.int l.1, .int l.2.1, .int l.2.2.1, .int l.2.2.2])) := hC
  refine a_enter rfl (Nat.le_of_ble_eq_true rfl) ?_
  refine a_aload_n d_C_become_0 rfl rfl ?_
  refine a_iload_n d_C_become_1 rfl rfl ?_
  apply a_putfield d_C_become_2 p_C_9
  · (repeat (first | with_reducible assumption | with_reducible exact a_us | with_reducible exact a_ns | refine a_un (by first | with_reducible assumption | omega) ?_ | refine a_nn (by first | with_reducible assumption | omega | (simp only [a_upd_1, a_new_1]; omega)) ?_ | exact a_us | exact a_ns))
  · first | rfl | assumption
  · first | rfl | assumption
  · exact Nat.le_of_ble_eq_true rfl
  refine a_aload_n d_C_become_5 rfl rfl ?_
  refine a_iload_n d_C_become_6 rfl rfl ?_
  apply a_putfield d_C_become_7 p_C_15
  · (repeat (first | with_reducible assumption | with_reducible exact a_us | with_reducible exact a_ns | refine a_un (by first | with_reducible assumption | omega) ?_ | refine a_nn (by first | with_reducible assumption | omega | (simp only [a_upd_1, a_new_1]; omega)) ?_ | exact a_us | exact a_ns))
  · first | rfl | assumption
  · first | rfl | assumption
  · exact Nat.le_of_ble_eq_true rfl
  refine a_aload_n d_C_become_10 rfl rfl ?_
  refine a_iload_n d_C_become_11 rfl rfl ?_
  apply a_putfield d_C_become_12 p_C_18
  · (repeat (first | with_reducible assumption | with_reducible exact a_us | with_reducible exact a_ns | refine a_un (by first | with_reducible assumption | omega) ?_ | refine a_nn (by first | with_reducible assumption | omega | (simp only [a_upd_1, a_new_1]; omega)) ?_ | exact a_us | exact a_ns))
  · first | rfl | assumption
  · first | rfl | assumption
  · exact Nat.le_of_ble_eq_true rfl
  refine a_aload_n d_C_become_15 rfl rfl ?_
  refine a_iload d_C_become_16 rfl ?_
  apply a_putfield d_C_become_18 p_C_21
  · (repeat (first | with_reducible assumption | with_reducible exact a_us | with_reducible exact a_ns | refine a_un (by first | with_reducible assumption | omega) ?_ | refine a_nn (by first | with_reducible assumption | omega | (simp only [a_upd_1, a_new_1]; omega)) ?_ | exact a_us | exact a_ns))
  · first | rfl | assumption
  · first | rfl | assumption
  · exact Nat.le_of_ble_eq_true rfl
  refine a_return d_C_become_21 rfl ?_
  exact hK _ (by repeat (first | exact a_fr.rf | refine a_fr.upd ?_ (by omega) (by omega))) a_us

set_option maxHeartbeats 4000000 in
set_option maxRecDepth 100000 in
theorem tl_P_isTrue {r v : Int32} (hP : PO σ p q) (hK : K (some (.int (xorF v (tpart q r 3)))) σ) : a_J G m_P_isTrue 2 46 97 [(0, .ref p), (1, .int r), (5, .int v)] [] σ K := by
  obtain ⟨h0, h1, h2, h3, h4, h5, h6, h7, h8, h9, h10, hI⟩ := id hP
  refine a_iload d_P_isTrue_97 rfl ?_
  refine a_aload_n d_P_isTrue_99 rfl rfl ?_
  refine a_iload_n d_P_isTrue_100 rfl rfl ?_
  refine a_iconst (v := 3) d_P_isTrue_101 (by decide) ?_
  apply a_callV (ci := 2) 1 21 [_, _] _ d_P_isTrue_102 l_P_93 ⟨im_P_testPart, se_P_testPart⟩ rfl rfl rfl rfl (Nat.le_of_ble_eq_true rfl) ⟨Nat.le_of_ble_eq_true rfl, Nat.le_of_ble_eq_true rfl⟩
  · (repeat (first | with_reducible assumption | with_reducible exact a_us | with_reducible exact a_ns | refine a_un (by first | with_reducible assumption | omega) ?_ | refine a_nn (by first | with_reducible assumption | omega | (simp only [a_upd_1, a_new_1]; omega)) ?_ | exact a_us | exact a_ns))
  refine sp_P_testPart hP ?_
  refine a_iconst (v := 1) d_P_isTrue_105 (by decide) ?_
  refine a_icmp_ne (tgt := 113) d_P_isTrue_106 (by decide) (fun c_1 => ?_) (fun c_1 => ?_)
  · refine a_iconst (v := 0) d_P_isTrue_113 (by decide) ?_
    refine a_icmp_eq (tgt := 121) d_P_isTrue_114 (by decide) (fun c_2 => ?_) (fun c_2 => ?_)
    · refine a_iconst (v := 0) d_P_isTrue_121 (by decide) ?_
      refine a_ireturn d_P_isTrue_122 rfl rfl ?_
      first | exact hK | (simp only [xorF, if_neg c_1, if_pos c_2, if_true] at hK; exact hK) | contradiction
    · refine a_iconst (v := 1) d_P_isTrue_117 (by decide) ?_
      refine a_goto (tgt := 122) d_P_isTrue_118 (by decide) ?_
      refine a_ireturn d_P_isTrue_122 rfl rfl ?_
      first | exact hK | (simp only [xorF, if_neg c_1, if_neg c_2, if_true] at hK; exact hK) | contradiction
  · refine a_iconst (v := 1) d_P_isTrue_109 (by decide) ?_
    refine a_goto (tgt := 114) d_P_isTrue_110 (by decide) ?_
    refine a_icmp_eq (tgt := 121) d_P_isTrue_114 (by decide) (fun c_3 => ?_) (fun c_3 => ?_)
    · refine a_iconst (v := 0) d_P_isTrue_121 (by decide) ?_
      refine a_ireturn d_P_isTrue_122 rfl rfl ?_
      first | exact hK | (simp only [xorF, if_pos c_1, if_pos c_3, if_true] at hK; exact hK) | contradiction
    · refine a_iconst (v := 1) d_P_isTrue_117 (by decide) ?_
      refine a_goto (tgt := 122) d_P_isTrue_118 (by decide) ?_
      refine a_ireturn d_P_isTrue_122 rfl rfl ?_
      first | exact hK | (simp only [xorF, if_pos c_1, if_neg c_3, if_true] at hK; exact hK) | contradiction

set_option maxHeartbeats 4000000 in
set_option maxRecDepth 100000 in
theorem sp_P_isTrue {r : Int32} (hP : PO σ p q) (hC : CO σ cc l) (hK : K (some (.int (isT q l r))) σ) : a_C G m_P_isTrue 2 46 [.ref p, .int r, .ref cc] σ K := by
  obtain ⟨h0, h1, h2, h3, h4, h5, h6, h7, h8, h9, h10, hI⟩ := id hP
  have hC0 : σ.2.2 cc = some (.inr (1, [.int l.1, .int l.2.1, .int l.2.2.1, .int l.2.2.2])) := hC
  refine a_enter rfl (Nat.le_of_ble_eq_true rfl) ?_
  refine a_aload_n d_P_isTrue_0 rfl rfl ?_
  refine a_iload_n d_P_isTrue_1 rfl rfl ?_
  refine a_iconst (v := 1) d_P_isTrue_2 (by decide) ?_
  apply a_callV (ci := 2) 1 21 [_, _] _ d_P_isTrue_3 l_P_93 ⟨im_P_testPart, se_P_testPart⟩ rfl rfl rfl rfl (Nat.le_of_ble_eq_true rfl) ⟨Nat.le_of_ble_eq_true rfl, Nat.le_of_ble_eq_true rfl⟩
  · (repeat (first | with_reducible assumption | with_reducible exact a_us | with_reducible exact a_ns | refine a_un (by first | with_reducible assumption | omega) ?_ | refine a_nn (by first | with_reducible assumption | omega | (simp only [a_upd_1, a_new_1]; omega)) ?_ | exact a_us | exact a_ns))
  refine sp_P_testPart hP ?_
  refine a_istore_n d_P_isTrue_6 rfl (by decide) ?_
  refine a_aload_n d_P_isTrue_7 rfl rfl ?_
  refine a_iload_n d_P_isTrue_8 rfl rfl ?_
  refine a_iconst (v := 2) d_P_isTrue_9 (by decide) ?_
  apply a_callV (ci := 2) 1 21 [_, _] _ d_P_isTrue_10 l_P_93 ⟨im_P_testPart, se_P_testPart⟩ rfl rfl rfl rfl (Nat.le_of_ble_eq_true rfl) ⟨Nat.le_of_ble_eq_true rfl, Nat.le_of_ble_eq_true rfl⟩
  · (repeat (first | with_reducible assumption | with_reducible exact a_us | with_reducible exact a_ns | refine a_un (by first | with_reducible assumption | omega) ?_ | refine a_nn (by first | with_reducible assumption | omega | (simp only [a_upd_1, a_new_1]; omega)) ?_ | exact a_us | exact a_ns))
  refine sp_P_testPart hP ?_
  refine a_istore d_P_isTrue_13 (by decide) ?_
  refine a_aload_n d_P_isTrue_15 rfl rfl ?_
  refine a_iload_n d_P_isTrue_16 rfl rfl ?_
  refine a_iconst (v := 0) d_P_isTrue_17 (by decide) ?_
  apply a_callV (ci := 2) 1 21 [_, _] _ d_P_isTrue_18 l_P_93 ⟨im_P_testPart, se_P_testPart⟩ rfl rfl rfl rfl (Nat.le_of_ble_eq_true rfl) ⟨Nat.le_of_ble_eq_true rfl, Nat.le_of_ble_eq_true rfl⟩
  · (repeat (first | with_reducible assumption | with_reducible exact a_us | with_reducible exact a_ns | refine a_un (by first | with_reducible assumption | omega) ?_ | refine a_nn (by first | with_reducible assumption | omega | (simp only [a_upd_1, a_new_1]; omega)) ?_ | exact a_us | exact a_ns))
  refine sp_P_testPart hP ?_
  refine a_iconst (v := 1) d_P_isTrue_21 (by decide) ?_
  refine a_icmp_ne (tgt := 64) d_P_isTrue_22 (by decide) (fun c_1 => ?_) (fun c_1 => ?_)
  · refine a_aload_n d_P_isTrue_64 rfl rfl ?_
    refine a_iload_n d_P_isTrue_65 rfl rfl ?_
    apply a_callV (ci := 1) 1 20 [_] _ d_P_isTrue_66 l_P_107 ⟨im_C_has, se_C_has⟩ rfl rfl rfl rfl (Nat.le_of_ble_eq_true rfl) ⟨Nat.le_of_ble_eq_true rfl, Nat.le_of_ble_eq_true rfl⟩
    · (repeat (first | with_reducible assumption | with_reducible exact a_us | with_reducible exact a_ns | refine a_un (by first | with_reducible assumption | omega) ?_ | refine a_nn (by first | with_reducible assumption | omega | (simp only [a_upd_1, a_new_1]; omega)) ?_ | exact a_us | exact a_ns))
    refine sp_C_has hC ?_
    refine a_if_eq (tgt := 94) d_P_isTrue_69 (by decide) (fun c_2 => ?_) (fun c_2 => ?_)
    · refine a_iconst (v := 0) d_P_isTrue_94 (by decide) ?_
      refine a_istore d_P_isTrue_95 (by decide) ?_
      simp only [isT, plainF, if_neg c_1, if_pos c_2, if_true] at hK
      exact a_lvk (tl_P_isTrue hP hK) ⟨rfl, rfl, rfl, trivial⟩
    · refine a_aload_n d_P_isTrue_72 rfl rfl ?_
      refine a_iload_n d_P_isTrue_73 rfl rfl ?_
      apply a_callV (ci := 1) 0 0 [_] _ d_P_isTrue_74 l_P_110 ⟨im_C_argument, se_C_argument⟩ rfl rfl rfl rfl (Nat.le_of_ble_eq_true rfl) ⟨Nat.le_of_ble_eq_true rfl, Nat.le_of_ble_eq_true rfl⟩
      · (repeat (first | with_reducible assumption | with_reducible exact a_us | with_reducible exact a_ns | refine a_un (by first | with_reducible assumption | omega) ?_ | refine a_nn (by first | with_reducible assumption | omega | (simp only [a_upd_1, a_new_1]; omega)) ?_ | exact a_us | exact a_ns))
      refine sp_C_argument hC ?_
      refine a_iload d_P_isTrue_77 rfl ?_
      refine a_aload_n d_P_isTrue_79 rfl rfl ?_
      refine a_iload_n d_P_isTrue_80 rfl rfl ?_
      apply a_callV (ci := 2) 0 0 [_] _ d_P_isTrue_81 l_P_99 ⟨im_P_boundOf, se_P_boundOf⟩ rfl rfl rfl rfl (Nat.le_of_ble_eq_true rfl) ⟨Nat.le_of_ble_eq_true rfl, Nat.le_of_ble_eq_true rfl⟩
      · (repeat (first | with_reducible assumption | with_reducible exact a_us | with_reducible exact a_ns | refine a_un (by first | with_reducible assumption | omega) ?_ | refine a_nn (by first | with_reducible assumption | omega | (simp only [a_upd_1, a_new_1]; omega)) ?_ | exact a_us | exact a_ns))
      refine sp_P_boundOf hP ?_
      refine a_callS 0 0 [_, _, _] _ d_P_isTrue_84 l_P_103 is_P_compares rfl rfl (Nat.le_of_ble_eq_true rfl) ⟨Nat.le_of_ble_eq_true rfl, Nat.le_of_ble_eq_true rfl⟩ ?_
      refine sp_P_compares ?_
      refine a_if_eq (tgt := 94) d_P_isTrue_87 (by decide) (fun c_3 => ?_) (fun c_3 => ?_)
      · refine a_iconst (v := 0) d_P_isTrue_94 (by decide) ?_
        refine a_istore d_P_isTrue_95 (by decide) ?_
        simp only [isT, plainF, if_neg c_1, if_neg c_2, if_pos c_3, if_true] at hK
        exact a_lvk (tl_P_isTrue hP hK) ⟨rfl, rfl, rfl, trivial⟩
      · refine a_iconst (v := 1) d_P_isTrue_90 (by decide) ?_
        refine a_goto (tgt := 95) d_P_isTrue_91 (by decide) ?_
        refine a_istore d_P_isTrue_95 (by decide) ?_
        simp only [isT, plainF, if_neg c_1, if_neg c_2, if_neg c_3, if_true] at hK
        exact a_lvk (tl_P_isTrue hP hK) ⟨rfl, rfl, rfl, trivial⟩
  · refine a_aload_n d_P_isTrue_25 rfl rfl ?_
    refine a_iload_n d_P_isTrue_26 rfl rfl ?_
    refine a_iconst (v := 2) d_P_isTrue_27 (by decide) ?_
    apply a_callV (ci := 2) 1 23 [_, _] _ d_P_isTrue_28 l_P_96 ⟨im_P_counterPart, se_P_counterPart⟩ rfl rfl rfl rfl (Nat.le_of_ble_eq_true rfl) ⟨Nat.le_of_ble_eq_true rfl, Nat.le_of_ble_eq_true rfl⟩
    · (repeat (first | with_reducible assumption | with_reducible exact a_us | with_reducible exact a_ns | refine a_un (by first | with_reducible assumption | omega) ?_ | refine a_nn (by first | with_reducible assumption | omega | (simp only [a_upd_1, a_new_1]; omega)) ?_ | exact a_us | exact a_ns))
    refine sp_P_counterPart hP ?_
    refine a_istore d_P_isTrue_31 (by decide) ?_
    refine a_iload d_P_isTrue_33 rfl ?_
    refine a_iconst (v := (-1)) d_P_isTrue_35 (by decide) ?_
    refine a_icmp_eq (tgt := 58) d_P_isTrue_36 (by decide) (fun c_4 => ?_) (fun c_4 => ?_)
    · refine a_iconst (v := 0) d_P_isTrue_58 (by decide) ?_
      refine a_istore d_P_isTrue_59 (by decide) ?_
      refine a_goto (tgt := 97) d_P_isTrue_61 (by decide) ?_
      simp only [isT, plainF, if_pos c_1, if_pos c_4, if_true] at hK
      exact a_lvk (tl_P_isTrue hP hK) ⟨rfl, rfl, rfl, trivial⟩
    · refine a_iload d_P_isTrue_39 rfl ?_
      refine a_iload d_P_isTrue_41 rfl ?_
      refine a_aload_n d_P_isTrue_43 rfl rfl ?_
      refine a_iload_n d_P_isTrue_44 rfl rfl ?_
      apply a_callV (ci := 2) 0 0 [_] _ d_P_isTrue_45 l_P_99 ⟨im_P_boundOf, se_P_boundOf⟩ rfl rfl rfl rfl (Nat.le_of_ble_eq_true rfl) ⟨Nat.le_of_ble_eq_true rfl, Nat.le_of_ble_eq_true rfl⟩
      · (repeat (first | with_reducible assumption | with_reducible exact a_us | with_reducible exact a_ns | refine a_un (by first | with_reducible assumption | omega) ?_ | refine a_nn (by first | with_reducible assumption | omega | (simp only [a_upd_1, a_new_1]; omega)) ?_ | exact a_us | exact a_ns))
      refine sp_P_boundOf hP ?_
      refine a_callS 0 0 [_, _, _] _ d_P_isTrue_48 l_P_103 is_P_compares rfl rfl (Nat.le_of_ble_eq_true rfl) ⟨Nat.le_of_ble_eq_true rfl, Nat.le_of_ble_eq_true rfl⟩ ?_
      refine sp_P_compares ?_
      refine a_if_eq (tgt := 58) d_P_isTrue_51 (by decide) (fun c_5 => ?_) (fun c_5 => ?_)
      · refine a_iconst (v := 0) d_P_isTrue_58 (by decide) ?_
        refine a_istore d_P_isTrue_59 (by decide) ?_
        refine a_goto (tgt := 97) d_P_isTrue_61 (by decide) ?_
        simp only [isT, plainF, if_pos c_1, if_neg c_4, if_pos c_5, if_true] at hK
        exact a_lvk (tl_P_isTrue hP hK) ⟨rfl, rfl, rfl, trivial⟩
      · refine a_iconst (v := 1) d_P_isTrue_54 (by decide) ?_
        refine a_goto (tgt := 59) d_P_isTrue_55 (by decide) ?_
        refine a_istore d_P_isTrue_59 (by decide) ?_
        refine a_goto (tgt := 97) d_P_isTrue_61 (by decide) ?_
        simp only [isT, plainF, if_pos c_1, if_neg c_4, if_neg c_5, if_true] at hK
        exact a_lvk (tl_P_isTrue hP hK) ⟨rfl, rfl, rfl, trivial⟩

set_option maxHeartbeats 4000000 in
set_option maxRecDepth 100000 in
theorem lp_P_applies {r t : Nat} (hP : PO σ p q) (hC : CO σ cc l) (hr : r < 216) (ht : q.2.2 10 r = nI t) (ht4 : t ≤ 4) : ∀ n i : Nat, i + n = t → K (some (.int (apF q l r i n))) σ → a_J G m_P_applies 3 72 35 [(0, .ref p), (4, .ref cc), (5, .int (nI r)), (6, .int (nI i))] [] σ K := by
  obtain ⟨h0, h1, h2, h3, h4, h5, h6, h7, h8, h9, h10, hI⟩ := id hP
  have hC0 : σ.2.2 cc = some (.inr (1, [.int l.1, .int l.2.1, .int l.2.2.1, .int l.2.2.2])) := hC
  have ecl : (nI r).toNatClampNeg = r := nI_clamp (by omega)
  intro n
  induction n with
  | zero =>
    intro i hi hK
    refine a_iload d_P_applies_35 rfl ?_
    refine a_aload_n d_P_applies_37 rfl rfl ?_
    apply a_getfield d_P_applies_38 f_P_34
    · (repeat (first | with_reducible assumption | with_reducible exact a_us | with_reducible exact a_ns | refine a_un (by first | with_reducible assumption | omega) ?_ | refine a_nn (by first | with_reducible assumption | omega | (simp only [a_upd_1, a_new_1]; omega)) ?_ | exact a_us | exact a_ns))
    · rfl
    refine a_iload d_P_applies_41 rfl ?_
    apply a_iald (t0 := 0) d_P_applies_43 rfl
    · (repeat (first | with_reducible assumption | with_reducible exact a_us | with_reducible exact a_ns | refine a_un (by first | with_reducible assumption | omega) ?_ | refine a_nn (by first | with_reducible assumption | omega | (simp only [a_upd_1, a_new_1]; omega)) ?_ | exact a_us | exact a_ns))
    · exact vp_in_nI hr (by decide)
    rw [ecl, ht]
    refine a_icmp_ge (tgt := 71) d_P_applies_44 (by decide) (fun c_1 => ?_) (fun n9 => absurd (by rw [show i = t by omega]; exact Int32.le_refl _) n9)
    refine a_iconst (v := 1) d_P_applies_71 (by decide) ?_
    refine a_ireturn d_P_applies_72 rfl rfl ?_
    exact hK
  | succ n ih =>
    intro i hi hK
    refine a_iload d_P_applies_35 rfl ?_
    refine a_aload_n d_P_applies_37 rfl rfl ?_
    apply a_getfield d_P_applies_38 f_P_34
    · (repeat (first | with_reducible assumption | with_reducible exact a_us | with_reducible exact a_ns | refine a_un (by first | with_reducible assumption | omega) ?_ | refine a_nn (by first | with_reducible assumption | omega | (simp only [a_upd_1, a_new_1]; omega)) ?_ | exact a_us | exact a_ns))
    · rfl
    refine a_iload d_P_applies_41 rfl ?_
    apply a_iald (t0 := 0) d_P_applies_43 rfl
    · (repeat (first | with_reducible assumption | with_reducible exact a_us | with_reducible exact a_ns | refine a_un (by first | with_reducible assumption | omega) ?_ | refine a_nn (by first | with_reducible assumption | omega | (simp only [a_upd_1, a_new_1]; omega)) ?_ | exact a_us | exact a_ns))
    · exact vp_in_nI hr (by decide)
    rw [ecl, ht]
    refine a_icmp_ge (tgt := 71) d_P_applies_44 (by decide) (fun n9 => absurd n9 (nI_ge (show i < t by omega) (by omega))) (fun c_1 => ?_)
    refine a_aload_n d_P_applies_47 rfl rfl ?_
    refine a_iload d_P_applies_48 rfl ?_
    refine a_iconst (v := 4) d_P_applies_50 (by decide) ?_
    refine a_imul d_P_applies_51 ?_
    refine a_iload d_P_applies_52 rfl ?_
    refine a_iadd d_P_applies_54 ?_
    rw [show nI r * 4 + nI i = nI (r * 4 + i) by rw [show (4 : Int32) = nI 4 from rfl, pk_mul, nI_add]]
    refine a_aload d_P_applies_55 rfl ?_
    apply a_callV (ci := 2) 2 46 [_, _] _ d_P_applies_57 l_P_89 ⟨im_P_isTrue, se_P_isTrue⟩ rfl rfl rfl rfl (Nat.le_of_ble_eq_true rfl) ⟨Nat.le_of_ble_eq_true rfl, Nat.le_of_ble_eq_true rfl⟩
    · (repeat (first | with_reducible assumption | with_reducible exact a_us | with_reducible exact a_ns | refine a_un (by first | with_reducible assumption | omega) ?_ | refine a_nn (by first | with_reducible assumption | omega | (simp only [a_upd_1, a_new_1]; omega)) ?_ | exact a_us | exact a_ns))
    refine sp_P_isTrue hP hC ?_
    refine a_if_ne (tgt := 65) d_P_applies_60 (by decide) (fun c_2 => ?_) (fun c_2 => ?_)
    · refine a_iinc (c0 := 1) d_P_applies_65 rfl (by decide) (by decide) ?_
      refine a_goto (tgt := 35) d_P_applies_68 (by decide) ?_
      rw [apF, if_neg c_2] at hK
      exact a_lvk (ih (i + 1) (by omega) hK) ⟨rfl, rfl, rfl, by rw [← nI_1]; rfl, trivial⟩
    · refine a_iconst (v := 0) d_P_applies_63 (by decide) ?_
      refine a_ireturn d_P_applies_64 rfl rfl ?_
      rw [apF, if_pos c_2] at hK
      exact hK

/-- applies: the clause is there, it is of the call, its tests are true -/
def app (q : aP) (l : aC) (w k j : Int32) : Int32 := if crow q w k j = -1 then 0 else if isO l (q.2.2 8 (crow q w k j).toNatClampNeg) = 0 then 0 else apF q l (crow q w k j).toNatClampNeg 0 (q.2.2 10 (crow q w k j).toNatClampNeg).toNatClampNeg
set_option maxHeartbeats 4000000 in
set_option maxRecDepth 100000 in
theorem sp_P_applies {w k j : Int32} (hP : PO σ p q) (hC : CO σ cc l) (hK : K (some (.int (app q l w k j))) σ) : a_C G m_P_applies 3 72 [.ref p, .int w, .int k, .int j, .ref cc] σ K := by
  obtain ⟨h0, h1, h2, h3, h4, h5, h6, h7, h8, h9, h10, hI⟩ := id hP
  have hC0 : σ.2.2 cc = some (.inr (1, [.int l.1, .int l.2.1, .int l.2.2.1, .int l.2.2.2])) := hC
  refine a_enter rfl (Nat.le_of_ble_eq_true rfl) ?_
  refine a_aload_n d_P_applies_0 rfl rfl ?_
  refine a_iload_n d_P_applies_1 rfl rfl ?_
  refine a_iload_n d_P_applies_2 rfl rfl ?_
  refine a_iload_n d_P_applies_3 rfl rfl ?_
  apply a_callV (ci := 2) 1 22 [_, _, _] _ d_P_applies_4 l_P_57 ⟨im_P_clauseRow, se_P_clauseRow⟩ rfl rfl rfl rfl (Nat.le_of_ble_eq_true rfl) ⟨Nat.le_of_ble_eq_true rfl, Nat.le_of_ble_eq_true rfl⟩
  · (repeat (first | with_reducible assumption | with_reducible exact a_us | with_reducible exact a_ns | refine a_un (by first | with_reducible assumption | omega) ?_ | refine a_nn (by first | with_reducible assumption | omega | (simp only [a_upd_1, a_new_1]; omega)) ?_ | exact a_us | exact a_ns))
  refine sp_P_clauseRow hP ?_
  refine a_istore d_P_applies_7 (by decide) ?_
  refine a_iload d_P_applies_9 rfl ?_
  refine a_iconst (v := (-1)) d_P_applies_11 (by decide) ?_
  refine a_icmp_eq (tgt := 30) d_P_applies_12 (by decide) (fun c_1 => ?_) (fun c_1 => ?_)
  · refine a_iconst (v := 0) d_P_applies_30 (by decide) ?_
    refine a_ireturn d_P_applies_31 rfl rfl ?_
    simp only [app, if_pos c_1, if_true] at hK
    exact hK
  · refine a_aload d_P_applies_15 rfl ?_
    refine a_aload_n d_P_applies_17 rfl rfl ?_
    apply a_getfield d_P_applies_18 f_P_28
    · (repeat (first | with_reducible assumption | with_reducible exact a_us | with_reducible exact a_ns | refine a_un (by first | with_reducible assumption | omega) ?_ | refine a_nn (by first | with_reducible assumption | omega | (simp only [a_upd_1, a_new_1]; omega)) ?_ | exact a_us | exact a_ns))
    · rfl
    refine a_iload d_P_applies_21 rfl ?_
    apply a_iald (t0 := 0) d_P_applies_23 rfl
    · (repeat (first | with_reducible assumption | with_reducible exact a_us | with_reducible exact a_ns | refine a_un (by first | with_reducible assumption | omega) ?_ | refine a_nn (by first | with_reducible assumption | omega | (simp only [a_upd_1, a_new_1]; omega)) ?_ | exact a_us | exact a_ns))
    · exact crow_vp hI c_1
    apply a_callV (ci := 1) 0 0 [_] _ d_P_applies_24 l_P_84 ⟨im_C_isOf, se_C_isOf⟩ rfl rfl rfl rfl (Nat.le_of_ble_eq_true rfl) ⟨Nat.le_of_ble_eq_true rfl, Nat.le_of_ble_eq_true rfl⟩
    · (repeat (first | with_reducible assumption | with_reducible exact a_us | with_reducible exact a_ns | refine a_un (by first | with_reducible assumption | omega) ?_ | refine a_nn (by first | with_reducible assumption | omega | (simp only [a_upd_1, a_new_1]; omega)) ?_ | exact a_us | exact a_ns))
    refine sp_C_isOf hC ?_
    refine a_if_ne (tgt := 32) d_P_applies_27 (by decide) (fun c_2 => ?_) (fun c_2 => ?_)
    · refine a_iconst (v := 0) d_P_applies_32 (by decide) ?_
      refine a_istore d_P_applies_33 (by decide) ?_
      simp only [app, if_neg c_1, if_neg c_2, if_true] at hK
      obtain ⟨r, hr, er⟩ := crow_in hI c_1
      obtain ⟨t, ht, et⟩ := hI.2.2.2.2 r hr
      rw [er] at hK ⊢
      rw [nI_clamp (by omega), et, nI_clamp (by omega)] at hK
      exact a_lvk (lp_P_applies hP hC hr et ht t 0 (by omega) hK) ⟨rfl, rfl, rfl, rfl, trivial⟩
    · refine a_iconst (v := 0) d_P_applies_30 (by decide) ?_
      refine a_ireturn d_P_applies_31 rfl rfl ?_
      simp only [app, if_neg c_1, if_pos c_2, if_true] at hK
      exact hK

end ModP5
