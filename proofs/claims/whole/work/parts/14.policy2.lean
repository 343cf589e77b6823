/-! POLICY, second part: names, parts, what can be added -/
/-- lettersOf: how many of the first i fives of bits hold a letter -/
def lf (x : Int64) : Nat → Nat
  | 0 => 0
  | i + 1 => lf x i + (if x >>> ((nI (5 * i)).toInt64 &&& 63) &&& 31 = 0 then 0 else 1)
def fndF (q : aP) (w : Int32) (nm : Int64) (k : Nat) : Nat → Int32
  | 0 => -1
  | n + 1 => if nmf q w (nI k) = nm then nI k else fndF q w nm (k + 1) n
def fnd (q : aP) (w : Int32) (nm : Int64) : Int32 := fndF q w nm 0 (hcnt q w)
theorem hcnt_le {q : aP} (hq : PI q) (w : Int32) : hcnt q w ≤ 24 := by
  unfold hcnt
  have h1 := hq.1
  have h2 := hq.2.1
  split <;> omega
/-- find's own row: the first row of counters or of nodes -/
def fi (w : Int32) : Int32 := if w = 0 then 0 else 6
theorem fi_row {q : aP} (hq : PI q) {w : Int32} {k : Nat} (hk : k < hcnt q w) : hrow q w (nI k) = fi w + nI k ∧ ∃ j : Nat, j < 30 ∧ fi w + nI k = nI j := by
  have h1 := hq.1
  have h2 := hq.2.1
  have h3 := hcnt_le hq w
  have h0 : ¬ (nI k < 0) := nI_pos (by omega)
  unfold hrow fi
  unfold hcnt at hk
  rw [if_neg h0]
  by_cases b : w = 0
  · rw [if_pos b] at hk
    rw [if_pos b, if_pos b, if_pos (Int32.not_le.mp (nI_ge hk (by omega)))]
    have e : (0 : Int32) + nI k = nI k := (nI_add 0 k).trans (by rw [Nat.zero_add])
    exact ⟨e.symm, k, by omega, e⟩
  · rw [if_neg b] at hk
    rw [if_neg b, if_neg b, if_pos (Int32.not_le.mp (nI_ge hk (by omega)))]
    exact ⟨rfl, 6 + k, by omega, nI_add 6 k⟩
theorem fi_vp {q : aP} (hq : PI q) {w : Int32} {k : Nat} (hk : k < hcnt q w) : vp_in (fi w + nI k) 30 := by
  obtain ⟨-, j, hj, e⟩ := fi_row hq hk
  rw [e]; exact vp_in_nI hj (by decide)
theorem nmf_fi {q : aP} (hq : PI q) {w : Int32} {k : Nat} (hk : k < hcnt q w) : nmf q w (nI k) = q.2.1 (fi w + nI k).toNatClampNeg := by
  obtain ⟨e, j, hj, ej⟩ := fi_row hq hk
  unfold nmf
  rw [e, if_neg]
  rw [ej]
  exact fun e' => nI_pos (show j < 2 ^ 31 by omega) (by rw [e']; decide)
def cpart (q : aP) (k what : Int32) : Int32 := if hrow q 0 k = -1 then -1 else if what = 0 then q.2.2 5 (hrow q 0 k).toNatClampNeg else if what = 1 then q.2.2 4 (hrow q 0 k).toNatClampNeg else if what = 2 then q.2.2 6 (hrow q 0 k).toNatClampNeg else if what = 3 then nI (lf (q.2.1 (hrow q 0 k).toNatClampNeg) 12) else -1
def npart (q : aP) (k what : Int32) : Int32 := if hrow q 1 k = -1 then -1 else if what = 0 then q.2.2 4 (hrow q 1 k).toNatClampNeg else if what = 1 then nI (lf (q.2.1 (hrow q 1 k).toNatClampNeg) 12) else -1
def clpart (q : aP) (w k j what : Int32) : Int32 := if crow q w k j = -1 then -1 else if what = 0 then q.2.2 8 (crow q w k j).toNatClampNeg else if what = 1 then q.2.2 10 (crow q w k j).toNatClampNeg else if what = 2 then q.2.2 9 (crow q w k j).toNatClampNeg else -1
theorem hrow_vp0 {q : aP} (hq : PI q) {k : Int32} (h : ¬ hrow q 0 k = -1) : vp_in (hrow q 0 k) 6 := by
  rcases hrow_in hq h with ⟨-, j, hj, -, e⟩ | ⟨n, -⟩
  · rw [e]; exact vp_in_nI (by have := hq.1; omega) (by decide)
  · exact absurd rfl n
/-- canAddHead, canAddClause, canAddTest -/
def cah (q : aP) (w : Int32) : Int32 := if w = 0 then (if nI q.1.2.1 = 0 then (if nI q.1.1 < 6 then 1 else 0) else 0) else if nI q.1.2.1 < 24 then 1 else 0
def cac (q : aP) (w : Int32) : Int32 := if hrow q w (nI (hcnt q w) - 1) = -1 then 0 else if w = 0 then (if q.2.2 4 (hrow q w (nI (hcnt q w) - 1)).toNatClampNeg < 4 then 1 else 0) else if q.2.2 4 (hrow q w (nI (hcnt q w) - 1)).toNatClampNeg < 8 then 1 else 0
def cat (q : aP) (c : Int32) : Int32 := if c < 0 then 0 else if c < 216 then (if q.2.2 10 c.toNatClampNeg < 4 then 1 else 0) else 0
def shp (w x op t : Int32) : Int32 := x &&& 7 ||| ((op &&& 3) <<< ((3 : Int32) &&& 31)) ||| (if w = 0 then 0 else 32) ||| (if t = 0 then 0 else 64)
def cmpF (v op b : Int32) : Int32 := if op = 0 then (if v < b then 1 else 0) else if op = 1 then (if v = b then 1 else 0) else if b < v then 1 else 0
section ModP2
variable {G : aG} {σ : aS} {K : Option Value → aS → Prop} {p : Nat} {q : aP}
set_option maxHeartbeats 4000000 in
set_option maxRecDepth 100000 in
theorem sp_P_nameOf {w k : Int32} (hP : PO σ p q) (hK : K (some (.long (nmf q w k))) σ) : a_C G m_P_nameOf 1 22 [.ref p, .int w, .int k] σ K := by
  obtain ⟨h0, h1, h2, h3, h4, h5, h6, h7, h8, h9, h10, hI⟩ := id hP
  refine a_enter rfl (Nat.le_of_ble_eq_true rfl) ?_
  refine a_aload_n d_P_nameOf_0 rfl rfl ?_
  refine a_iload_n d_P_nameOf_1 rfl rfl ?_
  refine a_iload_n d_P_nameOf_2 rfl rfl ?_
  apply a_callV (ci := 2) 0 0 [_, _] _ d_P_nameOf_3 l_P_53 ⟨im_P_headRow, se_P_headRow⟩ rfl rfl rfl rfl (Nat.le_of_ble_eq_true rfl) ⟨Nat.le_of_ble_eq_true rfl, Nat.le_of_ble_eq_true rfl⟩
  · (repeat (first | with_reducible assumption | with_reducible exact a_us | with_reducible exact a_ns | refine a_un (by first | with_reducible assumption | omega) ?_ | refine a_nn (by first | with_reducible assumption | omega | (simp only [a_upd_1, a_new_1]; omega)) ?_ | exact a_us | exact a_ns))
  refine sp_P_headRow hP ?_
  refine a_istore_n d_P_nameOf_6 rfl (by decide) ?_
  refine a_iload_n d_P_nameOf_7 rfl rfl ?_
  refine a_iconst (v := (-1)) d_P_nameOf_8 (by decide) ?_
  refine a_icmp_ne (tgt := 16) d_P_nameOf_9 (by decide) (fun c_1 => ?_) (fun c_1 => ?_)
  · refine a_aload_n d_P_nameOf_16 rfl rfl ?_
    apply a_getfield d_P_nameOf_17 f_P_11
    · (repeat (first | with_reducible assumption | with_reducible exact a_us | with_reducible exact a_ns | refine a_un (by first | with_reducible assumption | omega) ?_ | refine a_nn (by first | with_reducible assumption | omega | (simp only [a_upd_1, a_new_1]; omega)) ?_ | exact a_us | exact a_ns))
    · rfl
    refine a_iload_n d_P_nameOf_20 rfl rfl ?_
    apply a_lald (t0 := 1) d_P_nameOf_21 rfl
    · (repeat (first | with_reducible assumption | with_reducible exact a_us | with_reducible exact a_ns | refine a_un (by first | with_reducible assumption | omega) ?_ | refine a_nn (by first | with_reducible assumption | omega | (simp only [a_upd_1, a_new_1]; omega)) ?_ | exact a_us | exact a_ns))
    · exact hrow_vp hI c_1
    refine a_lreturn d_P_nameOf_22 rfl ?_
    first | exact hK | (simp only [nmf, if_neg c_1, if_true] at hK; exact hK)
  · refine a_lconst (v := 0) d_P_nameOf_12 (by decide) ?_
    refine a_goto (tgt := 22) d_P_nameOf_13 (by decide) ?_
    refine a_lreturn d_P_nameOf_22 rfl ?_
    first | exact hK | (simp only [nmf, if_pos c_1, if_true] at hK; exact hK)

set_option maxHeartbeats 4000000 in
set_option maxRecDepth 100000 in
theorem lp_P_lettersOf {x : Int64} (hK : K (some (.int (nI (lf x 12)))) σ) : ∀ n i : Nat, i + n = 12 → a_J G m_P_lettersOf 0 0 4 [(0, .long x), (2, .int (nI (lf x i))), (3, .int (nI (5 * i)))] [] σ K := by
  intro n
  induction n with
  | zero =>
    intro i hi
    refine a_iload_n d_P_lettersOf_4 rfl rfl ?_
    refine a_bipush (v := 60) d_P_lettersOf_5 (by decide) ?_
    refine a_icmp_ge (tgt := 31) d_P_lettersOf_7 (by decide) (fun c_1 => ?_) (fun n9 => absurd (by rw [show i = 12 by omega]; decide) n9)
    refine a_iload_n d_P_lettersOf_31 rfl rfl ?_
    refine a_ireturn d_P_lettersOf_32 rfl rfl ?_
    rw [show i = 12 by omega]
    exact hK
  | succ n ih =>
    intro i hi
    refine a_iload_n d_P_lettersOf_4 rfl rfl ?_
    refine a_bipush (v := 60) d_P_lettersOf_5 (by decide) ?_
    refine a_icmp_ge (tgt := 31) d_P_lettersOf_7 (by decide) (fun n9 => absurd n9 (nI_ge (a := 5 * i) (b := 60) (by omega) (by decide))) (fun c_1 => ?_)
    refine a_lload_n d_P_lettersOf_10 rfl rfl ?_
    refine a_iload_n d_P_lettersOf_11 rfl rfl ?_
    refine a_lshr d_P_lettersOf_12 ?_
    refine a_ldc2 d_P_lettersOf_13 k_P_135 ?_
    refine a_land d_P_lettersOf_16 ?_
    refine a_lconst (v := 0) d_P_lettersOf_17 (by decide) ?_
    refine a_lcmp d_P_lettersOf_18 ?_
    refine a_if_eq (tgt := 25) d_P_lettersOf_19 (by decide) (fun c_2 => ?_) (fun c_2 => ?_)
    · refine a_iinc (c0 := 5) d_P_lettersOf_25 rfl (by decide) (by decide) ?_
      refine a_goto (tgt := 4) d_P_lettersOf_28 (by decide) ?_
      refine a_lv [(0, .long x), (2, .int (nI (lf x (i + 1)))), (3, .int (nI (5 * (i + 1))))] ⟨rfl, ?_, ?_, trivial⟩ (ih (i + 1) (by omega))
      · first | (rw [lf, if_pos ((lg_cmp_eq _ _).mp c_2)]; rfl) | (rw [lf, if_neg (fun e => c_2 ((lg_cmp_eq _ _).mpr e)), ← nI_1]; rfl)
      · rw [show 5 * (i + 1) = 5 * i + 5 by omega, ← nI_add]; rfl
    · refine a_iinc (c0 := 1) d_P_lettersOf_22 rfl (by decide) (by decide) ?_
      refine a_iinc (c0 := 5) d_P_lettersOf_25 rfl (by decide) (by decide) ?_
      refine a_goto (tgt := 4) d_P_lettersOf_28 (by decide) ?_
      refine a_lv [(0, .long x), (2, .int (nI (lf x (i + 1)))), (3, .int (nI (5 * (i + 1))))] ⟨rfl, ?_, ?_, trivial⟩ (ih (i + 1) (by omega))
      · first | (rw [lf, if_pos ((lg_cmp_eq _ _).mp c_2)]; rfl) | (rw [lf, if_neg (fun e => c_2 ((lg_cmp_eq _ _).mpr e)), ← nI_1]; rfl)
      · rw [show 5 * (i + 1) = 5 * i + 5 by omega, ← nI_add]; rfl

set_option maxHeartbeats 4000000 in
set_option maxRecDepth 100000 in
theorem sp_P_lettersOf {x : Int64} (hK : K (some (.int (nI (lf x 12)))) σ) : a_C G m_P_lettersOf 0 0 [.long x] σ K := by
  refine a_enter rfl (Nat.le_of_ble_eq_true rfl) ?_
  refine a_iconst (v := 0) d_P_lettersOf_0 (by decide) ?_
  refine a_istore_n d_P_lettersOf_1 rfl (by decide) ?_
  refine a_iconst (v := 0) d_P_lettersOf_2 (by decide) ?_
  refine a_istore_n d_P_lettersOf_3 rfl (by decide) ?_
  exact a_lvk (lp_P_lettersOf hK 12 0 rfl) ⟨rfl, rfl, rfl, trivial⟩

set_option maxHeartbeats 4000000 in
set_option maxRecDepth 100000 in
theorem lp_P_find {w : Int32} {nm : Int64} (hP : PO σ p q) : ∀ n k : Nat, k + n = hcnt q w → K (some (.int (fndF q w nm k n))) σ → a_J G m_P_find 1 21 15 [(0, .ref p), (1, .int w), (2, .long nm), (4, .int (fi w)), (5, .int (nI k))] [] σ K := by
  obtain ⟨h0, h1, h2, h3, h4, h5, h6, h7, h8, h9, h10, hI⟩ := id hP
  intro n
  induction n with
  | zero =>
    intro k hk hK
    refine a_iload d_P_find_15 rfl ?_
    refine a_aload_n d_P_find_17 rfl rfl ?_
    refine a_iload_n d_P_find_18 rfl rfl ?_
    apply a_callV (ci := 2) 0 0 [_] _ d_P_find_19 l_P_69 ⟨im_P_heads, se_P_heads⟩ rfl rfl rfl rfl (Nat.le_of_ble_eq_true rfl) ⟨Nat.le_of_ble_eq_true rfl, Nat.le_of_ble_eq_true rfl⟩
    · (repeat (first | with_reducible assumption | with_reducible exact a_us | with_reducible exact a_ns | refine a_un (by first | with_reducible assumption | omega) ?_ | refine a_nn (by first | with_reducible assumption | omega | (simp only [a_upd_1, a_new_1]; omega)) ?_ | exact a_us | exact a_ns))
    refine sp_P_heads hP ?_
    refine a_icmp_ge (tgt := 49) d_P_find_22 (by decide) (fun c_1 => ?_) (fun n9 => absurd (by rw [show k = hcnt q w by omega]; exact Int32.le_refl _) n9)
    refine a_iconst (v := (-1)) d_P_find_49 (by decide) ?_
    refine a_ireturn d_P_find_50 rfl rfl ?_
    exact hK
  | succ n ih =>
    intro k hk hK
    refine a_iload d_P_find_15 rfl ?_
    refine a_aload_n d_P_find_17 rfl rfl ?_
    refine a_iload_n d_P_find_18 rfl rfl ?_
    apply a_callV (ci := 2) 0 0 [_] _ d_P_find_19 l_P_69 ⟨im_P_heads, se_P_heads⟩ rfl rfl rfl rfl (Nat.le_of_ble_eq_true rfl) ⟨Nat.le_of_ble_eq_true rfl, Nat.le_of_ble_eq_true rfl⟩
    · (repeat (first | with_reducible assumption | with_reducible exact a_us | with_reducible exact a_ns | refine a_un (by first | with_reducible assumption | omega) ?_ | refine a_nn (by first | with_reducible assumption | omega | (simp only [a_upd_1, a_new_1]; omega)) ?_ | exact a_us | exact a_ns))
    refine sp_P_heads hP ?_
    refine a_icmp_ge (tgt := 49) d_P_find_22 (by decide) (fun n9 => absurd n9 (nI_ge (show k < hcnt q w by omega) (by have := hcnt_le hI w; omega))) (fun c_1 => ?_)
    refine a_aload_n d_P_find_25 rfl rfl ?_
    apply a_getfield d_P_find_26 f_P_11
    · (repeat (first | with_reducible assumption | with_reducible exact a_us | with_reducible exact a_ns | refine a_un (by first | with_reducible assumption | omega) ?_ | refine a_nn (by first | with_reducible assumption | omega | (simp only [a_upd_1, a_new_1]; omega)) ?_ | exact a_us | exact a_ns))
    · rfl
    refine a_iload d_P_find_29 rfl ?_
    refine a_iload d_P_find_31 rfl ?_
    refine a_iadd d_P_find_33 ?_
    apply a_lald (t0 := 1) d_P_find_34 rfl
    · (repeat (first | with_reducible assumption | with_reducible exact a_us | with_reducible exact a_ns | refine a_un (by first | with_reducible assumption | omega) ?_ | refine a_nn (by first | with_reducible assumption | omega | (simp only [a_upd_1, a_new_1]; omega)) ?_ | exact a_us | exact a_ns))
    · exact fi_vp hI (show k < hcnt q w by omega)
    refine a_lload_n d_P_find_35 rfl rfl ?_
    refine a_lcmp d_P_find_36 ?_
    refine a_if_ne (tgt := 43) d_P_find_37 (by decide) (fun c_2 => ?_) (fun c_2 => ?_)
    · refine a_iinc (c0 := 1) d_P_find_43 rfl (by decide) (by decide) ?_
      refine a_goto (tgt := 15) d_P_find_46 (by decide) ?_
      rw [fndF, if_neg (fun e => c_2 ((lg_cmp_eq _ _).mpr ((nmf_fi hI (show k < hcnt q w by omega)).symm.trans e)))] at hK
      exact a_lv [(0, .ref p), (1, .int w), (2, .long nm), (4, .int (fi w)), (5, .int (nI (k + 1)))] ⟨rfl, rfl, rfl, rfl, by rw [← nI_1]; rfl, trivial⟩ (ih (k + 1) (by omega) hK)
    · refine a_iload d_P_find_40 rfl ?_
      refine a_ireturn d_P_find_42 rfl rfl ?_
      rw [fndF, if_pos ((nmf_fi hI (show k < hcnt q w by omega)).trans ((lg_cmp_eq _ _).mp c_2))] at hK
      exact hK

set_option maxHeartbeats 4000000 in
set_option maxRecDepth 100000 in
theorem sp_P_find {w : Int32} {nm : Int64} (hP : PO σ p q) (hK : K (some (.int (fnd q w nm))) σ) : a_C G m_P_find 1 21 [.ref p, .int w, .long nm] σ K := by
  obtain ⟨h0, h1, h2, h3, h4, h5, h6, h7, h8, h9, h10, hI⟩ := id hP
  refine a_enter rfl (Nat.le_of_ble_eq_true rfl) ?_
  refine a_iload_n d_P_find_0 rfl rfl ?_
  refine a_if_eq (tgt := 9) d_P_find_1 (by decide) (fun c_1 => ?_) (fun c_1 => ?_)
  · refine a_iconst (v := 0) d_P_find_9 (by decide) ?_
    refine a_istore d_P_find_10 (by decide) ?_
    refine a_iconst (v := 0) d_P_find_12 (by decide) ?_
    refine a_istore d_P_find_13 (by decide) ?_
    exact a_lvk (lp_P_find hP (hcnt q w) 0 (by omega) hK) ⟨rfl, rfl, rfl, by first | (rw [fi, if_pos c_1]; rfl) | (rw [fi, if_neg c_1]; rfl), rfl, trivial⟩
  · refine a_bipush (v := 6) d_P_find_4 (by decide) ?_
    refine a_goto (tgt := 10) d_P_find_6 (by decide) ?_
    refine a_istore d_P_find_10 (by decide) ?_
    refine a_iconst (v := 0) d_P_find_12 (by decide) ?_
    refine a_istore d_P_find_13 (by decide) ?_
    exact a_lvk (lp_P_find hP (hcnt q w) 0 (by omega) hK) ⟨rfl, rfl, rfl, by first | (rw [fi, if_pos c_1]; rfl) | (rw [fi, if_neg c_1]; rfl), rfl, trivial⟩

set_option maxHeartbeats 4000000 in
set_option maxRecDepth 100000 in
theorem sp_P_counterPart {k what : Int32} (hP : PO σ p q) (hK : K (some (.int (cpart q k what))) σ) : a_C G m_P_counterPart 1 23 [.ref p, .int k, .int what] σ K := by
  obtain ⟨h0, h1, h2, h3, h4, h5, h6, h7, h8, h9, h10, hI⟩ := id hP
  refine a_enter rfl (Nat.le_of_ble_eq_true rfl) ?_
  refine a_aload_n d_P_counterPart_0 rfl rfl ?_
  refine a_iconst (v := 0) d_P_counterPart_1 (by decide) ?_
  refine a_iload_n d_P_counterPart_2 rfl rfl ?_
  apply a_callV (ci := 2) 0 0 [_, _] _ d_P_counterPart_3 l_P_53 ⟨im_P_headRow, se_P_headRow⟩ rfl rfl rfl rfl (Nat.le_of_ble_eq_true rfl) ⟨Nat.le_of_ble_eq_true rfl, Nat.le_of_ble_eq_true rfl⟩
  · (repeat (first | with_reducible assumption | with_reducible exact a_us | with_reducible exact a_ns | refine a_un (by first | with_reducible assumption | omega) ?_ | refine a_nn (by first | with_reducible assumption | omega | (simp only [a_upd_1, a_new_1]; omega)) ?_ | exact a_us | exact a_ns))
  refine sp_P_headRow hP ?_
  refine a_istore_n d_P_counterPart_6 rfl (by decide) ?_
  refine a_iload_n d_P_counterPart_7 rfl rfl ?_
  refine a_iconst (v := (-1)) d_P_counterPart_8 (by decide) ?_
  refine a_icmp_ne (tgt := 14) d_P_counterPart_9 (by decide) (fun c_1 => ?_) (fun c_1 => ?_)
  · refine a_iload_n d_P_counterPart_14 rfl rfl ?_
    refine a_tsw4_0 (t0 := 44) (t1 := 51) (t2 := 58) (t3 := 65) (td := 75) d_P_counterPart_15 (by decide) (by decide) (by decide) (by decide) (by decide) (fun c_2 => ?_) (fun c_3 => ?_) (fun c_4 => ?_) (fun c_5 => ?_) (fun c_6 c_7 c_8 c_9 => ?_)
    · refine a_aload_n d_P_counterPart_44 rfl rfl ?_
      apply a_getfield d_P_counterPart_45 f_P_19
      · (repeat (first | with_reducible assumption | with_reducible exact a_us | with_reducible exact a_ns | refine a_un (by first | with_reducible assumption | omega) ?_ | refine a_nn (by first | with_reducible assumption | omega | (simp only [a_upd_1, a_new_1]; omega)) ?_ | exact a_us | exact a_ns))
      · rfl
      refine a_iload_n d_P_counterPart_48 rfl rfl ?_
      apply a_iald (t0 := 0) d_P_counterPart_49 rfl
      · (repeat (first | with_reducible assumption | with_reducible exact a_us | with_reducible exact a_ns | refine a_un (by first | with_reducible assumption | omega) ?_ | refine a_nn (by first | with_reducible assumption | omega | (simp only [a_upd_1, a_new_1]; omega)) ?_ | exact a_us | exact a_ns))
      · first | exact hrow_vp hI c_1 | exact hrow_vp0 hI c_1
      refine a_ireturn d_P_counterPart_50 rfl (by first | rfl | assumption) ?_
      first | exact hK | (simp only [cpart, if_neg c_1, if_pos c_2, if_neg (sw_ne c_2 (show ¬ (0 : Int32) = 1 by decide)), if_neg (sw_ne c_2 (show ¬ (0 : Int32) = 2 by decide)), if_neg (sw_ne c_2 (show ¬ (0 : Int32) = 3 by decide)), if_true] at hK; exact hK) | contradiction
    · refine a_aload_n d_P_counterPart_51 rfl rfl ?_
      apply a_getfield d_P_counterPart_52 f_P_15
      · (repeat (first | with_reducible assumption | with_reducible exact a_us | with_reducible exact a_ns | refine a_un (by first | with_reducible assumption | omega) ?_ | refine a_nn (by first | with_reducible assumption | omega | (simp only [a_upd_1, a_new_1]; omega)) ?_ | exact a_us | exact a_ns))
      · rfl
      refine a_iload_n d_P_counterPart_55 rfl rfl ?_
      apply a_iald (t0 := 0) d_P_counterPart_56 rfl
      · (repeat (first | with_reducible assumption | with_reducible exact a_us | with_reducible exact a_ns | refine a_un (by first | with_reducible assumption | omega) ?_ | refine a_nn (by first | with_reducible assumption | omega | (simp only [a_upd_1, a_new_1]; omega)) ?_ | exact a_us | exact a_ns))
      · first | exact hrow_vp hI c_1 | exact hrow_vp0 hI c_1
      refine a_ireturn d_P_counterPart_57 rfl (by first | rfl | assumption) ?_
      first | exact hK | (simp only [cpart, if_neg c_1, if_pos c_3, if_neg (sw_ne c_3 (show ¬ (1 : Int32) = 0 by decide)), if_neg (sw_ne c_3 (show ¬ (1 : Int32) = 2 by decide)), if_neg (sw_ne c_3 (show ¬ (1 : Int32) = 3 by decide)), if_true] at hK; exact hK) | contradiction
    · refine a_aload_n d_P_counterPart_58 rfl rfl ?_
      apply a_getfield d_P_counterPart_59 f_P_22
      · (repeat (first | with_reducible assumption | with_reducible exact a_us | with_reducible exact a_ns | refine a_un (by first | with_reducible assumption | omega) ?_ | refine a_nn (by first | with_reducible assumption | omega | (simp only [a_upd_1, a_new_1]; omega)) ?_ | exact a_us | exact a_ns))
      · rfl
      refine a_iload_n d_P_counterPart_62 rfl rfl ?_
      apply a_iald (t0 := 0) d_P_counterPart_63 rfl
      · (repeat (first | with_reducible assumption | with_reducible exact a_us | with_reducible exact a_ns | refine a_un (by first | with_reducible assumption | omega) ?_ | refine a_nn (by first | with_reducible assumption | omega | (simp only [a_upd_1, a_new_1]; omega)) ?_ | exact a_us | exact a_ns))
      · first | exact hrow_vp hI c_1 | exact hrow_vp0 hI c_1
      refine a_ireturn d_P_counterPart_64 rfl (by first | rfl | assumption) ?_
      first | exact hK | (simp only [cpart, if_neg c_1, if_pos c_4, if_neg (sw_ne c_4 (show ¬ (2 : Int32) = 0 by decide)), if_neg (sw_ne c_4 (show ¬ (2 : Int32) = 1 by decide)), if_neg (sw_ne c_4 (show ¬ (2 : Int32) = 3 by decide)), if_true] at hK; exact hK) | contradiction
    · refine a_aload_n d_P_counterPart_65 rfl rfl ?_
      apply a_getfield d_P_counterPart_66 f_P_11
      · (repeat (first | with_reducible assumption | with_reducible exact a_us | with_reducible exact a_ns | refine a_un (by first | with_reducible assumption | omega) ?_ | refine a_nn (by first | with_reducible assumption | omega | (simp only [a_upd_1, a_new_1]; omega)) ?_ | exact a_us | exact a_ns))
      · rfl
      refine a_iload_n d_P_counterPart_69 rfl rfl ?_
      apply a_lald (t0 := 1) d_P_counterPart_70 rfl
      · (repeat (first | with_reducible assumption | with_reducible exact a_us | with_reducible exact a_ns | refine a_un (by first | with_reducible assumption | omega) ?_ | refine a_nn (by first | with_reducible assumption | omega | (simp only [a_upd_1, a_new_1]; omega)) ?_ | exact a_us | exact a_ns))
      · first | exact hrow_vp hI c_1 | exact hrow_vp0 hI c_1
      refine a_callS 0 0 [_] _ d_P_counterPart_71 l_P_61 is_P_lettersOf rfl rfl (Nat.le_of_ble_eq_true rfl) ⟨Nat.le_of_ble_eq_true rfl, Nat.le_of_ble_eq_true rfl⟩ ?_
      refine sp_P_lettersOf ?_
      refine a_ireturn d_P_counterPart_74 rfl (by first | rfl | assumption) ?_
      first | exact hK | (simp only [cpart, if_neg c_1, if_pos c_5, if_neg (sw_ne c_5 (show ¬ (3 : Int32) = 0 by decide)), if_neg (sw_ne c_5 (show ¬ (3 : Int32) = 1 by decide)), if_neg (sw_ne c_5 (show ¬ (3 : Int32) = 2 by decide)), if_true] at hK; exact hK) | contradiction
    · refine a_iconst (v := (-1)) d_P_counterPart_75 (by decide) ?_
      refine a_ireturn d_P_counterPart_76 rfl (by first | rfl | assumption) ?_
      first | exact hK | (simp only [cpart, if_neg c_1, if_neg c_6, if_neg c_7, if_neg c_8, if_neg c_9, if_true] at hK; exact hK) | contradiction
  · refine a_iconst (v := (-1)) d_P_counterPart_12 (by decide) ?_
    refine a_ireturn d_P_counterPart_13 rfl (by first | rfl | assumption) ?_
    first | exact hK | (simp only [cpart, if_pos c_1, if_true] at hK; exact hK) | contradiction

set_option maxHeartbeats 4000000 in
set_option maxRecDepth 100000 in
theorem sp_P_nodePart {k what : Int32} (hP : PO σ p q) (hK : K (some (.int (npart q k what))) σ) : a_C G m_P_nodePart 1 23 [.ref p, .int k, .int what] σ K := by
  obtain ⟨h0, h1, h2, h3, h4, h5, h6, h7, h8, h9, h10, hI⟩ := id hP
  refine a_enter rfl (Nat.le_of_ble_eq_true rfl) ?_
  refine a_aload_n d_P_nodePart_0 rfl rfl ?_
  refine a_iconst (v := 1) d_P_nodePart_1 (by decide) ?_
  refine a_iload_n d_P_nodePart_2 rfl rfl ?_
  apply a_callV (ci := 2) 0 0 [_, _] _ d_P_nodePart_3 l_P_53 ⟨im_P_headRow, se_P_headRow⟩ rfl rfl rfl rfl (Nat.le_of_ble_eq_true rfl) ⟨Nat.le_of_ble_eq_true rfl, Nat.le_of_ble_eq_true rfl⟩
  · (repeat (first | with_reducible assumption | with_reducible exact a_us | with_reducible exact a_ns | refine a_un (by first | with_reducible assumption | omega) ?_ | refine a_nn (by first | with_reducible assumption | omega | (simp only [a_upd_1, a_new_1]; omega)) ?_ | exact a_us | exact a_ns))
  refine sp_P_headRow hP ?_
  refine a_istore_n d_P_nodePart_6 rfl (by decide) ?_
  refine a_iload_n d_P_nodePart_7 rfl rfl ?_
  refine a_iconst (v := (-1)) d_P_nodePart_8 (by decide) ?_
  refine a_icmp_ne (tgt := 14) d_P_nodePart_9 (by decide) (fun c_1 => ?_) (fun c_1 => ?_)
  · refine a_iload_n d_P_nodePart_14 rfl rfl ?_
    refine a_lsw2_0 (t0 := 40) (t1 := 47) (td := 57) d_P_nodePart_15 (by decide) (by decide) (by decide) (fun c_2 => ?_) (fun c_3 => ?_) (fun c_4 c_5 => ?_)
    · refine a_aload_n d_P_nodePart_40 rfl rfl ?_
      apply a_getfield d_P_nodePart_41 f_P_15
      · (repeat (first | with_reducible assumption | with_reducible exact a_us | with_reducible exact a_ns | refine a_un (by first | with_reducible assumption | omega) ?_ | refine a_nn (by first | with_reducible assumption | omega | (simp only [a_upd_1, a_new_1]; omega)) ?_ | exact a_us | exact a_ns))
      · rfl
      refine a_iload_n d_P_nodePart_44 rfl rfl ?_
      apply a_iald (t0 := 0) d_P_nodePart_45 rfl
      · (repeat (first | with_reducible assumption | with_reducible exact a_us | with_reducible exact a_ns | refine a_un (by first | with_reducible assumption | omega) ?_ | refine a_nn (by first | with_reducible assumption | omega | (simp only [a_upd_1, a_new_1]; omega)) ?_ | exact a_us | exact a_ns))
      · exact hrow_vp hI c_1
      refine a_ireturn d_P_nodePart_46 rfl (by first | rfl | assumption) ?_
      first | exact hK | (simp only [npart, if_neg c_1, if_pos c_2, if_neg (sw_ne c_2 (show ¬ (0 : Int32) = 1 by decide)), if_true] at hK; exact hK) | contradiction
    · refine a_aload_n d_P_nodePart_47 rfl rfl ?_
      apply a_getfield d_P_nodePart_48 f_P_11
      · (repeat (first | with_reducible assumption | with_reducible exact a_us | with_reducible exact a_ns | refine a_un (by first | with_reducible assumption | omega) ?_ | refine a_nn (by first | with_reducible assumption | omega | (simp only [a_upd_1, a_new_1]; omega)) ?_ | exact a_us | exact a_ns))
      · rfl
      refine a_iload_n d_P_nodePart_51 rfl rfl ?_
      apply a_lald (t0 := 1) d_P_nodePart_52 rfl
      · (repeat (first | with_reducible assumption | with_reducible exact a_us | with_reducible exact a_ns | refine a_un (by first | with_reducible assumption | omega) ?_ | refine a_nn (by first | with_reducible assumption | omega | (simp only [a_upd_1, a_new_1]; omega)) ?_ | exact a_us | exact a_ns))
      · exact hrow_vp hI c_1
      refine a_callS 0 0 [_] _ d_P_nodePart_53 l_P_61 is_P_lettersOf rfl rfl (Nat.le_of_ble_eq_true rfl) ⟨Nat.le_of_ble_eq_true rfl, Nat.le_of_ble_eq_true rfl⟩ ?_
      refine sp_P_lettersOf ?_
      refine a_ireturn d_P_nodePart_56 rfl (by first | rfl | assumption) ?_
      first | exact hK | (simp only [npart, if_neg c_1, if_pos c_3, if_neg (sw_ne c_3 (show ¬ (1 : Int32) = 0 by decide)), if_true] at hK; exact hK) | contradiction
    · refine a_iconst (v := (-1)) d_P_nodePart_57 (by decide) ?_
      refine a_ireturn d_P_nodePart_58 rfl (by first | rfl | assumption) ?_
      first | exact hK | (simp only [npart, if_neg c_1, if_neg c_4, if_neg c_5, if_true] at hK; exact hK) | contradiction
  · refine a_iconst (v := (-1)) d_P_nodePart_12 (by decide) ?_
    refine a_ireturn d_P_nodePart_13 rfl (by first | rfl | assumption) ?_
    first | exact hK | (simp only [npart, if_pos c_1, if_true] at hK; exact hK) | contradiction

set_option maxHeartbeats 4000000 in
set_option maxRecDepth 100000 in
theorem sp_P_clausePart {w k j what : Int32} (hP : PO σ p q) (hK : K (some (.int (clpart q w k j what))) σ) : a_C G m_P_clausePart 2 46 [.ref p, .int w, .int k, .int j, .int what] σ K := by
  obtain ⟨h0, h1, h2, h3, h4, h5, h6, h7, h8, h9, h10, hI⟩ := id hP
  refine a_enter rfl (Nat.le_of_ble_eq_true rfl) ?_
  refine a_aload_n d_P_clausePart_0 rfl rfl ?_
  refine a_iload_n d_P_clausePart_1 rfl rfl ?_
  refine a_iload_n d_P_clausePart_2 rfl rfl ?_
  refine a_iload_n d_P_clausePart_3 rfl rfl ?_
  apply a_callV (ci := 2) 1 22 [_, _, _] _ d_P_clausePart_4 l_P_57 ⟨im_P_clauseRow, se_P_clauseRow⟩ rfl rfl rfl rfl (Nat.le_of_ble_eq_true rfl) ⟨Nat.le_of_ble_eq_true rfl, Nat.le_of_ble_eq_true rfl⟩
  · (repeat (first | with_reducible assumption | with_reducible exact a_us | with_reducible exact a_ns | refine a_un (by first | with_reducible assumption | omega) ?_ | refine a_nn (by first | with_reducible assumption | omega | (simp only [a_upd_1, a_new_1]; omega)) ?_ | exact a_us | exact a_ns))
  refine sp_P_clauseRow hP ?_
  refine a_istore d_P_clausePart_7 (by decide) ?_
  refine a_iload d_P_clausePart_9 rfl ?_
  refine a_iconst (v := (-1)) d_P_clausePart_11 (by decide) ?_
  refine a_icmp_ne (tgt := 17) d_P_clausePart_12 (by decide) (fun c_1 => ?_) (fun c_1 => ?_)
  · refine a_iload d_P_clausePart_17 rfl ?_
    refine a_tsw3_0 (t0 := 44) (t1 := 52) (t2 := 60) (td := 68) d_P_clausePart_19 (by decide) (by decide) (by decide) (by decide) (fun c_2 => ?_) (fun c_3 => ?_) (fun c_4 => ?_) (fun c_5 c_6 c_7 => ?_)
    · refine a_aload_n d_P_clausePart_44 rfl rfl ?_
      apply a_getfield d_P_clausePart_45 f_P_28
      · (repeat (first | with_reducible assumption | with_reducible exact a_us | with_reducible exact a_ns | refine a_un (by first | with_reducible assumption | omega) ?_ | refine a_nn (by first | with_reducible assumption | omega | (simp only [a_upd_1, a_new_1]; omega)) ?_ | exact a_us | exact a_ns))
      · rfl
      refine a_iload d_P_clausePart_48 rfl ?_
      apply a_iald (t0 := 0) d_P_clausePart_50 rfl
      · (repeat (first | with_reducible assumption | with_reducible exact a_us | with_reducible exact a_ns | refine a_un (by first | with_reducible assumption | omega) ?_ | refine a_nn (by first | with_reducible assumption | omega | (simp only [a_upd_1, a_new_1]; omega)) ?_ | exact a_us | exact a_ns))
      · exact crow_vp hI c_1
      refine a_ireturn d_P_clausePart_51 rfl (by first | rfl | assumption) ?_
      first | exact hK | (simp only [clpart, if_neg c_1, if_pos c_2, if_neg (sw_ne c_2 (show ¬ (0 : Int32) = 1 by decide)), if_neg (sw_ne c_2 (show ¬ (0 : Int32) = 2 by decide)), if_true] at hK; exact hK) | contradiction
    · refine a_aload_n d_P_clausePart_52 rfl rfl ?_
      apply a_getfield d_P_clausePart_53 f_P_34
      · (repeat (first | with_reducible assumption | with_reducible exact a_us | with_reducible exact a_ns | refine a_un (by first | with_reducible assumption | omega) ?_ | refine a_nn (by first | with_reducible assumption | omega | (simp only [a_upd_1, a_new_1]; omega)) ?_ | exact a_us | exact a_ns))
      · rfl
      refine a_iload d_P_clausePart_56 rfl ?_
      apply a_iald (t0 := 0) d_P_clausePart_58 rfl
      · (repeat (first | with_reducible assumption | with_reducible exact a_us | with_reducible exact a_ns | refine a_un (by first | with_reducible assumption | omega) ?_ | refine a_nn (by first | with_reducible assumption | omega | (simp only [a_upd_1, a_new_1]; omega)) ?_ | exact a_us | exact a_ns))
      · exact crow_vp hI c_1
      refine a_ireturn d_P_clausePart_59 rfl (by first | rfl | assumption) ?_
      first | exact hK | (simp only [clpart, if_neg c_1, if_pos c_3, if_neg (sw_ne c_3 (show ¬ (1 : Int32) = 0 by decide)), if_neg (sw_ne c_3 (show ¬ (1 : Int32) = 2 by decide)), if_true] at hK; exact hK) | contradiction
    · refine a_aload_n d_P_clausePart_60 rfl rfl ?_
      apply a_getfield d_P_clausePart_61 f_P_31
      · (repeat (first | with_reducible assumption | with_reducible exact a_us | with_reducible exact a_ns | refine a_un (by first | with_reducible assumption | omega) ?_ | refine a_nn (by first | with_reducible assumption | omega | (simp only [a_upd_1, a_new_1]; omega)) ?_ | exact a_us | exact a_ns))
      · rfl
      refine a_iload d_P_clausePart_64 rfl ?_
      apply a_iald (t0 := 0) d_P_clausePart_66 rfl
      · (repeat (first | with_reducible assumption | with_reducible exact a_us | with_reducible exact a_ns | refine a_un (by first | with_reducible assumption | omega) ?_ | refine a_nn (by first | with_reducible assumption | omega | (simp only [a_upd_1, a_new_1]; omega)) ?_ | exact a_us | exact a_ns))
      · exact crow_vp hI c_1
      refine a_ireturn d_P_clausePart_67 rfl (by first | rfl | assumption) ?_
      first | exact hK | (simp only [clpart, if_neg c_1, if_pos c_4, if_neg (sw_ne c_4 (show ¬ (2 : Int32) = 0 by decide)), if_neg (sw_ne c_4 (show ¬ (2 : Int32) = 1 by decide)), if_true] at hK; exact hK) | contradiction
    · refine a_iconst (v := (-1)) d_P_clausePart_68 (by decide) ?_
      refine a_ireturn d_P_clausePart_69 rfl (by first | rfl | assumption) ?_
      first | exact hK | (simp only [clpart, if_neg c_1, if_neg c_5, if_neg c_6, if_neg c_7, if_true] at hK; exact hK) | contradiction
  · refine a_iconst (v := (-1)) d_P_clausePart_15 (by decide) ?_
    refine a_ireturn d_P_clausePart_16 rfl (by first | rfl | assumption) ?_
    first | exact hK | (simp only [clpart, if_pos c_1, if_true] at hK; exact hK) | contradiction

set_option maxHeartbeats 4000000 in
set_option maxRecDepth 100000 in
theorem sp_P_canAddHead {w : Int32} (hP : PO σ p q) (hK : K (some (.int (cah q w))) σ) : a_C G m_P_canAddHead 0 0 [.ref p, .int w] σ K := by
  obtain ⟨h0, h1, h2, h3, h4, h5, h6, h7, h8, h9, h10, hI⟩ := id hP
  refine a_enter rfl (Nat.le_of_ble_eq_true rfl) ?_
  refine a_iload_n d_P_canAddHead_0 rfl rfl ?_
  refine a_if_eq (tgt := 21) d_P_canAddHead_1 (by decide) (fun c_1 => ?_) (fun c_1 => ?_)
  · refine a_aload_n d_P_canAddHead_21 rfl rfl ?_
    apply a_getfield d_P_canAddHead_22 f_P_43
    · (repeat (first | with_reducible assumption | with_reducible exact a_us | with_reducible exact a_ns | refine a_un (by first | with_reducible assumption | omega) ?_ | refine a_nn (by first | with_reducible assumption | omega | (simp only [a_upd_1, a_new_1]; omega)) ?_ | exact a_us | exact a_ns))
    · rfl
    refine a_if_ne (tgt := 41) d_P_canAddHead_25 (by decide) (fun c_2 => ?_) (fun c_2 => ?_)
    · refine a_iconst (v := 0) d_P_canAddHead_41 (by decide) ?_
      refine a_ireturn d_P_canAddHead_42 rfl (by first | rfl | assumption) ?_
      first | exact hK | (simp only [cah, if_pos c_1, if_neg c_2, if_true] at hK; exact hK) | contradiction
    · refine a_aload_n d_P_canAddHead_28 rfl rfl ?_
      apply a_getfield d_P_canAddHead_29 f_P_47
      · (repeat (first | with_reducible assumption | with_reducible exact a_us | with_reducible exact a_ns | refine a_un (by first | with_reducible assumption | omega) ?_ | refine a_nn (by first | with_reducible assumption | omega | (simp only [a_upd_1, a_new_1]; omega)) ?_ | exact a_us | exact a_ns))
      · rfl
      refine a_bipush (v := 6) d_P_canAddHead_32 (by decide) ?_
      refine a_icmp_ge (tgt := 41) d_P_canAddHead_34 (by decide) (fun c_3 => ?_) (fun c_3 => ?_)
      · refine a_iconst (v := 0) d_P_canAddHead_41 (by decide) ?_
        refine a_ireturn d_P_canAddHead_42 rfl (by first | rfl | assumption) ?_
        first | exact hK | (simp only [cah, if_pos c_1, if_pos c_2, if_pos c_3, if_neg (Int32.not_lt.mpr c_3), if_true] at hK; exact hK) | contradiction
      · refine a_iconst (v := 1) d_P_canAddHead_37 (by decide) ?_
        refine a_goto (tgt := 42) d_P_canAddHead_38 (by decide) ?_
        refine a_ireturn d_P_canAddHead_42 rfl (by first | rfl | assumption) ?_
        first | exact hK | (simp only [cah, if_pos c_1, if_pos c_2, if_neg c_3, if_pos (Int32.not_le.mp c_3), if_true] at hK; exact hK) | contradiction
  · refine a_aload_n d_P_canAddHead_4 rfl rfl ?_
    apply a_getfield d_P_canAddHead_5 f_P_43
    · (repeat (first | with_reducible assumption | with_reducible exact a_us | with_reducible exact a_ns | refine a_un (by first | with_reducible assumption | omega) ?_ | refine a_nn (by first | with_reducible assumption | omega | (simp only [a_upd_1, a_new_1]; omega)) ?_ | exact a_us | exact a_ns))
    · rfl
    refine a_bipush (v := 24) d_P_canAddHead_8 (by decide) ?_
    refine a_icmp_ge (tgt := 17) d_P_canAddHead_10 (by decide) (fun c_4 => ?_) (fun c_4 => ?_)
    · refine a_iconst (v := 0) d_P_canAddHead_17 (by decide) ?_
      refine a_goto (tgt := 42) d_P_canAddHead_18 (by decide) ?_
      refine a_ireturn d_P_canAddHead_42 rfl (by first | rfl | assumption) ?_
      first | exact hK | (simp only [cah, if_neg c_1, if_pos c_4, if_neg (Int32.not_lt.mpr c_4), if_true] at hK; exact hK) | contradiction
    · refine a_iconst (v := 1) d_P_canAddHead_13 (by decide) ?_
      refine a_goto (tgt := 42) d_P_canAddHead_14 (by decide) ?_
      refine a_ireturn d_P_canAddHead_42 rfl (by first | rfl | assumption) ?_
      first | exact hK | (simp only [cah, if_neg c_1, if_neg c_4, if_pos (Int32.not_le.mp c_4), if_true] at hK; exact hK) | contradiction

set_option maxHeartbeats 4000000 in
set_option maxRecDepth 100000 in
theorem sp_P_canAddClause {w : Int32} (hP : PO σ p q) (hK : K (some (.int (cac q w))) σ) : a_C G m_P_canAddClause 1 22 [.ref p, .int w] σ K := by
  obtain ⟨h0, h1, h2, h3, h4, h5, h6, h7, h8, h9, h10, hI⟩ := id hP
  refine a_enter rfl (Nat.le_of_ble_eq_true rfl) ?_
  refine a_aload_n d_P_canAddClause_0 rfl rfl ?_
  refine a_iload_n d_P_canAddClause_1 rfl rfl ?_
  refine a_aload_n d_P_canAddClause_2 rfl rfl ?_
  refine a_iload_n d_P_canAddClause_3 rfl rfl ?_
  apply a_callV (ci := 2) 0 0 [_] _ d_P_canAddClause_4 l_P_69 ⟨im_P_heads, se_P_heads⟩ rfl rfl rfl rfl (Nat.le_of_ble_eq_true rfl) ⟨Nat.le_of_ble_eq_true rfl, Nat.le_of_ble_eq_true rfl⟩
  · (repeat (first | with_reducible assumption | with_reducible exact a_us | with_reducible exact a_ns | refine a_un (by first | with_reducible assumption | omega) ?_ | refine a_nn (by first | with_reducible assumption | omega | (simp only [a_upd_1, a_new_1]; omega)) ?_ | exact a_us | exact a_ns))
  refine sp_P_heads hP ?_
  refine a_iconst (v := 1) d_P_canAddClause_7 (by decide) ?_
  refine a_isub d_P_canAddClause_8 ?_
  apply a_callV (ci := 2) 0 0 [_, _] _ d_P_canAddClause_9 l_P_53 ⟨im_P_headRow, se_P_headRow⟩ rfl rfl rfl rfl (Nat.le_of_ble_eq_true rfl) ⟨Nat.le_of_ble_eq_true rfl, Nat.le_of_ble_eq_true rfl⟩
  · (repeat (first | with_reducible assumption | with_reducible exact a_us | with_reducible exact a_ns | refine a_un (by first | with_reducible assumption | omega) ?_ | refine a_nn (by first | with_reducible assumption | omega | (simp only [a_upd_1, a_new_1]; omega)) ?_ | exact a_us | exact a_ns))
  refine sp_P_headRow hP ?_
  refine a_istore_n d_P_canAddClause_12 rfl (by decide) ?_
  refine a_iload_n d_P_canAddClause_13 rfl rfl ?_
  refine a_iconst (v := (-1)) d_P_canAddClause_14 (by decide) ?_
  refine a_icmp_eq (tgt := 41) d_P_canAddClause_15 (by decide) (fun c_1 => ?_) (fun c_1 => ?_)
  · refine a_iconst (v := 0) d_P_canAddClause_41 (by decide) ?_
    refine a_ireturn d_P_canAddClause_42 rfl (by first | rfl | assumption) ?_
    first | exact hK | (simp only [cac, if_pos c_1, if_true] at hK; exact hK) | contradiction
  · refine a_aload_n d_P_canAddClause_18 rfl rfl ?_
    apply a_getfield d_P_canAddClause_19 f_P_15
    · (repeat (first | with_reducible assumption | with_reducible exact a_us | with_reducible exact a_ns | refine a_un (by first | with_reducible assumption | omega) ?_ | refine a_nn (by first | with_reducible assumption | omega | (simp only [a_upd_1, a_new_1]; omega)) ?_ | exact a_us | exact a_ns))
    · rfl
    refine a_iload_n d_P_canAddClause_22 rfl rfl ?_
    apply a_iald (t0 := 0) d_P_canAddClause_23 rfl
    · (repeat (first | with_reducible assumption | with_reducible exact a_us | with_reducible exact a_ns | refine a_un (by first | with_reducible assumption | omega) ?_ | refine a_nn (by first | with_reducible assumption | omega | (simp only [a_upd_1, a_new_1]; omega)) ?_ | exact a_us | exact a_ns))
    · exact hrow_vp hI c_1
    refine a_iload_n d_P_canAddClause_24 rfl rfl ?_
    refine a_if_eq (tgt := 33) d_P_canAddClause_25 (by decide) (fun c_2 => ?_) (fun c_2 => ?_)
    · refine a_iconst (v := 4) d_P_canAddClause_33 (by decide) ?_
      refine a_icmp_ge (tgt := 41) d_P_canAddClause_34 (by decide) (fun c_3 => ?_) (fun c_3 => ?_)
      · refine a_iconst (v := 0) d_P_canAddClause_41 (by decide) ?_
        refine a_ireturn d_P_canAddClause_42 rfl (by first | rfl | assumption) ?_
        first | exact hK | (simp only [cac, if_neg c_1, if_pos c_2, if_pos c_3, if_neg (Int32.not_lt.mpr c_3), if_true] at hK; exact hK) | contradiction
      · refine a_iconst (v := 1) d_P_canAddClause_37 (by decide) ?_
        refine a_goto (tgt := 42) d_P_canAddClause_38 (by decide) ?_
        refine a_ireturn d_P_canAddClause_42 rfl (by first | rfl | assumption) ?_
        first | exact hK | (simp only [cac, if_neg c_1, if_pos c_2, if_neg c_3, if_pos (Int32.not_le.mp c_3), if_true] at hK; exact hK) | contradiction
    · refine a_bipush (v := 8) d_P_canAddClause_28 (by decide) ?_
      refine a_goto (tgt := 34) d_P_canAddClause_30 (by decide) ?_
      refine a_icmp_ge (tgt := 41) d_P_canAddClause_34 (by decide) (fun c_4 => ?_) (fun c_4 => ?_)
      · refine a_iconst (v := 0) d_P_canAddClause_41 (by decide) ?_
        refine a_ireturn d_P_canAddClause_42 rfl (by first | rfl | assumption) ?_
        first | exact hK | (simp only [cac, if_neg c_1, if_neg c_2, if_pos c_4, if_neg (Int32.not_lt.mpr c_4), if_true] at hK; exact hK) | contradiction
      · refine a_iconst (v := 1) d_P_canAddClause_37 (by decide) ?_
        refine a_goto (tgt := 42) d_P_canAddClause_38 (by decide) ?_
        refine a_ireturn d_P_canAddClause_42 rfl (by first | rfl | assumption) ?_
        first | exact hK | (simp only [cac, if_neg c_1, if_neg c_2, if_neg c_4, if_pos (Int32.not_le.mp c_4), if_true] at hK; exact hK) | contradiction

set_option maxHeartbeats 4000000 in
set_option maxRecDepth 100000 in
theorem sp_P_canAddTest {c : Int32} (hP : PO σ p q) (hK : K (some (.int (cat q c))) σ) : a_C G m_P_canAddTest 0 0 [.ref p, .int c] σ K := by
  obtain ⟨h0, h1, h2, h3, h4, h5, h6, h7, h8, h9, h10, hI⟩ := id hP
  refine a_enter rfl (Nat.le_of_ble_eq_true rfl) ?_
  refine a_iload_n d_P_canAddTest_0 rfl rfl ?_
  refine a_if_lt (tgt := 25) d_P_canAddTest_1 (by decide) (fun c_1 => ?_) (fun c_1 => ?_)
  · refine a_iconst (v := 0) d_P_canAddTest_25 (by decide) ?_
    refine a_ireturn d_P_canAddTest_26 rfl (by first | rfl | assumption) ?_
    first | exact hK | (simp only [cat, if_pos c_1, if_neg (Int32.not_le.mpr c_1), if_true] at hK; exact hK) | contradiction
  · refine a_iload_n d_P_canAddTest_4 rfl rfl ?_
    refine a_sipush (v := 216) d_P_canAddTest_5 (by decide) ?_
    refine a_icmp_ge (tgt := 25) d_P_canAddTest_8 (by decide) (fun c_2 => ?_) (fun c_2 => ?_)
    · refine a_iconst (v := 0) d_P_canAddTest_25 (by decide) ?_
      refine a_ireturn d_P_canAddTest_26 rfl (by first | rfl | assumption) ?_
      first | exact hK | (simp only [cat, if_neg c_1, if_pos (Int32.not_lt.mp c_1), if_pos c_2, if_neg (Int32.not_lt.mpr c_2), if_true] at hK; exact hK) | contradiction
    · refine a_aload_n d_P_canAddTest_11 rfl rfl ?_
      apply a_getfield d_P_canAddTest_12 f_P_34
      · (repeat (first | with_reducible assumption | with_reducible exact a_us | with_reducible exact a_ns | refine a_un (by first | with_reducible assumption | omega) ?_ | refine a_nn (by first | with_reducible assumption | omega | (simp only [a_upd_1, a_new_1]; omega)) ?_ | exact a_us | exact a_ns))
      · rfl
      refine a_iload_n d_P_canAddTest_15 rfl rfl ?_
      apply a_iald (t0 := 0) d_P_canAddTest_16 rfl
      · (repeat (first | with_reducible assumption | with_reducible exact a_us | with_reducible exact a_ns | refine a_un (by first | with_reducible assumption | omega) ?_ | refine a_nn (by first | with_reducible assumption | omega | (simp only [a_upd_1, a_new_1]; omega)) ?_ | exact a_us | exact a_ns))
      · exact vp_lt (N := 216) (M := 216) (by decide) (by decide) c_1 (Int32.not_le.mp c_2)
      refine a_iconst (v := 4) d_P_canAddTest_17 (by decide) ?_
      refine a_icmp_ge (tgt := 25) d_P_canAddTest_18 (by decide) (fun c_3 => ?_) (fun c_3 => ?_)
      · refine a_iconst (v := 0) d_P_canAddTest_25 (by decide) ?_
        refine a_ireturn d_P_canAddTest_26 rfl (by first | rfl | assumption) ?_
        first | exact hK | (simp only [cat, if_neg c_1, if_pos (Int32.not_lt.mp c_1), if_neg c_2, if_pos (Int32.not_le.mp c_2), if_pos c_3, if_neg (Int32.not_lt.mpr c_3), if_true] at hK; exact hK) | contradiction
      · refine a_iconst (v := 1) d_P_canAddTest_21 (by decide) ?_
        refine a_goto (tgt := 26) d_P_canAddTest_22 (by decide) ?_
        refine a_ireturn d_P_canAddTest_26 rfl (by first | rfl | assumption) ?_
        first | exact hK | (simp only [cat, if_neg c_1, if_pos (Int32.not_lt.mp c_1), if_neg c_2, if_pos (Int32.not_le.mp c_2), if_neg c_3, if_pos (Int32.not_le.mp c_3), if_true] at hK; exact hK) | contradiction

set_option maxHeartbeats 4000000 in
set_option maxRecDepth 100000 in
theorem sp_P_shapeOf {w x op t : Int32} (hK : K (some (.int (shp w x op t))) σ) : a_C G m_P_shapeOf 0 0 [.int w, .int x, .int op, .int t] σ K := by
  refine a_enter rfl (Nat.le_of_ble_eq_true rfl) ?_
  refine a_iload_n d_P_shapeOf_0 rfl rfl ?_
  refine a_bipush (v := 7) d_P_shapeOf_1 (by decide) ?_
  refine a_iand d_P_shapeOf_3 ?_
  refine a_iload_n d_P_shapeOf_4 rfl rfl ?_
  refine a_iconst (v := 3) d_P_shapeOf_5 (by decide) ?_
  refine a_iand d_P_shapeOf_6 ?_
  refine a_iconst (v := 3) d_P_shapeOf_7 (by decide) ?_
  refine a_ishl d_P_shapeOf_8 ?_
  refine a_ior d_P_shapeOf_9 ?_
  refine a_iload_n d_P_shapeOf_10 rfl rfl ?_
  refine a_if_eq (tgt := 19) d_P_shapeOf_11 (by decide) (fun c_1 => ?_) (fun c_1 => ?_)
  · refine a_iconst (v := 0) d_P_shapeOf_19 (by decide) ?_
    refine a_ior d_P_shapeOf_20 ?_
    refine a_iload_n d_P_shapeOf_21 rfl rfl ?_
    refine a_if_eq (tgt := 30) d_P_shapeOf_22 (by decide) (fun c_2 => ?_) (fun c_2 => ?_)
    · refine a_iconst (v := 0) d_P_shapeOf_30 (by decide) ?_
      refine a_ior d_P_shapeOf_31 ?_
      refine a_ireturn d_P_shapeOf_32 rfl (by first | rfl | assumption) ?_
      first | exact hK | (simp only [shp, if_pos c_1, if_pos c_2, if_true] at hK; exact hK) | contradiction
    · refine a_bipush (v := 64) d_P_shapeOf_25 (by decide) ?_
      refine a_goto (tgt := 31) d_P_shapeOf_27 (by decide) ?_
      refine a_ior d_P_shapeOf_31 ?_
      refine a_ireturn d_P_shapeOf_32 rfl (by first | rfl | assumption) ?_
      first | exact hK | (simp only [shp, if_pos c_1, if_neg c_2, if_true] at hK; exact hK) | contradiction
  · refine a_bipush (v := 32) d_P_shapeOf_14 (by decide) ?_
    refine a_goto (tgt := 20) d_P_shapeOf_16 (by decide) ?_
    refine a_ior d_P_shapeOf_20 ?_
    refine a_iload_n d_P_shapeOf_21 rfl rfl ?_
    refine a_if_eq (tgt := 30) d_P_shapeOf_22 (by decide) (fun c_3 => ?_) (fun c_3 => ?_)
    · refine a_iconst (v := 0) d_P_shapeOf_30 (by decide) ?_
      refine a_ior d_P_shapeOf_31 ?_
      refine a_ireturn d_P_shapeOf_32 rfl (by first | rfl | assumption) ?_
      first | exact hK | (simp only [shp, if_neg c_1, if_pos c_3, if_true] at hK; exact hK) | contradiction
    · refine a_bipush (v := 64) d_P_shapeOf_25 (by decide) ?_
      refine a_goto (tgt := 31) d_P_shapeOf_27 (by decide) ?_
      refine a_ior d_P_shapeOf_31 ?_
      refine a_ireturn d_P_shapeOf_32 rfl (by first | rfl | assumption) ?_
      first | exact hK | (simp only [shp, if_neg c_1, if_neg c_3, if_true] at hK; exact hK) | contradiction

set_option maxHeartbeats 4000000 in
set_option maxRecDepth 100000 in
theorem sp_P_compares {v op b : Int32} (hK : K (some (.int (cmpF v op b))) σ) : a_C G m_P_compares 0 0 [.int v, .int op, .int b] σ K := by
  refine a_enter rfl (Nat.le_of_ble_eq_true rfl) ?_
  refine a_iload_n d_P_compares_0 rfl rfl ?_
  refine a_if_ne (tgt := 15) d_P_compares_1 (by decide) (fun c_1 => ?_) (fun c_1 => ?_)
  · refine a_iload_n d_P_compares_15 rfl rfl ?_
    refine a_iconst (v := 1) d_P_compares_16 (by decide) ?_
    refine a_icmp_ne (tgt := 33) d_P_compares_17 (by decide) (fun c_2 => ?_) (fun c_2 => ?_)
    · refine a_iload_n d_P_compares_33 rfl rfl ?_
      refine a_iload_n d_P_compares_34 rfl rfl ?_
      refine a_icmp_le (tgt := 42) d_P_compares_35 (by decide) (fun c_3 => ?_) (fun c_3 => ?_)
      · refine a_iconst (v := 0) d_P_compares_42 (by decide) ?_
        refine a_ireturn d_P_compares_43 rfl (by first | rfl | assumption) ?_
        first | exact hK | (simp only [cmpF, if_neg c_1, if_neg c_2, if_pos c_3, if_neg (Int32.not_lt.mpr c_3), if_true] at hK; exact hK) | contradiction
      · refine a_iconst (v := 1) d_P_compares_38 (by decide) ?_
        refine a_goto (tgt := 43) d_P_compares_39 (by decide) ?_
        refine a_ireturn d_P_compares_43 rfl (by first | rfl | assumption) ?_
        first | exact hK | (simp only [cmpF, if_neg c_1, if_neg c_2, if_neg c_3, if_pos (Int32.not_le.mp c_3), if_true] at hK; exact hK) | contradiction
    · refine a_iload_n d_P_compares_20 rfl rfl ?_
      refine a_iload_n d_P_compares_21 rfl rfl ?_
      refine a_icmp_ne (tgt := 29) d_P_compares_22 (by decide) (fun c_4 => ?_) (fun c_4 => ?_)
      · refine a_iconst (v := 0) d_P_compares_29 (by decide) ?_
        refine a_goto (tgt := 43) d_P_compares_30 (by decide) ?_
        refine a_ireturn d_P_compares_43 rfl (by first | rfl | assumption) ?_
        first | exact hK | (simp only [cmpF, if_neg c_1, if_pos c_2, if_neg c_4, if_true] at hK; exact hK) | contradiction
      · refine a_iconst (v := 1) d_P_compares_25 (by decide) ?_
        refine a_goto (tgt := 43) d_P_compares_26 (by decide) ?_
        refine a_ireturn d_P_compares_43 rfl (by first | rfl | assumption) ?_
        first | exact hK | (simp only [cmpF, if_neg c_1, if_pos c_2, if_pos c_4, if_true] at hK; exact hK) | contradiction
  · refine a_iload_n d_P_compares_4 rfl rfl ?_
    refine a_iload_n d_P_compares_5 rfl rfl ?_
    refine a_icmp_ge (tgt := 13) d_P_compares_6 (by decide) (fun c_5 => ?_) (fun c_5 => ?_)
    · refine a_iconst (v := 0) d_P_compares_13 (by decide) ?_
      refine a_ireturn d_P_compares_14 rfl (by first | rfl | assumption) ?_
      first | exact hK | (simp only [cmpF, if_pos c_1, if_pos c_5, if_neg (Int32.not_lt.mpr c_5), if_true] at hK; exact hK) | contradiction
    · refine a_iconst (v := 1) d_P_compares_9 (by decide) ?_
      refine a_goto (tgt := 14) d_P_compares_10 (by decide) ?_
      refine a_ireturn d_P_compares_14 rfl (by first | rfl | assumption) ?_
      first | exact hK | (simp only [cmpF, if_pos c_1, if_neg c_5, if_pos (Int32.not_le.mp c_5), if_true] at hK; exact hK) | contradiction

end ModP2
