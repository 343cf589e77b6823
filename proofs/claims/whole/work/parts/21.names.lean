/-! TOKENS, second part: names -/
/-- are the m bytes from p letters? -/
def alL (f : Nat → Nat) : Nat → Nat → Int32
  | 0, _ => 1
  | m + 1, p => if leF (nI (f p)) = 0 then 0 else alL f m (p + 1)
def nm32 (n : Nat) (f : Nat → Nat) (p : Nat) : Int64 := nmE n f 12 p 0
/-- takeName's answer: letters alone, 12 at most -/
def tnF (f : Nat → Nat) (p e : Nat) : Int32 := if alL f (e - p) p = 0 then 0 else if nI 12 < nI e - nI p then 0 else 1
section ModT2
variable {G : aG} {σ : aS} {K : Option Value → aS → Prop} {t b cap n : Nat} {f : Nat → Nat} {k : aT}
set_option maxHeartbeats 4000000 in
set_option maxRecDepth 100000 in
theorem lp_T_nameAt {p : Nat} (hB : BY σ b cap n f) (hT : TO σ t b k) (hp : p < 65536) : ∀ (m i : Nat) (v : Int64), i + m = p + 12 → K (some (.long (nmE n f m i v))) σ → a_J G m_T_nameAt 1 21 5 [(0, .ref t), (1, .int (nI p)), (2, .long v), (4, .int (nI i))] [] σ K := by
  have hcap : n ≤ cap ∧ cap < 65536 := by obtain ⟨g, h1, h2, h3, h4, h5⟩ := hB; exact ⟨h3, h4⟩
  obtain ⟨g, hB0, hB1, -⟩ := id hB
  have hT0 : σ.2.2 t = some (.inr (5, [.ref b, .int (nI k.1), .int k.2.1, .int (nI k.2.2.1), .long k.2.2.2.1, .int k.2.2.2.2])) := hT
  intro m
  induction m with
  | zero =>
    intro i v hi hK
    refine a_iload d_T_nameAt_5 rfl ?_
    refine a_iload_n d_T_nameAt_7 rfl rfl ?_
    refine a_bipush (v := 12) d_T_nameAt_8 (by decide) ?_
    refine a_iadd d_T_nameAt_10 ?_
    rw [show nI p + 12 = nI (p + 12) from nI_add p 12]
    refine a_icmp_ge (tgt := 55) d_T_nameAt_11 (by decide) (fun c_1 => ?_) (fun n9 => absurd (by rw [show i = p + 12 by omega]; exact Int32.le_refl _) n9)
    refine a_lload_n d_T_nameAt_55 rfl rfl ?_
    exact a_lreturn d_T_nameAt_56 rfl hK
  | succ m ih =>
    intro i v hi hK
    refine a_iload d_T_nameAt_5 rfl ?_
    refine a_iload_n d_T_nameAt_7 rfl rfl ?_
    refine a_bipush (v := 12) d_T_nameAt_8 (by decide) ?_
    refine a_iadd d_T_nameAt_10 ?_
    rw [show nI p + 12 = nI (p + 12) from nI_add p 12]
    refine a_icmp_ge (tgt := 55) d_T_nameAt_11 (by decide) (fun n9 => absurd n9 (nI_ge (show i < p + 12 by omega) (by omega))) (fun c_1 => ?_)
    refine a_aload_n d_T_nameAt_14 rfl rfl ?_
    apply a_getfield d_T_nameAt_15 f_T_9
    · (repeat (first | with_reducible assumption | with_reducible exact a_us | with_reducible exact a_ns | refine a_un (by first | with_reducible assumption | omega) ?_ | refine a_nn (by first | with_reducible assumption | omega | (simp only [a_upd_1, a_new_1]; omega)) ?_ | exact a_us | exact a_ns))
    · rfl
    refine a_iload d_T_nameAt_18 rfl ?_
    apply a_callV (ci := 0) 0 0 [_] _ d_T_nameAt_20 l_T_41 ⟨im_B_at, se_B_at⟩ rfl rfl rfl rfl (Nat.le_of_ble_eq_true rfl) ⟨Nat.le_of_ble_eq_true rfl, Nat.le_of_ble_eq_true rfl⟩
    · (repeat (first | with_reducible assumption | with_reducible exact a_us | with_reducible exact a_ns | refine a_un (by first | with_reducible assumption | omega) ?_ | refine a_nn (by first | with_reducible assumption | omega | (simp only [a_upd_1, a_new_1]; omega)) ?_ | exact a_us | exact a_ns))
    refine sp_B_at hB ?_
    refine a_callS 0 0 [_] _ d_T_nameAt_23 l_T_98 is_T_isLetter rfl rfl (Nat.le_of_ble_eq_true rfl) ⟨Nat.le_of_ble_eq_true rfl, Nat.le_of_ble_eq_true rfl⟩ ?_
    refine sp_T_isLetter ?_
    refine a_if_eq (tgt := 55) d_T_nameAt_26 (by decide) (fun c_2 => ?_) (fun c_2 => ?_)
    · refine a_lload_n d_T_nameAt_55 rfl rfl ?_
      rw [nmE, if_pos c_2] at hK
      exact a_lreturn d_T_nameAt_56 rfl hK
    · refine a_lload_n d_T_nameAt_29 rfl rfl ?_
      refine a_iconst (v := 5) d_T_nameAt_30 (by decide) ?_
      refine a_lshl d_T_nameAt_31 ?_
      refine a_aload_n d_T_nameAt_32 rfl rfl ?_
      apply a_getfield d_T_nameAt_33 f_T_9
      · (repeat (first | with_reducible assumption | with_reducible exact a_us | with_reducible exact a_ns | refine a_un (by first | with_reducible assumption | omega) ?_ | refine a_nn (by first | with_reducible assumption | omega | (simp only [a_upd_1, a_new_1]; omega)) ?_ | exact a_us | exact a_ns))
      · rfl
      refine a_iload d_T_nameAt_36 rfl ?_
      apply a_callV (ci := 0) 0 0 [_] _ d_T_nameAt_38 l_T_41 ⟨im_B_at, se_B_at⟩ rfl rfl rfl rfl (Nat.le_of_ble_eq_true rfl) ⟨Nat.le_of_ble_eq_true rfl, Nat.le_of_ble_eq_true rfl⟩
      · (repeat (first | with_reducible assumption | with_reducible exact a_us | with_reducible exact a_ns | refine a_un (by first | with_reducible assumption | omega) ?_ | refine a_nn (by first | with_reducible assumption | omega | (simp only [a_upd_1, a_new_1]; omega)) ?_ | exact a_us | exact a_ns))
      refine sp_B_at hB ?_
      refine a_bipush (v := 97) d_T_nameAt_41 (by decide) ?_
      refine a_isub d_T_nameAt_43 ?_
      refine a_iconst (v := 1) d_T_nameAt_44 (by decide) ?_
      refine a_iadd d_T_nameAt_45 ?_
      refine a_i2l d_T_nameAt_46 ?_
      refine a_lor d_T_nameAt_47 ?_
      refine a_lstore_n d_T_nameAt_48 rfl (by decide) ?_
      refine a_iinc (c0 := 1) d_T_nameAt_49 rfl (by decide) (by decide) ?_
      refine a_goto (tgt := 5) d_T_nameAt_52 (by decide) ?_
      rw [nmE, if_neg c_2] at hK
      exact a_lvk (ih (i + 1) _ (by omega) hK) ⟨rfl, rfl, rfl, by rw [← nI_1]; rfl, trivial⟩

set_option maxHeartbeats 4000000 in
set_option maxRecDepth 100000 in
theorem sp_T_nameAt {p : Nat} (hB : BY σ b cap n f) (hT : TO σ t b k) (hp : p < 65536) (hK : K (some (.long (nm32 n f p))) σ) : a_C G m_T_nameAt 1 21 [.ref t, .int (nI p)] σ K := by
  have hT0 : σ.2.2 t = some (.inr (5, [.ref b, .int (nI k.1), .int k.2.1, .int (nI k.2.2.1), .long k.2.2.2.1, .int k.2.2.2.2])) := hT
  refine a_enter rfl (Nat.le_of_ble_eq_true rfl) ?_
  refine a_lconst (v := 0) d_T_nameAt_0 (by decide) ?_
  refine a_lstore_n d_T_nameAt_1 rfl (by decide) ?_
  refine a_iload_n d_T_nameAt_2 rfl rfl ?_
  refine a_istore d_T_nameAt_3 (by decide) ?_
  exact a_lvk (lp_T_nameAt hB hT hp 12 p 0 rfl hK) ⟨rfl, rfl, rfl, rfl, trivial⟩

set_option maxHeartbeats 4000000 in
set_option maxRecDepth 100000 in
theorem lp_T_takeName (hB : BY σ b cap n f) (hT : TO σ t b k) (hd : t < b ∨ b + 1 < t) (h1 : k.2.2.1 ≤ k.1) (h2 : k.1 ≤ n) : ∀ (m i : Nat), i + m = k.1 → (alL f m i = 0 → K (some (.int 0)) σ) → (¬ alL f m i = 0 → ∀ (τ : aS) (r : Int32), a_fr σ τ t (t + 1) → TO τ t b (k.1, k.2.1, k.2.2.1, nm32 n f k.2.2.1, k.2.2.2.2) → r = (if (12 : Int32) < nI k.1 - nI k.2.2.1 then 0 else 1) → K (some (.int r)) τ) → a_J G m_T_takeName 2 45 5 [(0, .ref t), (1, .int (nI i))] [] σ K := by
  have hcap : n ≤ cap ∧ cap < 65536 := by obtain ⟨g, h1, h2, h3, h4, h5⟩ := hB; exact ⟨h3, h4⟩
  obtain ⟨g, hB0, hB1, -⟩ := id hB
  have hT0 : σ.2.2 t = some (.inr (5, [.ref b, .int (nI k.1), .int k.2.1, .int (nI k.2.2.1), .long k.2.2.2.1, .int k.2.2.2.2])) := hT
  intro m
  induction m with
  | zero =>
    intro i hi hK0 hK1
    replace hK1 := hK1 (show ¬ (1 : Int32) = 0 by decide)
    refine a_iload_n d_T_takeName_5 rfl rfl ?_
    refine a_aload_n d_T_takeName_6 rfl rfl ?_
    apply a_getfield d_T_takeName_7 f_T_18
    · (repeat (first | with_reducible assumption | with_reducible exact a_us | with_reducible exact a_ns | refine a_un (by first | with_reducible assumption | omega) ?_ | refine a_nn (by first | with_reducible assumption | omega | (simp only [a_upd_1, a_new_1]; omega)) ?_ | exact a_us | exact a_ns))
    · rfl
    refine a_icmp_ge (tgt := 35) d_T_takeName_10 (by decide) (fun c_1 => ?_) (fun n9 => absurd (by rw [show i = k.1 by omega]; exact Int32.le_refl _) n9)
    refine a_aload_n d_T_takeName_35 rfl rfl ?_
    refine a_aload_n d_T_takeName_36 rfl rfl ?_
    refine a_aload_n d_T_takeName_37 rfl rfl ?_
    apply a_getfield d_T_takeName_38 f_T_25
    · (repeat (first | with_reducible assumption | with_reducible exact a_us | with_reducible exact a_ns | refine a_un (by first | with_reducible assumption | omega) ?_ | refine a_nn (by first | with_reducible assumption | omega | (simp only [a_upd_1, a_new_1]; omega)) ?_ | exact a_us | exact a_ns))
    · rfl
    apply a_callV (ci := 5) 1 21 [_] _ d_T_takeName_41 l_T_101 ⟨im_T_nameAt, se_T_nameAt⟩ rfl rfl rfl rfl (Nat.le_of_ble_eq_true rfl) ⟨Nat.le_of_ble_eq_true rfl, Nat.le_of_ble_eq_true rfl⟩
    · (repeat (first | with_reducible assumption | with_reducible exact a_us | with_reducible exact a_ns | refine a_un (by first | with_reducible assumption | omega) ?_ | refine a_nn (by first | with_reducible assumption | omega | (simp only [a_upd_1, a_new_1]; omega)) ?_ | exact a_us | exact a_ns))
    refine sp_T_nameAt hB hT (by omega) ?_
    apply a_putfield d_T_takeName_44 p_T_28
    · (repeat (first | with_reducible assumption | with_reducible exact a_us | with_reducible exact a_ns | refine a_un (by first | with_reducible assumption | omega) ?_ | refine a_nn (by first | with_reducible assumption | omega | (simp only [a_upd_1, a_new_1]; omega)) ?_ | exact a_us | exact a_ns))
    · first | rfl | assumption
    · first | rfl | assumption
    · exact Nat.le_of_ble_eq_true rfl
    refine a_aload_n d_T_takeName_47 rfl rfl ?_
    apply a_getfield d_T_takeName_48 f_T_18
    · (repeat (first | with_reducible assumption | with_reducible exact a_us | with_reducible exact a_ns | refine a_un (by first | with_reducible assumption | omega) ?_ | refine a_nn (by first | with_reducible assumption | omega | (simp only [a_upd_1, a_new_1]; omega)) ?_ | exact a_us | exact a_ns))
    · rfl
    refine a_aload_n d_T_takeName_51 rfl rfl ?_
    apply a_getfield d_T_takeName_52 f_T_25
    · (repeat (first | with_reducible assumption | with_reducible exact a_us | with_reducible exact a_ns | refine a_un (by first | with_reducible assumption | omega) ?_ | refine a_nn (by first | with_reducible assumption | omega | (simp only [a_upd_1, a_new_1]; omega)) ?_ | exact a_us | exact a_ns))
    · rfl
    refine a_isub d_T_takeName_55 ?_
    refine a_bipush (v := 12) d_T_takeName_56 (by decide) ?_
    refine a_icmp_gt (tgt := 65) d_T_takeName_58 (by decide) (fun c_2 => ?_) (fun c_2 => ?_)
    · refine a_iconst (v := 0) d_T_takeName_65 (by decide) ?_
      refine a_ireturn d_T_takeName_66 rfl rfl ?_
      refine hK1 _ _ (a_fr.rf.upd (Nat.le_refl t) (Nat.lt_succ_self t)) a_us ?_
      simp only [if_pos c_1, if_neg (Int32.not_lt.mpr c_1), if_pos c_2, if_neg (Int32.not_le.mpr c_2), if_true]
    · refine a_iconst (v := 1) d_T_takeName_61 (by decide) ?_
      refine a_goto (tgt := 66) d_T_takeName_62 (by decide) ?_
      refine a_ireturn d_T_takeName_66 rfl rfl ?_
      refine hK1 _ _ (a_fr.rf.upd (Nat.le_refl t) (Nat.lt_succ_self t)) a_us ?_
      simp only [if_pos c_1, if_neg (Int32.not_lt.mpr c_1), if_neg c_2, if_pos (Int32.not_lt.mp c_2), if_true]
  | succ m ih =>
    intro i hi hK0 hK1
    refine a_iload_n d_T_takeName_5 rfl rfl ?_
    refine a_aload_n d_T_takeName_6 rfl rfl ?_
    apply a_getfield d_T_takeName_7 f_T_18
    · (repeat (first | with_reducible assumption | with_reducible exact a_us | with_reducible exact a_ns | refine a_un (by first | with_reducible assumption | omega) ?_ | refine a_nn (by first | with_reducible assumption | omega | (simp only [a_upd_1, a_new_1]; omega)) ?_ | exact a_us | exact a_ns))
    · rfl
    refine a_icmp_ge (tgt := 35) d_T_takeName_10 (by decide) (fun n9 => absurd n9 (nI_ge (show i < k.1 by omega) (by omega))) (fun c_1 => ?_)
    refine a_aload_n d_T_takeName_13 rfl rfl ?_
    apply a_getfield d_T_takeName_14 f_T_9
    · (repeat (first | with_reducible assumption | with_reducible exact a_us | with_reducible exact a_ns | refine a_un (by first | with_reducible assumption | omega) ?_ | refine a_nn (by first | with_reducible assumption | omega | (simp only [a_upd_1, a_new_1]; omega)) ?_ | exact a_us | exact a_ns))
    · rfl
    refine a_iload_n d_T_takeName_17 rfl rfl ?_
    apply a_callV (ci := 0) 0 0 [_] _ d_T_takeName_18 l_T_41 ⟨im_B_at, se_B_at⟩ rfl rfl rfl rfl (Nat.le_of_ble_eq_true rfl) ⟨Nat.le_of_ble_eq_true rfl, Nat.le_of_ble_eq_true rfl⟩
    · (repeat (first | with_reducible assumption | with_reducible exact a_us | with_reducible exact a_ns | refine a_un (by first | with_reducible assumption | omega) ?_ | refine a_nn (by first | with_reducible assumption | omega | (simp only [a_upd_1, a_new_1]; omega)) ?_ | exact a_us | exact a_ns))
    refine sp_B_at hB ?_
    rw [atF_in (show i < n by omega) (by omega)]
    refine a_callS 0 0 [_] _ d_T_takeName_21 l_T_98 is_T_isLetter rfl rfl (Nat.le_of_ble_eq_true rfl) ⟨Nat.le_of_ble_eq_true rfl, Nat.le_of_ble_eq_true rfl⟩ ?_
    refine sp_T_isLetter ?_
    refine a_if_ne (tgt := 29) d_T_takeName_24 (by decide) (fun c_2 => ?_) (fun c_2 => ?_)
    · refine a_iinc (c0 := 1) d_T_takeName_29 rfl (by decide) (by decide) ?_
      refine a_goto (tgt := 5) d_T_takeName_32 (by decide) ?_
      exact a_lvk (ih (i + 1) (by omega) (fun e => hK0 (by rw [alL, if_neg c_2]; exact e)) (fun e => hK1 (by rw [alL, if_neg c_2]; exact e))) ⟨rfl, by rw [← nI_1]; rfl, trivial⟩
    · refine a_iconst (v := 0) d_T_takeName_27 (by decide) ?_
      refine a_ireturn d_T_takeName_28 rfl rfl ?_
      exact hK0 (by rw [alL, if_pos c_2])

set_option maxHeartbeats 4000000 in
set_option maxRecDepth 100000 in
theorem sp_T_takeName (hB : BY σ b cap n f) (hT : TO σ t b k) (hd : t < b ∨ b + 1 < t) (h1 : k.2.2.1 ≤ k.1) (h2 : k.1 ≤ n) (hK0 : alL f (k.1 - k.2.2.1) k.2.2.1 = 0 → K (some (.int 0)) σ) (hK1 : ¬ alL f (k.1 - k.2.2.1) k.2.2.1 = 0 → ∀ (τ : aS) (r : Int32), a_fr σ τ t (t + 1) → TO τ t b (k.1, k.2.1, k.2.2.1, nm32 n f k.2.2.1, k.2.2.2.2) → r = (if (12 : Int32) < nI k.1 - nI k.2.2.1 then 0 else 1) → K (some (.int r)) τ) : a_C G m_T_takeName 2 45 [.ref t] σ K := by
  have hT0 : σ.2.2 t = some (.inr (5, [.ref b, .int (nI k.1), .int k.2.1, .int (nI k.2.2.1), .long k.2.2.2.1, .int k.2.2.2.2])) := hT
  refine a_enter rfl (Nat.le_of_ble_eq_true rfl) ?_
  refine a_aload_n d_T_takeName_0 rfl rfl ?_
  apply a_getfield d_T_takeName_1 f_T_25
  · (repeat (first | with_reducible assumption | with_reducible exact a_us | with_reducible exact a_ns | refine a_un (by first | with_reducible assumption | omega) ?_ | refine a_nn (by first | with_reducible assumption | omega | (simp only [a_upd_1, a_new_1]; omega)) ?_ | exact a_us | exact a_ns))
  · rfl
  refine a_istore_n d_T_takeName_4 rfl (by decide) ?_
  exact a_lvk (lp_T_takeName hB hT hd h1 h2 (k.1 - k.2.2.1) k.2.2.1 (by omega) hK0 hK1) ⟨rfl, rfl, trivial⟩

/-- the digits' value, or none: m bytes from i on, v so far -/
def nvF (f : Nat → Nat) (most : Int64) : Nat → Nat → Int64 → Option Int64
  | 0, _, v => some v
  | m + 1, i, v => if diF (nI (f i)) = 0 then none else if most < v * 10 + (nI (f i) - 48).toInt64 then none else nvF f most m (i + 1) (v * 10 + (nI (f i) - 48).toInt64)
set_option maxHeartbeats 4000000 in
set_option maxRecDepth 100000 in
theorem lp_T_takeNumber {w : Int32} {q : Nat} {most : Int64} (hB : BY σ b cap n f) (hT : TO σ t b k) (hd : t < b ∨ b + 1 < t) (h2 : k.1 ≤ n) : ∀ (m i : Nat) (v : Int64), i + m = k.1 → (nvF f most m i v = none → K (some (.int 0)) σ) → (∀ x : Int64, nvF f most m i v = some x → ∀ (τ : aS) (r : Int32), a_fr σ τ t (t + 1) → TO τ t b (k.1, k.2.1, k.2.2.1, k.2.2.2.1, (if w = 0 then x else -x).toInt32) → r = (if nI k.1 ≤ nI q then 0 else 1) → K (some (.int r)) τ) → a_J G m_T_takeNumber 1 21 60 [(0, .ref t), (1, .int w), (2, .int (nI q)), (3, .long most), (5, .long v), (7, .int (nI i))] [] σ K := by
  have hcap : n ≤ cap ∧ cap < 65536 := by obtain ⟨g, h1, h2, h3, h4, h5⟩ := hB; exact ⟨h3, h4⟩
  obtain ⟨g, hB0, hB1, -⟩ := id hB
  have hT0 : σ.2.2 t = some (.inr (5, [.ref b, .int (nI k.1), .int k.2.1, .int (nI k.2.2.1), .long k.2.2.2.1, .int k.2.2.2.2])) := hT
  intro m
  induction m with
  | zero =>
    intro i v hi hK0 hK1
    refine a_iload d_T_takeNumber_60 rfl ?_
    refine a_aload_n d_T_takeNumber_62 rfl rfl ?_
    apply a_getfield d_T_takeNumber_63 f_T_18
    · (repeat (first | with_reducible assumption | with_reducible exact a_us | with_reducible exact a_ns | refine a_un (by first | with_reducible assumption | omega) ?_ | refine a_nn (by first | with_reducible assumption | omega | (simp only [a_upd_1, a_new_1]; omega)) ?_ | exact a_us | exact a_ns))
    · rfl
    refine a_icmp_ge (tgt := 120) d_T_takeNumber_66 (by decide) (fun c_1 => ?_) (fun n9 => absurd (by rw [show i = k.1 by omega]; exact Int32.le_refl _) n9)
    refine a_aload_n d_T_takeNumber_120 rfl rfl ?_
    refine a_iload_n d_T_takeNumber_121 rfl rfl ?_
    refine a_if_eq (tgt := 131) d_T_takeNumber_122 (by decide) (fun c_2 => ?_) (fun c_2 => ?_)
    · refine a_lload d_T_takeNumber_131 rfl ?_
      refine a_l2i d_T_takeNumber_133 ?_
      apply a_putfield d_T_takeNumber_134 p_T_32
      · (repeat (first | with_reducible assumption | with_reducible exact a_us | with_reducible exact a_ns | refine a_un (by first | with_reducible assumption | omega) ?_ | refine a_nn (by first | with_reducible assumption | omega | (simp only [a_upd_1, a_new_1]; omega)) ?_ | exact a_us | exact a_ns))
      · first | rfl | assumption
      · first | rfl | assumption
      · exact Nat.le_of_ble_eq_true rfl
      refine a_iload_n d_T_takeNumber_137 rfl rfl ?_
      refine a_aload_n d_T_takeNumber_138 rfl rfl ?_
      apply a_getfield d_T_takeNumber_139 f_T_18
      · (repeat (first | with_reducible assumption | with_reducible exact a_us | with_reducible exact a_ns | refine a_un (by first | with_reducible assumption | omega) ?_ | refine a_nn (by first | with_reducible assumption | omega | (simp only [a_upd_1, a_new_1]; omega)) ?_ | exact a_us | exact a_ns))
      · rfl
      refine a_icmp_ge (tgt := 149) d_T_takeNumber_142 (by decide) (fun c_3 => ?_) (fun c_3 => ?_)
      · refine a_iconst (v := 0) d_T_takeNumber_149 (by decide) ?_
        refine a_ireturn d_T_takeNumber_150 rfl rfl ?_
        refine hK1 v rfl _ _ (a_fr.rf.upd (Nat.le_refl t) (Nat.lt_succ_self t)) (by simp only [if_pos c_1, if_neg (Int32.not_lt.mpr c_1), if_pos c_2, if_pos c_3, if_neg (Int32.not_lt.mpr c_3), if_true]; exact a_us) ?_
        simp only [if_pos c_1, if_neg (Int32.not_lt.mpr c_1), if_pos c_2, if_pos c_3, if_neg (Int32.not_lt.mpr c_3), if_true]
      · refine a_iconst (v := 1) d_T_takeNumber_145 (by decide) ?_
        refine a_goto (tgt := 150) d_T_takeNumber_146 (by decide) ?_
        refine a_ireturn d_T_takeNumber_150 rfl rfl ?_
        refine hK1 v rfl _ _ (a_fr.rf.upd (Nat.le_refl t) (Nat.lt_succ_self t)) (by simp only [if_pos c_1, if_neg (Int32.not_lt.mpr c_1), if_pos c_2, if_neg c_3, if_pos (Int32.not_le.mp c_3), if_true]; exact a_us) ?_
        simp only [if_pos c_1, if_neg (Int32.not_lt.mpr c_1), if_pos c_2, if_neg c_3, if_pos (Int32.not_le.mp c_3), if_true]
    · refine a_lload d_T_takeNumber_125 rfl ?_
      refine a_lneg d_T_takeNumber_127 ?_
      refine a_goto (tgt := 133) d_T_takeNumber_128 (by decide) ?_
      refine a_l2i d_T_takeNumber_133 ?_
      apply a_putfield d_T_takeNumber_134 p_T_32
      · (repeat (first | with_reducible assumption | with_reducible exact a_us | with_reducible exact a_ns | refine a_un (by first | with_reducible assumption | omega) ?_ | refine a_nn (by first | with_reducible assumption | omega | (simp only [a_upd_1, a_new_1]; omega)) ?_ | exact a_us | exact a_ns))
      · first | rfl | assumption
      · first | rfl | assumption
      · exact Nat.le_of_ble_eq_true rfl
      refine a_iload_n d_T_takeNumber_137 rfl rfl ?_
      refine a_aload_n d_T_takeNumber_138 rfl rfl ?_
      apply a_getfield d_T_takeNumber_139 f_T_18
      · (repeat (first | with_reducible assumption | with_reducible exact a_us | with_reducible exact a_ns | refine a_un (by first | with_reducible assumption | omega) ?_ | refine a_nn (by first | with_reducible assumption | omega | (simp only [a_upd_1, a_new_1]; omega)) ?_ | exact a_us | exact a_ns))
      · rfl
      refine a_icmp_ge (tgt := 149) d_T_takeNumber_142 (by decide) (fun c_4 => ?_) (fun c_4 => ?_)
      · refine a_iconst (v := 0) d_T_takeNumber_149 (by decide) ?_
        refine a_ireturn d_T_takeNumber_150 rfl rfl ?_
        refine hK1 v rfl _ _ (a_fr.rf.upd (Nat.le_refl t) (Nat.lt_succ_self t)) (by simp only [if_pos c_1, if_neg (Int32.not_lt.mpr c_1), if_neg c_2, if_pos c_4, if_neg (Int32.not_lt.mpr c_4), if_true]; exact a_us) ?_
        simp only [if_pos c_1, if_neg (Int32.not_lt.mpr c_1), if_neg c_2, if_pos c_4, if_neg (Int32.not_lt.mpr c_4), if_true]
      · refine a_iconst (v := 1) d_T_takeNumber_145 (by decide) ?_
        refine a_goto (tgt := 150) d_T_takeNumber_146 (by decide) ?_
        refine a_ireturn d_T_takeNumber_150 rfl rfl ?_
        refine hK1 v rfl _ _ (a_fr.rf.upd (Nat.le_refl t) (Nat.lt_succ_self t)) (by simp only [if_pos c_1, if_neg (Int32.not_lt.mpr c_1), if_neg c_2, if_neg c_4, if_pos (Int32.not_le.mp c_4), if_true]; exact a_us) ?_
        simp only [if_pos c_1, if_neg (Int32.not_lt.mpr c_1), if_neg c_2, if_neg c_4, if_pos (Int32.not_le.mp c_4), if_true]
  | succ m ih =>
    intro i v hi hK0 hK1
    refine a_iload d_T_takeNumber_60 rfl ?_
    refine a_aload_n d_T_takeNumber_62 rfl rfl ?_
    apply a_getfield d_T_takeNumber_63 f_T_18
    · (repeat (first | with_reducible assumption | with_reducible exact a_us | with_reducible exact a_ns | refine a_un (by first | with_reducible assumption | omega) ?_ | refine a_nn (by first | with_reducible assumption | omega | (simp only [a_upd_1, a_new_1]; omega)) ?_ | exact a_us | exact a_ns))
    · rfl
    refine a_icmp_ge (tgt := 120) d_T_takeNumber_66 (by decide) (fun n9 => absurd n9 (nI_ge (show i < k.1 by omega) (by omega))) (fun c_1 => ?_)
    refine a_aload_n d_T_takeNumber_69 rfl rfl ?_
    apply a_getfield d_T_takeNumber_70 f_T_9
    · (repeat (first | with_reducible assumption | with_reducible exact a_us | with_reducible exact a_ns | refine a_un (by first | with_reducible assumption | omega) ?_ | refine a_nn (by first | with_reducible assumption | omega | (simp only [a_upd_1, a_new_1]; omega)) ?_ | exact a_us | exact a_ns))
    · rfl
    refine a_iload d_T_takeNumber_73 rfl ?_
    apply a_callV (ci := 0) 0 0 [_] _ d_T_takeNumber_75 l_T_41 ⟨im_B_at, se_B_at⟩ rfl rfl rfl rfl (Nat.le_of_ble_eq_true rfl) ⟨Nat.le_of_ble_eq_true rfl, Nat.le_of_ble_eq_true rfl⟩
    · (repeat (first | with_reducible assumption | with_reducible exact a_us | with_reducible exact a_ns | refine a_un (by first | with_reducible assumption | omega) ?_ | refine a_nn (by first | with_reducible assumption | omega | (simp only [a_upd_1, a_new_1]; omega)) ?_ | exact a_us | exact a_ns))
    refine sp_B_at hB ?_
    rw [atF_in (show i < n by omega) (by omega)]
    refine a_istore d_T_takeNumber_78 (by decide) ?_
    refine a_iload d_T_takeNumber_80 rfl ?_
    refine a_callS 0 0 [_] _ d_T_takeNumber_82 l_T_109 is_T_isDigit rfl rfl (Nat.le_of_ble_eq_true rfl) ⟨Nat.le_of_ble_eq_true rfl, Nat.le_of_ble_eq_true rfl⟩ ?_
    refine sp_T_isDigit ?_
    refine a_if_ne (tgt := 90) d_T_takeNumber_85 (by decide) (fun c_2 => ?_) (fun c_2 => ?_)
    · refine a_lload d_T_takeNumber_90 rfl ?_
      refine a_ldc2 d_T_takeNumber_92 k_T_112 ?_
      refine a_lmul d_T_takeNumber_95 ?_
      refine a_iload d_T_takeNumber_96 rfl ?_
      refine a_bipush (v := 48) d_T_takeNumber_98 (by decide) ?_
      refine a_isub d_T_takeNumber_100 ?_
      refine a_i2l d_T_takeNumber_101 ?_
      refine a_ladd d_T_takeNumber_102 ?_
      refine a_lstore d_T_takeNumber_103 (by decide) ?_
      refine a_lload d_T_takeNumber_105 rfl ?_
      refine a_lload_n d_T_takeNumber_107 rfl rfl ?_
      refine a_lcmp d_T_takeNumber_108 ?_
      refine a_if_le (tgt := 114) d_T_takeNumber_109 (by decide) (fun c_3 => ?_) (fun c_3 => ?_)
      · refine a_iinc (c0 := 1) d_T_takeNumber_114 rfl (by decide) (by decide) ?_
        refine a_goto (tgt := 60) d_T_takeNumber_117 (by decide) ?_
        have c_4 : ¬ most < v * 10 + (nI (f i) - 48).toInt64 := Int64.not_lt.mpr ((lg_cmp_le _ _).mp c_3)
        exact a_lvk (ih (i + 1) _ (by omega) (fun e => hK0 (by rw [nvF, if_neg c_2, if_neg c_4]; exact e)) (fun x e => hK1 x (by rw [nvF, if_neg c_2, if_neg c_4]; exact e))) ⟨rfl, rfl, rfl, rfl, rfl, by rw [← nI_1]; rfl, trivial⟩
      · refine a_iconst (v := 0) d_T_takeNumber_112 (by decide) ?_
        refine a_ireturn d_T_takeNumber_113 rfl rfl ?_
        exact hK0 (by rw [nvF, if_neg c_2, if_pos (Int64.not_le.mp (fun e => c_3 ((lg_cmp_le _ _).mpr e)))])
    · refine a_iconst (v := 0) d_T_takeNumber_88 (by decide) ?_
      refine a_ireturn d_T_takeNumber_89 rfl rfl ?_
      exact hK0 (by rw [nvF, if_pos c_2])

end ModT2
