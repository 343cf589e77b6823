/-! BYTES: an object b, its words b + 1: cap bytes at most, n of them, f -/
def bI (b : Bool) : Int32 := if b then 1 else 0
def updN (f : Nat → Nat) (k x : Nat) : Nat → Nat := fun j => if j = k then x else f j
def BY (σ : aS) (b cap n : Nat) (f : Nat → Nat) : Prop := ∃ g : Nat → Int64, σ.2.2 b = some (.inr (0, [.ref (b + 1), .int (nI cap), .int (nI n)])) ∧ σ.2.2 (b + 1) = some (.inl (.long, cap / 8 + 1, .inr (.inl g))) ∧ n ≤ cap ∧ cap < 65536 ∧ ∀ k, k < 8 * (cap / 8 + 1) → y_ (g (k / 8)) (k % 8) = f k
theorem BY.fr {σ τ : aS} {b cap n lo hi : Nat} {f : Nat → Nat} (h : BY σ b cap n f) (hf : a_fr σ τ lo hi) (hd : b + 2 ≤ lo ∨ hi ≤ b) : BY τ b cap n f := by
  obtain ⟨g, h1, h2, h3⟩ := h
  exact ⟨g, (hf.2.2 b (by omega)).trans h1, (hf.2.2 (b + 1) (by omega)).trans h2, h3⟩
/-- what at(k) answers -/
def atF (n : Nat) (f : Nat → Nat) (k : Int32) : Int32 := if k < 0 ∨ nI n ≤ k then -1 else nI (f k.toNatClampNeg)
theorem atF_in {n j : Nat} {f : Nat → Nat} (hj : j < n) (hn : n < 2 ^ 31) : atF n f (nI j) = nI (f j) := by
  rw [atF, if_neg, nI_clamp (by omega)]
  rintro (h | h)
  · exact nI_pos (by omega) h
  · exact nI_ge hj hn h
theorem atF_out {n j : Nat} {f : Nat → Nat} (hj : n ≤ j) (hn : j < 2 ^ 31) : atF n f (nI j) = -1 := by
  rw [atF, if_pos]
  exact Or.inr (nI_le hj hn)
theorem sh3 {j : Nat} (h : j < 2 ^ 31) : nI j >>> ((3 : Int32) &&& 31) = nI (j / 8) := pk_shrN h _ 3 (by decide)
section ModB
variable {G : aG} {σ : aS} {K : Option Value → aS → Prop}
set_option maxHeartbeats 4000000 in
set_option maxRecDepth 100000 in
theorem sp_B_size {b cap n : Nat} {f : Nat → Nat} (hB : BY σ b cap n f) (hK : K (some (.int (nI n))) σ) : a_C G m_B_size 0 0 [.ref b] σ K := by
  obtain ⟨g, h1, h2, hn, hc, hf⟩ := hB
  refine a_enter rfl (Nat.le_of_ble_eq_true rfl) ?_
  refine a_aload_n d_B_size_0 rfl rfl ?_
  apply a_getfield d_B_size_1 f_B_25
  · (repeat (first | with_reducible assumption | with_reducible exact a_us | with_reducible exact a_ns | refine a_un (by first | with_reducible assumption | omega) ?_ | refine a_nn (by first | with_reducible assumption | omega | (simp only [a_upd_1, a_new_1]; omega)) ?_ | exact a_us | exact a_ns))
  · rfl
  refine a_ireturn d_B_size_4 rfl rfl ?_
  exact hK

set_option maxHeartbeats 4000000 in
set_option maxRecDepth 100000 in
theorem sp_B_free {b cap n : Nat} {f : Nat → Nat} (hB : BY σ b cap n f) (hK : K (some (.int (nI (cap - n)))) σ) : a_C G m_B_free 0 0 [.ref b] σ K := by
  obtain ⟨g, h1, h2, hn, hc, hf⟩ := hB
  refine a_enter rfl (Nat.le_of_ble_eq_true rfl) ?_
  refine a_aload_n d_B_free_0 rfl rfl ?_
  apply a_getfield d_B_free_1 f_B_15
  · (repeat (first | with_reducible assumption | with_reducible exact a_us | with_reducible exact a_ns | refine a_un (by first | with_reducible assumption | omega) ?_ | refine a_nn (by first | with_reducible assumption | omega | (simp only [a_upd_1, a_new_1]; omega)) ?_ | exact a_us | exact a_ns))
  · rfl
  refine a_aload_n d_B_free_4 rfl rfl ?_
  apply a_getfield d_B_free_5 f_B_25
  · (repeat (first | with_reducible assumption | with_reducible exact a_us | with_reducible exact a_ns | refine a_un (by first | with_reducible assumption | omega) ?_ | refine a_nn (by first | with_reducible assumption | omega | (simp only [a_upd_1, a_new_1]; omega)) ?_ | exact a_us | exact a_ns))
  · rfl
  refine a_isub d_B_free_8 ?_
  refine a_ireturn d_B_free_9 rfl rfl ?_
  rw [pk_sub hn]
  exact hK

set_option maxHeartbeats 4000000 in
set_option maxRecDepth 100000 in
/-- at(k) -/
theorem sp_B_at {b cap n : Nat} {f : Nat → Nat} {k : Int32} (hB : BY σ b cap n f) (hK : K (some (.int (atF n f k))) σ) : a_C G m_B_at 0 0 [.ref b, .int k] σ K := by
  obtain ⟨g, h1, h2, hn, hc, hf⟩ := hB
  refine a_enter rfl (Nat.le_of_ble_eq_true rfl) ?_
  refine a_iload_n d_B_at_0 rfl rfl ?_
  refine a_if_lt (tgt := 12) d_B_at_1 (by decide) (fun c_1 => ?_) (fun c_1 => ?_)
  · refine a_iconst (v := (-1)) d_B_at_12 (by decide) ?_
    refine a_ireturn d_B_at_13 rfl rfl ?_
    rw [atF, if_pos (by first | exact Or.inl c_1 | exact Or.inr (Int32.not_lt.mp c_2))] at hK
    exact hK
  · refine a_iload_n d_B_at_4 rfl rfl ?_
    refine a_aload_n d_B_at_5 rfl rfl ?_
    apply a_getfield d_B_at_6 f_B_25
    · (repeat (first | with_reducible assumption | with_reducible exact a_us | with_reducible exact a_ns | refine a_un (by first | with_reducible assumption | omega) ?_ | refine a_nn (by first | with_reducible assumption | omega | (simp only [a_upd_1, a_new_1]; omega)) ?_ | exact a_us | exact a_ns))
    · rfl
    refine a_icmp_lt (tgt := 14) d_B_at_9 (by decide) (fun c_2 => ?_) (fun c_2 => ?_)
    · obtain ⟨j, hj, rfl⟩ : ∃ j : Nat, j < n ∧ k = nI j := by
        rcases pk_ix k (n := n) (by omega) with h | h | h
        · exact absurd h c_1
        · exact absurd h (Int32.not_le.mpr c_2)
        · exact h
      have e3 : nI j >>> ((3 : Int32) &&& 31) = nI (j / 8) := sh3 (by omega)
      refine a_aload_n d_B_at_14 rfl rfl ?_
      apply a_getfield d_B_at_15 f_B_21
      · (repeat (first | with_reducible assumption | with_reducible exact a_us | with_reducible exact a_ns | refine a_un (by first | with_reducible assumption | omega) ?_ | refine a_nn (by first | with_reducible assumption | omega | (simp only [a_upd_1, a_new_1]; omega)) ?_ | exact a_us | exact a_ns))
      · rfl
      refine a_iload_n d_B_at_18 rfl rfl ?_
      refine a_iconst (v := 3) d_B_at_19 (by decide) ?_
      refine a_ishr d_B_at_20 ?_
      apply a_lald (t0 := 1) d_B_at_21 rfl
      · (repeat (first | with_reducible assumption | with_reducible exact a_us | with_reducible exact a_ns | refine a_un (by first | with_reducible assumption | omega) ?_ | refine a_nn (by first | with_reducible assumption | omega | (simp only [a_upd_1, a_new_1]; omega)) ?_ | exact a_us | exact a_ns))
      · rw [e3]; exact vp_in_nI (by omega) (by omega)
      refine a_bipush (v := 8) d_B_at_22 (by decide) ?_
      refine a_iload_n d_B_at_24 rfl rfl ?_
      refine a_bipush (v := 7) d_B_at_25 (by decide) ?_
      refine a_iand d_B_at_27 ?_
      refine a_imul d_B_at_28 ?_
      refine a_lushr d_B_at_29 ?_
      refine a_l2i d_B_at_30 ?_
      refine a_sipush (v := 255) d_B_at_31 (by decide) ?_
      refine a_iand d_B_at_34 ?_
      refine a_ireturn d_B_at_35 rfl rfl ?_
      rw [atF_in hj (by omega)] at hK
      rw [e3, nI_clamp (by omega), y_at _ (by omega), hf j (by omega)]
      exact hK
    · refine a_iconst (v := (-1)) d_B_at_12 (by decide) ?_
      refine a_ireturn d_B_at_13 rfl rfl ?_
      rw [atF, if_pos (by first | exact Or.inl c_1 | exact Or.inr (Int32.not_lt.mp c_2))] at hK
      exact hK

set_option maxHeartbeats 4000000 in
set_option maxRecDepth 100000 in
/-- put(k, v) -/
theorem sp_B_put {b cap n : Nat} {f : Nat → Nat} {k v : Int32} (hB : BY σ b cap n f) (hK0 : (k < 0 ∨ nI n ≤ k) → K (some (.int 0)) σ) (hK1 : ∀ j : Nat, j < n → k = nI j → ∀ τ, a_fr σ τ b (b + 2) → BY τ b cap n (updN f j (v.toBitVec.toNat % 256)) → K (some (.int 1)) τ) : a_C G m_B_put 0 0 [.ref b, .int k, .int v] σ K := by
  obtain ⟨g, h1, h2, hn, hc, hf⟩ := hB
  refine a_enter rfl (Nat.le_of_ble_eq_true rfl) ?_
  refine a_iload_n d_B_put_0 rfl rfl ?_
  refine a_if_lt (tgt := 12) d_B_put_1 (by decide) (fun c_1 => ?_) (fun c_1 => ?_)
  · refine a_iconst (v := 0) d_B_put_12 (by decide) ?_
    refine a_ireturn d_B_put_13 rfl rfl ?_
    exact hK0 (by first | exact Or.inl c_1 | exact Or.inr (Int32.not_lt.mp c_2))
  · refine a_iload_n d_B_put_4 rfl rfl ?_
    refine a_aload_n d_B_put_5 rfl rfl ?_
    apply a_getfield d_B_put_6 f_B_25
    · (repeat (first | with_reducible assumption | with_reducible exact a_us | with_reducible exact a_ns | refine a_un (by first | with_reducible assumption | omega) ?_ | refine a_nn (by first | with_reducible assumption | omega | (simp only [a_upd_1, a_new_1]; omega)) ?_ | exact a_us | exact a_ns))
    · rfl
    refine a_icmp_lt (tgt := 14) d_B_put_9 (by decide) (fun c_2 => ?_) (fun c_2 => ?_)
    · obtain ⟨j, hj, rfl⟩ : ∃ j : Nat, j < n ∧ k = nI j := by
        rcases pk_ix k (n := n) (by omega) with h | h | h
        · exact absurd h c_1
        · exact absurd h (Int32.not_le.mpr c_2)
        · exact h
      have e3 : nI j >>> ((3 : Int32) &&& 31) = nI (j / 8) := sh3 (by omega)
      refine a_bipush (v := 8) d_B_put_14 (by decide) ?_
      refine a_iload_n d_B_put_16 rfl rfl ?_
      refine a_bipush (v := 7) d_B_put_17 (by decide) ?_
      refine a_iand d_B_put_19 ?_
      refine a_imul d_B_put_20 ?_
      refine a_istore_n d_B_put_21 rfl (by decide) ?_
      refine a_aload_n d_B_put_22 rfl rfl ?_
      apply a_getfield d_B_put_23 f_B_21
      · (repeat (first | with_reducible assumption | with_reducible exact a_us | with_reducible exact a_ns | refine a_un (by first | with_reducible assumption | omega) ?_ | refine a_nn (by first | with_reducible assumption | omega | (simp only [a_upd_1, a_new_1]; omega)) ?_ | exact a_us | exact a_ns))
      · rfl
      refine a_iload_n d_B_put_26 rfl rfl ?_
      refine a_iconst (v := 3) d_B_put_27 (by decide) ?_
      refine a_ishr d_B_put_28 ?_
      apply a_lald (t0 := 1) d_B_put_29 rfl
      · (repeat (first | with_reducible assumption | with_reducible exact a_us | with_reducible exact a_ns | refine a_un (by first | with_reducible assumption | omega) ?_ | refine a_nn (by first | with_reducible assumption | omega | (simp only [a_upd_1, a_new_1]; omega)) ?_ | exact a_us | exact a_ns))
      · rw [e3]; exact vp_in_nI (by omega) (by omega)
      refine a_ldc2 d_B_put_30 k_B_28 ?_
      refine a_iload_n d_B_put_33 rfl rfl ?_
      refine a_lshl d_B_put_34 ?_
      refine a_ldc2 d_B_put_35 k_B_30 ?_
      refine a_lxor d_B_put_38 ?_
      refine a_land d_B_put_39 ?_
      refine a_lstore d_B_put_40 (by decide) ?_
      refine a_aload_n d_B_put_42 rfl rfl ?_
      apply a_getfield d_B_put_43 f_B_21
      · (repeat (first | with_reducible assumption | with_reducible exact a_us | with_reducible exact a_ns | refine a_un (by first | with_reducible assumption | omega) ?_ | refine a_nn (by first | with_reducible assumption | omega | (simp only [a_upd_1, a_new_1]; omega)) ?_ | exact a_us | exact a_ns))
      · rfl
      refine a_iload_n d_B_put_46 rfl rfl ?_
      refine a_iconst (v := 3) d_B_put_47 (by decide) ?_
      refine a_ishr d_B_put_48 ?_
      refine a_lload d_B_put_49 rfl ?_
      refine a_iload_n d_B_put_51 rfl rfl ?_
      refine a_sipush (v := 255) d_B_put_52 (by decide) ?_
      refine a_iand d_B_put_55 ?_
      refine a_i2l d_B_put_56 ?_
      refine a_iload_n d_B_put_57 rfl rfl ?_
      refine a_lshl d_B_put_58 ?_
      refine a_lor d_B_put_59 ?_
      apply a_last (t0 := 1) d_B_put_60 rfl
      · (repeat (first | with_reducible assumption | with_reducible exact a_us | with_reducible exact a_ns | refine a_un (by first | with_reducible assumption | omega) ?_ | refine a_nn (by first | with_reducible assumption | omega | (simp only [a_upd_1, a_new_1]; omega)) ?_ | exact a_us | exact a_ns))
      · rw [e3]; exact vp_in_nI (by omega) (by omega)
      refine a_iconst (v := 1) d_B_put_61 (by decide) ?_
      refine a_ireturn d_B_put_62 rfl rfl ?_
      refine hK1 j hj rfl _ (a_fr.rf.upd (by omega) (by omega)) ⟨_, a_un (by omega) h1, a_us, hn, hc, fun q hq => ?_⟩
      rw [e3, nI_clamp (by omega)]
      show y_ (vp_updL g (j / 8) _ (q / 8)) (q % 8) = _
      by_cases hqj : q / 8 = j / 8
      · rw [hqj, pk_uLs, y_put _ _ (by omega) (by omega), updN]
        by_cases hm : q % 8 = j % 8
        · rw [if_pos hm, if_pos (by omega)]
        · rw [if_neg hm, if_neg (by omega), ← hqj]
          exact hf q hq
      · rw [pk_uLn hqj, updN, if_neg (by omega)]
        exact hf q hq
    · refine a_iconst (v := 0) d_B_put_12 (by decide) ?_
      refine a_ireturn d_B_put_13 rfl rfl ?_
      exact hK0 (by first | exact Or.inl c_1 | exact Or.inr (Int32.not_lt.mp c_2))

set_option maxHeartbeats 4000000 in
set_option maxRecDepth 100000 in
/-- add(v) -/
theorem sp_B_add {b cap n : Nat} {f : Nat → Nat} {v : Int32} (hB : BY σ b cap n f) (hK0 : n = cap → K (some (.int 0)) σ) (hK1 : n < cap → ∀ τ, a_fr σ τ b (b + 2) → BY τ b cap (n + 1) (updN f n (v.toBitVec.toNat % 256)) → K (some (.int 1)) τ) : a_C G m_B_add 1 25 [.ref b, .int v] σ K := by
  obtain ⟨g, h1, h2, hn, hc, hf⟩ := hB
  refine a_enter rfl (Nat.le_of_ble_eq_true rfl) ?_
  refine a_aload_n d_B_add_0 rfl rfl ?_
  apply a_getfield d_B_add_1 f_B_25
  · (repeat (first | with_reducible assumption | with_reducible exact a_us | with_reducible exact a_ns | refine a_un (by first | with_reducible assumption | omega) ?_ | refine a_nn (by first | with_reducible assumption | omega | (simp only [a_upd_1, a_new_1]; omega)) ?_ | exact a_us | exact a_ns))
  · rfl
  refine a_aload_n d_B_add_4 rfl rfl ?_
  apply a_getfield d_B_add_5 f_B_15
  · (repeat (first | with_reducible assumption | with_reducible exact a_us | with_reducible exact a_ns | refine a_un (by first | with_reducible assumption | omega) ?_ | refine a_nn (by first | with_reducible assumption | omega | (simp only [a_upd_1, a_new_1]; omega)) ?_ | exact a_us | exact a_ns))
  · rfl
  refine a_icmp_lt (tgt := 13) d_B_add_8 (by decide) (fun c_1 => ?_) (fun c_1 => ?_)
  · refine a_aload_n d_B_add_13 rfl rfl ?_
    refine a_dup d_B_add_14 rfl ?_
    apply a_getfield d_B_add_15 f_B_25
    · (repeat (first | with_reducible assumption | with_reducible exact a_us | with_reducible exact a_ns | refine a_un (by first | with_reducible assumption | omega) ?_ | refine a_nn (by first | with_reducible assumption | omega | (simp only [a_upd_1, a_new_1]; omega)) ?_ | exact a_us | exact a_ns))
    · rfl
    refine a_iconst (v := 1) d_B_add_18 (by decide) ?_
    refine a_iadd d_B_add_19 ?_
    apply a_putfield d_B_add_20 p_B_25
    · (repeat (first | with_reducible assumption | with_reducible exact a_us | with_reducible exact a_ns | refine a_un (by first | with_reducible assumption | omega) ?_ | refine a_nn (by first | with_reducible assumption | omega | (simp only [a_upd_1, a_new_1]; omega)) ?_ | exact a_us | exact a_ns))
    · first | rfl | assumption
    · first | rfl | assumption
    · exact Nat.le_of_ble_eq_true rfl
    refine a_aload_n d_B_add_23 rfl rfl ?_
    refine a_aload_n d_B_add_24 rfl rfl ?_
    apply a_getfield d_B_add_25 f_B_25
    · (repeat (first | with_reducible assumption | with_reducible exact a_us | with_reducible exact a_ns | refine a_un (by first | with_reducible assumption | omega) ?_ | refine a_nn (by first | with_reducible assumption | omega | (simp only [a_upd_1, a_new_1]; omega)) ?_ | exact a_us | exact a_ns))
    · rfl
    refine a_iconst (v := 1) d_B_add_28 (by decide) ?_
    refine a_isub d_B_add_29 ?_
    refine a_iload_n d_B_add_30 rfl rfl ?_
    apply a_callV (ci := 0) 0 0 [_, _] _ d_B_add_31 l_B_32 ⟨im_B_put, se_B_put⟩ rfl rfl rfl rfl (Nat.le_of_ble_eq_true rfl) ⟨Nat.le_of_ble_eq_true rfl, Nat.le_of_ble_eq_true rfl⟩
    · (repeat (first | with_reducible assumption | with_reducible exact a_us | with_reducible exact a_ns | refine a_un (by first | with_reducible assumption | omega) ?_ | refine a_nn (by first | with_reducible assumption | omega | (simp only [a_upd_1, a_new_1]; omega)) ?_ | exact a_us | exact a_ns))
    have e1 : nI n + 1 - 1 = nI n := by rw [nI_1]; exact nI_pred n
    rw [e1]
    have hlt : n < cap := (nI_ltI (by omega) (by omega)).mp c_1
    refine sp_B_put (cap := cap) (n := n + 1) (f := f) (b := b) ⟨g, by rw [← nI_1]; exact a_us, a_un (by omega) h2, by omega, hc, hf⟩ (fun q => ?_) (fun j hj e τ hfr hB2 => ?_)
    · rcases q with q | q
      · exact absurd q (nI_pos (by omega))
      · exact absurd q (nI_ge (Nat.lt_succ_self n) (by omega))
    refine a_ireturn d_B_add_34 rfl rfl ?_
    have ej : n = j := (nI_eq (by omega) (by omega)).mp e
    subst ej
    exact hK1 hlt τ ((a_fr.rf.upd (by omega) (by omega)).trans hfr) hB2
  · refine a_iconst (v := 0) d_B_add_11 (by decide) ?_
    refine a_ireturn d_B_add_12 rfl rfl ?_
    have c_2 : cap ≤ n := Nat.not_lt.mp (fun h => c_1 (nI_lt h (by omega)))
    exact hK0 (by omega)

set_option maxHeartbeats 4000000 in
set_option maxRecDepth 100000 in
/-- shorten(k) -/
theorem sp_B_shorten {b cap n : Nat} {f : Nat → Nat} {k : Int32} (hB : BY σ b cap n f) (hK0 : (k < 0 ∨ nI n < k) → K (some (.int 0)) σ) (hK1 : ∀ j : Nat, j ≤ n → k = nI j → ∀ τ, a_fr σ τ b (b + 2) → BY τ b cap j f → K (some (.int 1)) τ) : a_C G m_B_shorten 0 0 [.ref b, .int k] σ K := by
  obtain ⟨g, h1, h2, hn, hc, hf⟩ := hB
  refine a_enter rfl (Nat.le_of_ble_eq_true rfl) ?_
  refine a_iload_n d_B_shorten_0 rfl rfl ?_
  refine a_if_lt (tgt := 12) d_B_shorten_1 (by decide) (fun c_1 => ?_) (fun c_1 => ?_)
  · refine a_iconst (v := 0) d_B_shorten_12 (by decide) ?_
    refine a_ireturn d_B_shorten_13 rfl rfl ?_
    exact hK0 (by first | exact Or.inl c_1 | exact Or.inr (Int32.not_le.mp c_2) | exact Or.inr c_2)
  · refine a_iload_n d_B_shorten_4 rfl rfl ?_
    refine a_aload_n d_B_shorten_5 rfl rfl ?_
    apply a_getfield d_B_shorten_6 f_B_25
    · (repeat (first | with_reducible assumption | with_reducible exact a_us | with_reducible exact a_ns | refine a_un (by first | with_reducible assumption | omega) ?_ | refine a_nn (by first | with_reducible assumption | omega | (simp only [a_upd_1, a_new_1]; omega)) ?_ | exact a_us | exact a_ns))
    · rfl
    refine a_icmp_le (tgt := 14) d_B_shorten_9 (by decide) (fun c_2 => ?_) (fun c_2 => ?_)
    · obtain ⟨j, hj, rfl⟩ : ∃ j : Nat, j < n + 1 ∧ k = nI j := by
        rcases pk_ix k (n := n + 1) (by omega) with h | h | h
        · exact absurd h c_1
        · exact absurd (Int32.lt_of_lt_of_le (nI_lt (Nat.lt_succ_self n) (by omega)) h) (Int32.not_lt.mpr c_2)
        · exact h
      refine a_aload_n d_B_shorten_14 rfl rfl ?_
      refine a_iload_n d_B_shorten_15 rfl rfl ?_
      apply a_putfield d_B_shorten_16 p_B_25
      · (repeat (first | with_reducible assumption | with_reducible exact a_us | with_reducible exact a_ns | refine a_un (by first | with_reducible assumption | omega) ?_ | refine a_nn (by first | with_reducible assumption | omega | (simp only [a_upd_1, a_new_1]; omega)) ?_ | exact a_us | exact a_ns))
      · first | rfl | assumption
      · first | rfl | assumption
      · exact Nat.le_of_ble_eq_true rfl
      refine a_iconst (v := 1) d_B_shorten_19 (by decide) ?_
      refine a_ireturn d_B_shorten_20 rfl rfl ?_
      exact hK1 j (by omega) rfl _ (a_fr.rf.upd (by omega) (by omega)) ⟨g, a_us, a_un (by omega) h2, by omega, hc, hf⟩
    · refine a_iconst (v := 0) d_B_shorten_12 (by decide) ?_
      refine a_ireturn d_B_shorten_13 rfl rfl ?_
      exact hK0 (by first | exact Or.inl c_1 | exact Or.inr (Int32.not_le.mp c_2) | exact Or.inr c_2)

end ModB
