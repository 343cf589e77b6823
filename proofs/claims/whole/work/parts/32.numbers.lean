/-! PRINTER, third part: numbers -/
def uF : Nat → Int64
  | 0 => 0
  | m + 1 => lN (10 ^ m)
theorem wn1 : ∀ e, e < 9 → ¬ (100000000 : Int64) < lN (10 ^ e) := by decide +kernel
theorem wn2 : ∀ m, m < 10 → ¬ lN (10 ^ m) ≤ 0 := by decide +kernel
theorem wn3 : ∀ m, m < 10 → ¬ lN (10 ^ m) = 0 := by decide +kernel
theorem wn4 : ∀ m, m < 10 → lN (10 ^ m) / 10 = uF m := by decide +kernel
theorem wn5 : ∀ e, e < 9 → lN (10 ^ e) * 10 = lN (10 ^ (e + 1)) := by decide +kernel
theorem wn6 : (100000000 : Int64) < lN (10 ^ 9) := by decide +kernel
/-- the highest power of ten -/
def ueF (r : Int64) : Nat → Nat → Nat
  | 0, e => e
  | m + 1, e => if r < lN (10 ^ (e + 1)) then e else ueF r m (e + 1)
theorem ueF_le (r : Int64) : ∀ m e, ueF r m e ≤ e + m
  | 0, e => Nat.le_refl _
  | m + 1, e => by
    unfold ueF
    split
    · omega
    · have := ueF_le r m (e + 1); omega
def dgC (r : Int64) (m : Nat) : Nat := (48 + (r / lN (10 ^ m) - r / lN (10 ^ m) / 10 * 10).toInt32).toBitVec.toNat % 256
def dgL (r : Int64) : Nat → List Nat
  | 0 => []
  | m + 1 => dgC r m :: dgL r m
section ModW3
variable {G : aG} {σ : aS} {K : Option Value → aS → Prop} {w p o cap : Nat} {s : aW}
set_option maxHeartbeats 4000000 in
set_option maxRecDepth 100000 in
theorem lp_W_unit {r : Int64} : ∀ (m e : Nat), e + m = 9 → a_J G m_W_writeNumber 2 46 64 [(0, .ref w), (2, .long r), (4, .long (lN (10 ^ ueF r m e)))] [] σ K → a_J G m_W_writeNumber 2 46 33 [(0, .ref w), (2, .long r), (4, .long (lN (10 ^ e)))] [] σ K := by
  intro m
  induction m with
  | zero =>
    intro e he hK
    refine a_lload d_W_writeNumber_33 rfl ?_
    refine a_ldc2 d_W_writeNumber_35 k_W_107 ?_
    refine a_lcmp d_W_writeNumber_38 ?_
    refine a_if_gt (tgt := 64) d_W_writeNumber_39 (by decide) (fun c_1 => ?_) (fun n9 => absurd ((lg_cmp_gt _ _).mpr (by rw [show e = 9 by omega]; exact wn6)) n9)
    exact a_lvk hK ⟨rfl, rfl, rfl, trivial⟩
  | succ m ih =>
    intro e he hK
    refine a_lload d_W_writeNumber_33 rfl ?_
    refine a_ldc2 d_W_writeNumber_35 k_W_107 ?_
    refine a_lcmp d_W_writeNumber_38 ?_
    refine a_if_gt (tgt := 64) d_W_writeNumber_39 (by decide) (fun n9 => absurd n9 (fun h => absurd ((lg_cmp_gt _ _).mp h) (wn1 e (by omega)))) (fun c_1 => ?_)
    refine a_lload d_W_writeNumber_42 rfl ?_
    refine a_ldc2 d_W_writeNumber_44 k_W_109 ?_
    refine a_lmul d_W_writeNumber_47 ?_
    rw [wn5 e (by omega)]
    refine a_lload_n d_W_writeNumber_48 rfl rfl ?_
    refine a_lcmp d_W_writeNumber_49 ?_
    refine a_if_gt (tgt := 64) d_W_writeNumber_50 (by decide) (fun c_2 => ?_) (fun c_2 => ?_)
    · rw [ueF, if_pos ((lg_cmp_gt _ _).mp c_2)] at hK
      exact a_lvk hK ⟨rfl, rfl, rfl, trivial⟩
    · refine a_lload d_W_writeNumber_53 rfl ?_
      refine a_ldc2 d_W_writeNumber_55 k_W_109 ?_
      refine a_lmul d_W_writeNumber_58 ?_
      rw [wn5 e (by omega)]
      refine a_lstore d_W_writeNumber_59 (by decide) ?_
      refine a_goto (tgt := 33) d_W_writeNumber_61 (by decide) ?_
      rw [ueF, if_neg (fun q => c_2 ((lg_cmp_gt _ _).mpr q))] at hK
      exact a_lvk (ih (e + 1) (by omega) hK) ⟨rfl, rfl, rfl, trivial⟩

set_option maxHeartbeats 4000000 in
set_option maxRecDepth 100000 in
theorem lp_W_digits {r : Int64} (hdis : w < o ∨ o + 1 < w) : ∀ (m : Nat) {σ : aS} {s : aW}, m ≤ 10 → WR σ w p o cap s → (∀ τ, a_fw σ τ w o → WR τ w p o cap (putL cap s (dgL r m)) → K none τ) → a_J G m_W_writeNumber 2 46 64 [(0, .ref w), (2, .long r), (4, .long (uF m))] [] σ K := by
  intro m
  induction m with
  | zero =>
    intro σ s hm hW hK
    obtain ⟨hW0, hB⟩ := id hW
    refine a_lload d_W_writeNumber_64 rfl ?_
    refine a_lconst (v := 0) d_W_writeNumber_66 (by decide) ?_
    refine a_lcmp d_W_writeNumber_67 ?_
    refine a_if_le (tgt := 110) d_W_writeNumber_68 (by decide) (fun c_1 => ?_) (fun n9 => absurd ((lg_cmp_le _ _).mpr (show (0 : Int64) ≤ 0 by decide)) n9)
    refine a_return d_W_writeNumber_110 rfl ?_
    exact hK σ a_fw.rf hW
  | succ m ih =>
    intro σ s hm hW hK
    obtain ⟨hW0, hB⟩ := id hW
    refine a_lload d_W_writeNumber_64 rfl ?_
    refine a_lconst (v := 0) d_W_writeNumber_66 (by decide) ?_
    refine a_lcmp d_W_writeNumber_67 ?_
    refine a_if_le (tgt := 110) d_W_writeNumber_68 (by decide) (fun n9 => absurd n9 (fun h => absurd ((lg_cmp_le _ _).mp h) (wn2 m (by omega)))) (fun c_1 => ?_)
    refine a_aload_n d_W_writeNumber_71 rfl rfl ?_
    refine a_dup d_W_writeNumber_72 rfl ?_
    apply a_getfield d_W_writeNumber_73 f_W_19
    · (repeat (first | with_reducible assumption | with_reducible exact a_us | with_reducible exact a_ns | refine a_un (by first | with_reducible assumption | omega) ?_ | refine a_nn (by first | with_reducible assumption | omega | (simp only [a_upd_1, a_new_1]; omega)) ?_ | exact a_us | exact a_ns))
    · rfl
    refine a_aload_n d_W_writeNumber_76 rfl rfl ?_
    apply a_getfield d_W_writeNumber_77 f_W_15
    · (repeat (first | with_reducible assumption | with_reducible exact a_us | with_reducible exact a_ns | refine a_un (by first | with_reducible assumption | omega) ?_ | refine a_nn (by first | with_reducible assumption | omega | (simp only [a_upd_1, a_new_1]; omega)) ?_ | exact a_us | exact a_ns))
    · rfl
    refine a_bipush (v := 48) d_W_writeNumber_80 (by decide) ?_
    refine a_lload_n d_W_writeNumber_82 rfl rfl ?_
    refine a_lload d_W_writeNumber_83 rfl ?_
    refine a_ldiv d_W_writeNumber_85 (wn3 m (by omega)) ?_
    refine a_ldc2 d_W_writeNumber_86 k_W_109 ?_
    refine a_lrem d_W_writeNumber_89 (by decide) ?_
    refine a_l2i d_W_writeNumber_90 ?_
    refine a_iadd d_W_writeNumber_91 ?_
    refine a_addfit (c := dgC r m) d_W_writeNumber_92 l_W_101 d_W_writeNumber_95 d_W_writeNumber_96 p_W_19 hW hdis rfl (Nat.le_of_ble_eq_true rfl) ⟨Nat.le_of_ble_eq_true rfl, Nat.le_of_ble_eq_true rfl⟩ (fun τ hf hW2 => ?_)
    refine a_lload d_W_writeNumber_99 rfl ?_
    refine a_ldc2 d_W_writeNumber_101 k_W_109 ?_
    refine a_ldiv d_W_writeNumber_104 (by decide) ?_
    rw [show uF (m + 1) / 10 = uF m from wn4 m (by omega)]
    refine a_lstore d_W_writeNumber_105 (by decide) ?_
    refine a_goto (tgt := 64) d_W_writeNumber_107 (by decide) ?_
    exact a_lvk (ih (by omega) hW2 (fun υ hf2 hW3 => hK υ (hf.trans hf2) hW3)) ⟨rfl, rfl, rfl, trivial⟩

/-- a number's bytes -/
def numB (x : Int32) : List Nat := if 0 ≤ x.toInt64 then dgL x.toInt64 (ueF x.toInt64 9 0 + 1) else 45 :: dgL (-x.toInt64) (ueF (-x.toInt64) 9 0 + 1)
set_option maxHeartbeats 4000000 in
set_option maxRecDepth 100000 in
theorem sp_W_writeNumber {x : Int32} (hdis : w < o ∨ o + 1 < w) (hW : WR σ w p o cap s) (hK : ∀ τ, a_fw σ τ w o → WR τ w p o cap (putL cap s (numB x)) → K none τ) : a_C G m_W_writeNumber 2 46 [.ref w, .int x] σ K := by
  obtain ⟨hW0, hB⟩ := id hW
  refine a_enter rfl (Nat.le_of_ble_eq_true rfl) ?_
  refine a_iload_n d_W_writeNumber_0 rfl rfl ?_
  refine a_i2l d_W_writeNumber_1 ?_
  refine a_lstore_n d_W_writeNumber_2 rfl (by decide) ?_
  refine a_lload_n d_W_writeNumber_3 rfl rfl ?_
  refine a_lconst (v := 0) d_W_writeNumber_4 (by decide) ?_
  refine a_lcmp d_W_writeNumber_5 ?_
  refine a_if_ge (tgt := 30) d_W_writeNumber_6 (by decide) (fun c_1 => ?_) (fun c_1 => ?_)
  · refine a_lconst (v := 1) d_W_writeNumber_30 (by decide) ?_
    refine a_lstore d_W_writeNumber_31 (by decide) ?_
    first
    | (rw [numB, if_pos ((lg_cmp_ge _ _).mp c_1)] at hK
       have hu := ueF_le x.toInt64 9 0
       exact a_lvk (lp_W_unit 9 0 rfl (lp_W_digits hdis (ueF x.toInt64 9 0 + 1) (by omega) hW hK)) ⟨rfl, rfl, rfl, trivial⟩)
    | (rw [numB, if_neg (fun q => c_1 ((lg_cmp_ge _ _).mpr q))] at hK
       have hu := ueF_le (-x.toInt64) 9 0
       exact a_lvk (lp_W_unit 9 0 rfl (lp_W_digits hdis (ueF (-x.toInt64) 9 0 + 1) (by omega) hW2 (fun υ hf2 hW3 => hK υ (hf.trans hf2) hW3))) ⟨rfl, rfl, rfl, trivial⟩)
  · refine a_aload_n d_W_writeNumber_9 rfl rfl ?_
    refine a_dup d_W_writeNumber_10 rfl ?_
    apply a_getfield d_W_writeNumber_11 f_W_19
    · (repeat (first | with_reducible assumption | with_reducible exact a_us | with_reducible exact a_ns | refine a_un (by first | with_reducible assumption | omega) ?_ | refine a_nn (by first | with_reducible assumption | omega | (simp only [a_upd_1, a_new_1]; omega)) ?_ | exact a_us | exact a_ns))
    · rfl
    refine a_aload_n d_W_writeNumber_14 rfl rfl ?_
    apply a_getfield d_W_writeNumber_15 f_W_15
    · (repeat (first | with_reducible assumption | with_reducible exact a_us | with_reducible exact a_ns | refine a_un (by first | with_reducible assumption | omega) ?_ | refine a_nn (by first | with_reducible assumption | omega | (simp only [a_upd_1, a_new_1]; omega)) ?_ | exact a_us | exact a_ns))
    · rfl
    refine a_bipush (v := 45) d_W_writeNumber_18 (by decide) ?_
    refine a_addfit (c := 45) d_W_writeNumber_20 l_W_101 d_W_writeNumber_23 d_W_writeNumber_24 p_W_19 hW hdis (by decide) (Nat.le_of_ble_eq_true rfl) ⟨Nat.le_of_ble_eq_true rfl, Nat.le_of_ble_eq_true rfl⟩ (fun τ hf hW2 => ?_)
    refine a_lload_n d_W_writeNumber_27 rfl rfl ?_
    refine a_lneg d_W_writeNumber_28 ?_
    refine a_lstore_n d_W_writeNumber_29 rfl (by decide) ?_
    refine a_lconst (v := 1) d_W_writeNumber_30 (by decide) ?_
    refine a_lstore d_W_writeNumber_31 (by decide) ?_
    first
    | (rw [numB, if_pos ((lg_cmp_ge _ _).mp c_1)] at hK
       have hu := ueF_le x.toInt64 9 0
       exact a_lvk (lp_W_unit 9 0 rfl (lp_W_digits hdis (ueF x.toInt64 9 0 + 1) (by omega) hW hK)) ⟨rfl, rfl, rfl, trivial⟩)
    | (rw [numB, if_neg (fun q => c_1 ((lg_cmp_ge _ _).mpr q))] at hK
       have hu := ueF_le (-x.toInt64) 9 0
       exact a_lvk (lp_W_unit 9 0 rfl (lp_W_digits hdis (ueF (-x.toInt64) 9 0 + 1) (by omega) hW2 (fun υ hf2 hW3 => hK υ (hf.trans hf2) hW3))) ⟨rfl, rfl, rfl, trivial⟩)

end ModW3
