/-! PRINTER, second part: the constructor, names -/
def ltr (x : Int64) (m : Nat) : Int32 := (x >>> ((nI (5 * m)).toInt64 &&& 63)).toInt32 &&& 31
/-- the letters of a name, from the m-th five of bits down -/
def nmL (x : Int64) : Nat → List Nat
  | 0 => []
  | m + 1 => (if ltr x m = 0 then [] else [(97 + ltr x m - 1).toBitVec.toNat % 256]) ++ nmL x m
section ModW2
variable {G : aG} {σ : aS} {K : Option Value → aS → Prop} {w p o cap : Nat} {s : aW}
set_option maxHeartbeats 4000000 in
set_option maxRecDepth 100000 in
theorem sp_W_init (h0 : σ.2.2 w = some (.inr (3, [.null, .null, .int 0]))) (hK : ∀ τ, a_fr σ τ w (w + 1) → τ.2.2 w = some (.inr (3, [.ref p, .ref o, .int 1])) → K none τ) : a_C G m_W_init 1 20 [.ref w, .ref p, .ref o] σ K := by
  refine a_enter rfl (Nat.le_of_ble_eq_true rfl) ?_
  refine a_aload_n d_W_init_0 rfl rfl ?_
  refine a_objinit d_W_init_1 o_W (Nat.le_of_ble_eq_true rfl) ⟨Nat.le_of_ble_eq_true rfl, Nat.le_of_ble_eq_true rfl⟩ ?_
  refine a_aload_n d_W_init_4 rfl rfl ?_
  refine a_aload_n d_W_init_5 rfl rfl ?_
  apply a_putfinal d_W_init_6 p_W_9 rfl
  · (repeat (first | with_reducible assumption | with_reducible exact a_us | with_reducible exact a_ns | refine a_un (by first | with_reducible assumption | omega) ?_ | refine a_nn (by first | with_reducible assumption | omega | (simp only [a_upd_1, a_new_1]; omega)) ?_ | exact a_us | exact a_ns))
  · first | rfl | assumption
  · first | rfl | assumption
  · exact Nat.le_of_ble_eq_true rfl
  refine a_aload_n d_W_init_9 rfl rfl ?_
  refine a_aload_n d_W_init_10 rfl rfl ?_
  apply a_putfinal d_W_init_11 p_W_15 rfl
  · (repeat (first | with_reducible assumption | with_reducible exact a_us | with_reducible exact a_ns | refine a_un (by first | with_reducible assumption | omega) ?_ | refine a_nn (by first | with_reducible assumption | omega | (simp only [a_upd_1, a_new_1]; omega)) ?_ | exact a_us | exact a_ns))
  · first | rfl | assumption
  · first | rfl | assumption
  · exact Nat.le_of_ble_eq_true rfl
  refine a_aload_n d_W_init_14 rfl rfl ?_
  refine a_iconst (v := 1) d_W_init_15 (by decide) ?_
  apply a_putfield d_W_init_16 p_W_19
  · (repeat (first | with_reducible assumption | with_reducible exact a_us | with_reducible exact a_ns | refine a_un (by first | with_reducible assumption | omega) ?_ | refine a_nn (by first | with_reducible assumption | omega | (simp only [a_upd_1, a_new_1]; omega)) ?_ | exact a_us | exact a_ns))
  · first | rfl | assumption
  · first | rfl | assumption
  · exact Nat.le_of_ble_eq_true rfl
  refine a_return d_W_init_19 rfl ?_
  exact hK _ ((a_fr.rf.upd (Nat.le_refl w) (Nat.lt_succ_self w)).upd (Nat.le_refl w) (Nat.lt_succ_self w) |>.upd (Nat.le_refl w) (Nat.lt_succ_self w)) a_us

set_option maxHeartbeats 4000000 in
set_option maxRecDepth 100000 in
theorem lp_W_writeName {x : Int64} (hdis : w < o ∨ o + 1 < w) : ∀ (m : Nat) {σ : aS} {s : aW}, m ≤ 12 → WR σ w p o cap s → (∀ τ, a_fw σ τ w o → WR τ w p o cap (putL cap s (nmL x m)) → K none τ) → a_J G m_W_writeName 2 46 3 [(0, .ref w), (1, .long x), (3, .int (nI (5 * m) - 5))] [] σ K := by
  intro m
  induction m with
  | zero =>
    intro σ s hm hW hK
    obtain ⟨hW0, hB⟩ := id hW
    refine a_iload_n d_W_writeName_3 rfl rfl ?_
    refine a_if_lt (tgt := 50) d_W_writeName_4 (by decide) (fun c_1 => ?_) (fun n9 => absurd (by decide) n9)
    refine a_return d_W_writeName_50 rfl ?_
    exact hK σ a_fw.rf hW
  | succ m ih =>
    intro σ s hm hW hK
    obtain ⟨hW0, hB⟩ := id hW
    have e5 : nI (5 * (m + 1)) - 5 = nI (5 * m) := by rw [show (5 : Int32) = nI 5 from rfl, pk_sub (by omega)]; congr 1
    have e6 : (some (Value.int (nI (5 * m) + (-5))) : Option Value) = some (Value.int (nI (5 * m) - 5)) := by rw [Int32.sub_eq_add_neg]
    rw [e5]
    refine a_iload_n d_W_writeName_3 rfl rfl ?_
    refine a_if_lt (tgt := 50) d_W_writeName_4 (by decide) (fun n9 => absurd n9 (nI_pos (by omega))) (fun c_1 => ?_)
    refine a_lload_n d_W_writeName_7 rfl rfl ?_
    refine a_iload_n d_W_writeName_8 rfl rfl ?_
    refine a_lshr d_W_writeName_9 ?_
    refine a_l2i d_W_writeName_10 ?_
    refine a_bipush (v := 31) d_W_writeName_11 (by decide) ?_
    refine a_iand d_W_writeName_13 ?_
    refine a_istore d_W_writeName_14 (by decide) ?_
    refine a_iload d_W_writeName_16 rfl ?_
    refine a_if_eq (tgt := 44) d_W_writeName_18 (by decide) (fun c_2 => ?_) (fun c_2 => ?_)
    · refine a_iinc (c0 := -5) d_W_writeName_44 rfl (by decide) (by decide) ?_
      refine a_goto (tgt := 3) d_W_writeName_47 (by decide) ?_
      first
      | (refine a_lvk (ih (by omega) hW2 (fun υ hf2 hW3 => ?_)) ⟨rfl, rfl, e6, trivial⟩
         rw [nmL, if_neg (show ¬ ltr x m = 0 from c_2)] at hK
         exact hK υ (hf.trans hf2) hW3)
      | (refine a_lvk (ih (by omega) hW (fun υ hf2 hW3 => ?_)) ⟨rfl, rfl, e6, trivial⟩
         rw [nmL, if_pos (show ltr x m = 0 from c_2)] at hK
         exact hK υ hf2 hW3)
    · refine a_aload_n d_W_writeName_21 rfl rfl ?_
      refine a_dup d_W_writeName_22 rfl ?_
      apply a_getfield d_W_writeName_23 f_W_19
      · (repeat (first | with_reducible assumption | with_reducible exact a_us | with_reducible exact a_ns | refine a_un (by first | with_reducible assumption | omega) ?_ | refine a_nn (by first | with_reducible assumption | omega | (simp only [a_upd_1, a_new_1]; omega)) ?_ | exact a_us | exact a_ns))
      · rfl
      refine a_aload_n d_W_writeName_26 rfl rfl ?_
      apply a_getfield d_W_writeName_27 f_W_15
      · (repeat (first | with_reducible assumption | with_reducible exact a_us | with_reducible exact a_ns | refine a_un (by first | with_reducible assumption | omega) ?_ | refine a_nn (by first | with_reducible assumption | omega | (simp only [a_upd_1, a_new_1]; omega)) ?_ | exact a_us | exact a_ns))
      · rfl
      refine a_bipush (v := 97) d_W_writeName_30 (by decide) ?_
      refine a_iload d_W_writeName_32 rfl ?_
      refine a_iadd d_W_writeName_34 ?_
      refine a_iconst (v := 1) d_W_writeName_35 (by decide) ?_
      refine a_isub d_W_writeName_36 ?_
      refine a_addfit (c := (97 + ltr x m - 1).toBitVec.toNat % 256) d_W_writeName_37 l_W_101 d_W_writeName_40 d_W_writeName_41 p_W_19 hW hdis rfl (Nat.le_of_ble_eq_true rfl) ⟨Nat.le_of_ble_eq_true rfl, Nat.le_of_ble_eq_true rfl⟩ (fun τ hf hW2 => ?_)
      refine a_iinc (c0 := -5) d_W_writeName_44 rfl (by decide) (by decide) ?_
      refine a_goto (tgt := 3) d_W_writeName_47 (by decide) ?_
      first
      | (refine a_lvk (ih (by omega) hW2 (fun υ hf2 hW3 => ?_)) ⟨rfl, rfl, e6, trivial⟩
         rw [nmL, if_neg (show ¬ ltr x m = 0 from c_2)] at hK
         exact hK υ (hf.trans hf2) hW3)
      | (refine a_lvk (ih (by omega) hW (fun υ hf2 hW3 => ?_)) ⟨rfl, rfl, e6, trivial⟩
         rw [nmL, if_pos (show ltr x m = 0 from c_2)] at hK
         exact hK υ hf2 hW3)

set_option maxHeartbeats 4000000 in
set_option maxRecDepth 100000 in
theorem sp_W_writeName {x : Int64} (hdis : w < o ∨ o + 1 < w) (hW : WR σ w p o cap s) (hK : ∀ τ, a_fw σ τ w o → WR τ w p o cap (putL cap s (nmL x 12)) → K none τ) : a_C G m_W_writeName 2 46 [.ref w, .long x] σ K := by
  refine a_enter rfl (Nat.le_of_ble_eq_true rfl) ?_
  refine a_bipush (v := 55) d_W_writeName_0 (by decide) ?_
  refine a_istore_n d_W_writeName_2 rfl (by decide) ?_
  exact a_lvk (lp_W_writeName hdis 12 (by omega) hW hK) ⟨rfl, rfl, (show (some (Value.int 55) : Option Value) = some (Value.int (nI (5 * 12) - 5)) by decide), trivial⟩

end ModW2
