/-! THE MODEL's readGuard, whole -/
section ModM12
variable {G : aG} {σ0 : aS} {K : Option Value → aS → Prop} {m n : Nat} {f : Nat → Nat} {x : aX} {c : aN}
theorem mW01 (x : aX) (j : Nat) : mW x j = 0 ∨ mW x j = 1 := by
  unfold mW
  split
  · split
    · exact Or.inr rfl
    · exact Or.inl rfl
  · exact Or.inl rfl
set_option maxHeartbeats 1000000 in
set_option maxRecDepth 100000 in
theorem g_M_37B {w : Int32} {t : Nat} (h0 : ¬ x.1 24 = 0) (hK : K none (mk σ0 m x)) : a_J G m_M_readGuard 7 149 37 [(0, .ref m), (1, .int w), (2, .int (nI t))] [] (mk σ0 m x) K := by
  refine a_aload_n d_M_readGuard_37 rfl rfl ?_
  refine a_aload_n d_M_readGuard_38 rfl rfl ?_
  refine a_ldcS 42 d_M_readGuard_39 (by decide) rfl rfl ?_
  apply a_callV (ci := 7) 5 108 [_] _ d_M_readGuard_41 l_M_203 ⟨im_M_isWord, se_M_isWord⟩ rfl rfl rfl rfl (Nat.le_of_ble_eq_true rfl) ⟨Nat.le_of_ble_eq_true rfl, Nat.le_of_ble_eq_true rfl⟩
  · (exact mk_O)
  refine sp_M_isWord (by decide) (jG _ (by decide) (by decide)) ?_
  refine a_if_ne (tgt := 56) d_M_readGuard_44 (by decide) (fun c_1 => ?_) (fun c_1 => ?_)
  · refine a_iconst (v := 1) d_M_readGuard_56 (by decide) ?_
    refine a_goto (tgt := 61) d_M_readGuard_57 (by decide) ?_
    apply a_callV (ci := 7) 1 22 [_] _ d_M_readGuard_61 l_M_229 ⟨im_M_must, se_M_must⟩ rfl rfl rfl rfl (Nat.le_of_ble_eq_true rfl) ⟨Nat.le_of_ble_eq_true rfl, Nat.le_of_ble_eq_true rfl⟩
    · (exact mk_O)
    refine sp_M_mustB h0 ?_
    refine a_if_ne (tgt := 68) d_M_readGuard_64 (by decide) (fun n9 => absurd (rfl) n9) (fun c_2 => ?_)
    exact a_return d_M_readGuard_67 rfl hK
  · refine a_aload_n d_M_readGuard_47 rfl rfl ?_
    refine a_ldcS 43 d_M_readGuard_48 (by decide) rfl rfl ?_
    apply a_callV (ci := 7) 5 108 [_] _ d_M_readGuard_50 l_M_203 ⟨im_M_isWord, se_M_isWord⟩ rfl rfl rfl rfl (Nat.le_of_ble_eq_true rfl) ⟨Nat.le_of_ble_eq_true rfl, Nat.le_of_ble_eq_true rfl⟩
    · (exact mk_O)
    refine sp_M_isWord (by decide) (jG _ (by decide) (by decide)) ?_
    refine a_if_eq (tgt := 60) d_M_readGuard_53 (by decide) (fun c_3 => ?_) (fun c_3 => ?_)
    · refine a_iconst (v := 0) d_M_readGuard_60 (by decide) ?_
      apply a_callV (ci := 7) 1 22 [_] _ d_M_readGuard_61 l_M_229 ⟨im_M_must, se_M_must⟩ rfl rfl rfl rfl (Nat.le_of_ble_eq_true rfl) ⟨Nat.le_of_ble_eq_true rfl, Nat.le_of_ble_eq_true rfl⟩
      · (exact mk_O)
      refine sp_M_mustB h0 ?_
      refine a_if_ne (tgt := 68) d_M_readGuard_64 (by decide) (fun n9 => absurd (rfl) n9) (fun c_4 => ?_)
      exact a_return d_M_readGuard_67 rfl hK
    · refine a_iconst (v := 1) d_M_readGuard_56 (by decide) ?_
      refine a_goto (tgt := 61) d_M_readGuard_57 (by decide) ?_
      apply a_callV (ci := 7) 1 22 [_] _ d_M_readGuard_61 l_M_229 ⟨im_M_must, se_M_must⟩ rfl rfl rfl rfl (Nat.le_of_ble_eq_true rfl) ⟨Nat.le_of_ble_eq_true rfl, Nat.le_of_ble_eq_true rfl⟩
      · (exact mk_O)
      refine sp_M_mustB h0 ?_
      refine a_if_ne (tgt := 68) d_M_readGuard_64 (by decide) (fun n9 => absurd (rfl) n9) (fun c_5 => ?_)
      exact a_return d_M_readGuard_67 rfl hK

set_option maxHeartbeats 1000000 in
set_option maxRecDepth 100000 in
theorem g_M_6B {w : Int32} {t : Nat} (h0 : ¬ x.1 24 = 0) (hK : K none (mk σ0 m x)) : a_J G m_M_readGuard 7 149 6 [(0, .ref m), (1, .int w), (2, .int (nI t))] [] (mk σ0 m x) K := by
  refine a_aload_n d_M_readGuard_6 rfl rfl ?_
  refine m_get d_M_readGuard_7 f_M_126 rfl ?_
  refine a_if_ne (tgt := 37) d_M_readGuard_10 (by decide) (fun c_1 => ?_) (fun n9 => absurd n9 (h0))
  exact a_lvk (g_M_37B h0 hK) ⟨rfl, rfl, rfl, trivial⟩

set_option maxHeartbeats 1000000 in
set_option maxRecDepth 100000 in
theorem g_M_37F {w : Int32} {t : Nat} (w1 : mW x 42 = 0) (w2 : mW x 43 = 0) (hK : K none (mk σ0 m (muX x 0))) : a_J G m_M_readGuard 7 149 37 [(0, .ref m), (1, .int w), (2, .int (nI t))] [] (mk σ0 m x) K := by
  refine a_aload_n d_M_readGuard_37 rfl rfl ?_
  refine a_aload_n d_M_readGuard_38 rfl rfl ?_
  refine a_ldcS 42 d_M_readGuard_39 (by decide) rfl rfl ?_
  apply a_callV (ci := 7) 5 108 [_] _ d_M_readGuard_41 l_M_203 ⟨im_M_isWord, se_M_isWord⟩ rfl rfl rfl rfl (Nat.le_of_ble_eq_true rfl) ⟨Nat.le_of_ble_eq_true rfl, Nat.le_of_ble_eq_true rfl⟩
  · (exact mk_O)
  refine sp_M_isWord (by decide) (jG _ (by decide) (by decide)) ?_
  refine a_if_ne (tgt := 56) d_M_readGuard_44 (by decide) (fun n9 => absurd (w1) n9) (fun c_1 => ?_)
  refine a_aload_n d_M_readGuard_47 rfl rfl ?_
  refine a_ldcS 43 d_M_readGuard_48 (by decide) rfl rfl ?_
  apply a_callV (ci := 7) 5 108 [_] _ d_M_readGuard_50 l_M_203 ⟨im_M_isWord, se_M_isWord⟩ rfl rfl rfl rfl (Nat.le_of_ble_eq_true rfl) ⟨Nat.le_of_ble_eq_true rfl, Nat.le_of_ble_eq_true rfl⟩
  · (exact mk_O)
  refine sp_M_isWord (by decide) (jG _ (by decide) (by decide)) ?_
  refine a_if_eq (tgt := 60) d_M_readGuard_53 (by decide) (fun c_2 => ?_) (fun n9 => absurd (w2) n9)
  refine a_iconst (v := 0) d_M_readGuard_60 (by decide) ?_
  apply a_callV (ci := 7) 1 22 [_] _ d_M_readGuard_61 l_M_229 ⟨im_M_must, se_M_must⟩ rfl rfl rfl rfl (Nat.le_of_ble_eq_true rfl) ⟨Nat.le_of_ble_eq_true rfl, Nat.le_of_ble_eq_true rfl⟩
  · (exact mk_O)
  refine sp_M_mustF rfl ?_
  refine a_if_ne (tgt := 68) d_M_readGuard_64 (by decide) (fun n9 => absurd (rfl) n9) (fun c_3 => ?_)
  exact a_return d_M_readGuard_67 rfl hK

set_option maxHeartbeats 1000000 in
set_option maxRecDepth 100000 in
theorem g_M_37_0 {w : Int32} {t g a : Nat} (hT : MX x n f) (hA : x.1 19 = nI a) (ha : a ≤ n) (h0 : x.1 24 = 0) (w1 : ¬ mW x 42 = 0) (w2 : mW x 43 = 0) (ht : t < 65536) (hg : x.1 50 = nI g) (hg9 : g < 900) (hK : ∀ y, NX n f a (sA (sA x 25 g 0) 30 g (nI (t % 2))) y → a_J G m_M_readGuard 7 149 108 [(0, .ref m), (1, .int w), (2, .int (nI t))] [] (mk σ0 m y) K) : a_J G m_M_readGuard 7 149 37 [(0, .ref m), (1, .int w), (2, .int (nI t))] [] (mk σ0 m x) K := by
  have e43 : mW x 43 = 0 := w2
  refine a_aload_n d_M_readGuard_37 rfl rfl ?_
  refine a_aload_n d_M_readGuard_38 rfl rfl ?_
  refine a_ldcS 42 d_M_readGuard_39 (by decide) rfl rfl ?_
  apply a_callV (ci := 7) 5 108 [_] _ d_M_readGuard_41 l_M_203 ⟨im_M_isWord, se_M_isWord⟩ rfl rfl rfl rfl (Nat.le_of_ble_eq_true rfl) ⟨Nat.le_of_ble_eq_true rfl, Nat.le_of_ble_eq_true rfl⟩
  · (exact mk_O)
  refine sp_M_isWord (by decide) (jG _ (by decide) (by decide)) ?_
  refine a_if_ne (tgt := 56) d_M_readGuard_44 (by decide) (fun c_1 => ?_) (fun n9 => absurd n9 (w1))
  refine a_iconst (v := 1) d_M_readGuard_56 (by decide) ?_
  refine a_goto (tgt := 61) d_M_readGuard_57 (by decide) ?_
  apply a_callV (ci := 7) 1 22 [_] _ d_M_readGuard_61 l_M_229 ⟨im_M_must, se_M_must⟩ rfl rfl rfl rfl (Nat.le_of_ble_eq_true rfl) ⟨Nat.le_of_ble_eq_true rfl, Nat.le_of_ble_eq_true rfl⟩
  · (exact mk_O)
  refine sp_M_mustT (by decide) h0 ?_
  refine a_if_ne (tgt := 68) d_M_readGuard_64 (by decide) (fun c_2 => ?_) (fun n9 => absurd n9 (by decide))
  refine a_aload_n d_M_readGuard_68 rfl rfl ?_
  refine m_get d_M_readGuard_69 f_M_88 rfl ?_
  refine a_aload_n d_M_readGuard_72 rfl rfl ?_
  refine m_get (v := .int (nI g)) d_M_readGuard_73 f_M_248 (congrArg (fun z => some (Value.int z)) hg) ?_
  refine a_aload_n d_M_readGuard_76 rfl rfl ?_
  refine a_ldcS 43 d_M_readGuard_77 (by decide) rfl rfl ?_
  apply a_callV (ci := 7) 5 108 [_] _ d_M_readGuard_79 l_M_203 ⟨im_M_isWord, se_M_isWord⟩ rfl rfl rfl rfl (Nat.le_of_ble_eq_true rfl) ⟨Nat.le_of_ble_eq_true rfl, Nat.le_of_ble_eq_true rfl⟩
  · (exact mk_O)
  refine sp_M_isWord (by decide) (jG _ (by decide) (by decide)) ?_
  refine m_zast d_M_readGuard_82 (by decide) rfl (vp_in_nI (show g < 900 by omega) (by decide)) ?_
  rw [nI_clamp (show g < 2 ^ 31 by omega)]
  rw [show vp_nar .boolean (mW x 43) = 0 from by rw [e43]; rfl]
  refine a_aload_n d_M_readGuard_83 rfl rfl ?_
  refine m_get d_M_readGuard_84 f_M_103 rfl ?_
  refine a_aload_n d_M_readGuard_87 rfl rfl ?_
  refine m_get (v := .int (nI g)) d_M_readGuard_88 f_M_248 (congrArg (fun z => some (Value.int z)) hg) ?_
  refine a_iload_n d_M_readGuard_91 rfl rfl ?_
  refine a_iconst (v := 2) d_M_readGuard_92 (by decide) ?_
  refine a_irem d_M_readGuard_93 (by decide) ?_
  rw [show (2 : Int32) = nI 2 from rfl, pk_rem (by omega) (by decide) (by decide)]
  refine a_iconst (v := 1) d_M_readGuard_94 (by decide) ?_
  refine a_icmp_ne (tgt := 102) d_M_readGuard_95 (by decide) (fun c_3 => ?_) (fun c_3 => ?_)
  · refine a_iconst (v := 0) d_M_readGuard_102 (by decide) ?_
    refine m_zast d_M_readGuard_103 (by decide) rfl (vp_in_nI (show g < 900 by omega) (by decide)) ?_
    rw [nI_clamp (show g < 2 ^ 31 by omega)]
    first | rw [show vp_nar .boolean 1 = nI (t % 2) from by rw [show t % 2 = 1 from (nI_eq (by omega) (by decide)).mp (by first | assumption | exact Decidable.not_not.mp (by assumption))]; rfl] | rw [show vp_nar .boolean 0 = nI (t % 2) from by rw [show t % 2 = 0 from by have h2 : ¬ t % 2 = 1 := (fun e => absurd (show nI (t % 2) = 1 from by rw [e]; rfl) (by assumption)); omega]; rfl]
    refine a_aload_n d_M_readGuard_104 rfl rfl ?_
    apply a_callV (ci := 7) 2 48 [] _ d_M_readGuard_105 l_M_233 ⟨im_M_next, se_M_next⟩ rfl rfl rfl rfl (Nat.le_of_ble_eq_true rfl) ⟨Nat.le_of_ble_eq_true rfl, Nat.le_of_ble_eq_true rfl⟩
    · (exact mk_O)
    refine sp_M_next (a := a) hT hA ha (fun y hy => ?_)
    exact a_lvk (hK y hy) ⟨rfl, rfl, rfl, trivial⟩
  · refine a_iconst (v := 1) d_M_readGuard_98 (by decide) ?_
    refine a_goto (tgt := 103) d_M_readGuard_99 (by decide) ?_
    refine m_zast d_M_readGuard_103 (by decide) rfl (vp_in_nI (show g < 900 by omega) (by decide)) ?_
    rw [nI_clamp (show g < 2 ^ 31 by omega)]
    first | rw [show vp_nar .boolean 1 = nI (t % 2) from by rw [show t % 2 = 1 from (nI_eq (by omega) (by decide)).mp (by first | assumption | exact Decidable.not_not.mp (by assumption))]; rfl] | rw [show vp_nar .boolean 0 = nI (t % 2) from by rw [show t % 2 = 0 from by have h2 : ¬ t % 2 = 1 := (fun e => absurd (show nI (t % 2) = 1 from by rw [e]; rfl) (by assumption)); omega]; rfl]
    refine a_aload_n d_M_readGuard_104 rfl rfl ?_
    apply a_callV (ci := 7) 2 48 [] _ d_M_readGuard_105 l_M_233 ⟨im_M_next, se_M_next⟩ rfl rfl rfl rfl (Nat.le_of_ble_eq_true rfl) ⟨Nat.le_of_ble_eq_true rfl, Nat.le_of_ble_eq_true rfl⟩
    · (exact mk_O)
    refine sp_M_next (a := a) hT hA ha (fun y hy => ?_)
    exact a_lvk (hK y hy) ⟨rfl, rfl, rfl, trivial⟩

set_option maxHeartbeats 1000000 in
set_option maxRecDepth 100000 in
theorem g_M_37_1 {w : Int32} {t g a : Nat} (hT : MX x n f) (hA : x.1 19 = nI a) (ha : a ≤ n) (h0 : x.1 24 = 0) (w1 : mW x 42 = 0) (w2 : ¬ mW x 43 = 0) (ht : t < 65536) (hg : x.1 50 = nI g) (hg9 : g < 900) (hK : ∀ y, NX n f a (sA (sA x 25 g 1) 30 g (nI (t % 2))) y → a_J G m_M_readGuard 7 149 108 [(0, .ref m), (1, .int w), (2, .int (nI t))] [] (mk σ0 m y) K) : a_J G m_M_readGuard 7 149 37 [(0, .ref m), (1, .int w), (2, .int (nI t))] [] (mk σ0 m x) K := by
  have e43 : mW x 43 = 1 := (mW01 x 43).resolve_left w2
  refine a_aload_n d_M_readGuard_37 rfl rfl ?_
  refine a_aload_n d_M_readGuard_38 rfl rfl ?_
  refine a_ldcS 42 d_M_readGuard_39 (by decide) rfl rfl ?_
  apply a_callV (ci := 7) 5 108 [_] _ d_M_readGuard_41 l_M_203 ⟨im_M_isWord, se_M_isWord⟩ rfl rfl rfl rfl (Nat.le_of_ble_eq_true rfl) ⟨Nat.le_of_ble_eq_true rfl, Nat.le_of_ble_eq_true rfl⟩
  · (exact mk_O)
  refine sp_M_isWord (by decide) (jG _ (by decide) (by decide)) ?_
  refine a_if_ne (tgt := 56) d_M_readGuard_44 (by decide) (fun n9 => absurd (w1) n9) (fun c_1 => ?_)
  refine a_aload_n d_M_readGuard_47 rfl rfl ?_
  refine a_ldcS 43 d_M_readGuard_48 (by decide) rfl rfl ?_
  apply a_callV (ci := 7) 5 108 [_] _ d_M_readGuard_50 l_M_203 ⟨im_M_isWord, se_M_isWord⟩ rfl rfl rfl rfl (Nat.le_of_ble_eq_true rfl) ⟨Nat.le_of_ble_eq_true rfl, Nat.le_of_ble_eq_true rfl⟩
  · (exact mk_O)
  refine sp_M_isWord (by decide) (jG _ (by decide) (by decide)) ?_
  refine a_if_eq (tgt := 60) d_M_readGuard_53 (by decide) (fun n9 => absurd n9 (w2)) (fun c_2 => ?_)
  refine a_iconst (v := 1) d_M_readGuard_56 (by decide) ?_
  refine a_goto (tgt := 61) d_M_readGuard_57 (by decide) ?_
  apply a_callV (ci := 7) 1 22 [_] _ d_M_readGuard_61 l_M_229 ⟨im_M_must, se_M_must⟩ rfl rfl rfl rfl (Nat.le_of_ble_eq_true rfl) ⟨Nat.le_of_ble_eq_true rfl, Nat.le_of_ble_eq_true rfl⟩
  · (exact mk_O)
  refine sp_M_mustT (by decide) h0 ?_
  refine a_if_ne (tgt := 68) d_M_readGuard_64 (by decide) (fun c_3 => ?_) (fun n9 => absurd n9 (by decide))
  refine a_aload_n d_M_readGuard_68 rfl rfl ?_
  refine m_get d_M_readGuard_69 f_M_88 rfl ?_
  refine a_aload_n d_M_readGuard_72 rfl rfl ?_
  refine m_get (v := .int (nI g)) d_M_readGuard_73 f_M_248 (congrArg (fun z => some (Value.int z)) hg) ?_
  refine a_aload_n d_M_readGuard_76 rfl rfl ?_
  refine a_ldcS 43 d_M_readGuard_77 (by decide) rfl rfl ?_
  apply a_callV (ci := 7) 5 108 [_] _ d_M_readGuard_79 l_M_203 ⟨im_M_isWord, se_M_isWord⟩ rfl rfl rfl rfl (Nat.le_of_ble_eq_true rfl) ⟨Nat.le_of_ble_eq_true rfl, Nat.le_of_ble_eq_true rfl⟩
  · (exact mk_O)
  refine sp_M_isWord (by decide) (jG _ (by decide) (by decide)) ?_
  refine m_zast d_M_readGuard_82 (by decide) rfl (vp_in_nI (show g < 900 by omega) (by decide)) ?_
  rw [nI_clamp (show g < 2 ^ 31 by omega)]
  rw [show vp_nar .boolean (mW x 43) = 1 from by rw [e43]; rfl]
  refine a_aload_n d_M_readGuard_83 rfl rfl ?_
  refine m_get d_M_readGuard_84 f_M_103 rfl ?_
  refine a_aload_n d_M_readGuard_87 rfl rfl ?_
  refine m_get (v := .int (nI g)) d_M_readGuard_88 f_M_248 (congrArg (fun z => some (Value.int z)) hg) ?_
  refine a_iload_n d_M_readGuard_91 rfl rfl ?_
  refine a_iconst (v := 2) d_M_readGuard_92 (by decide) ?_
  refine a_irem d_M_readGuard_93 (by decide) ?_
  rw [show (2 : Int32) = nI 2 from rfl, pk_rem (by omega) (by decide) (by decide)]
  refine a_iconst (v := 1) d_M_readGuard_94 (by decide) ?_
  refine a_icmp_ne (tgt := 102) d_M_readGuard_95 (by decide) (fun c_4 => ?_) (fun c_4 => ?_)
  · refine a_iconst (v := 0) d_M_readGuard_102 (by decide) ?_
    refine m_zast d_M_readGuard_103 (by decide) rfl (vp_in_nI (show g < 900 by omega) (by decide)) ?_
    rw [nI_clamp (show g < 2 ^ 31 by omega)]
    first | rw [show vp_nar .boolean 1 = nI (t % 2) from by rw [show t % 2 = 1 from (nI_eq (by omega) (by decide)).mp (by first | assumption | exact Decidable.not_not.mp (by assumption))]; rfl] | rw [show vp_nar .boolean 0 = nI (t % 2) from by rw [show t % 2 = 0 from by have h2 : ¬ t % 2 = 1 := (fun e => absurd (show nI (t % 2) = 1 from by rw [e]; rfl) (by assumption)); omega]; rfl]
    refine a_aload_n d_M_readGuard_104 rfl rfl ?_
    apply a_callV (ci := 7) 2 48 [] _ d_M_readGuard_105 l_M_233 ⟨im_M_next, se_M_next⟩ rfl rfl rfl rfl (Nat.le_of_ble_eq_true rfl) ⟨Nat.le_of_ble_eq_true rfl, Nat.le_of_ble_eq_true rfl⟩
    · (exact mk_O)
    refine sp_M_next (a := a) hT hA ha (fun y hy => ?_)
    exact a_lvk (hK y hy) ⟨rfl, rfl, rfl, trivial⟩
  · refine a_iconst (v := 1) d_M_readGuard_98 (by decide) ?_
    refine a_goto (tgt := 103) d_M_readGuard_99 (by decide) ?_
    refine m_zast d_M_readGuard_103 (by decide) rfl (vp_in_nI (show g < 900 by omega) (by decide)) ?_
    rw [nI_clamp (show g < 2 ^ 31 by omega)]
    first | rw [show vp_nar .boolean 1 = nI (t % 2) from by rw [show t % 2 = 1 from (nI_eq (by omega) (by decide)).mp (by first | assumption | exact Decidable.not_not.mp (by assumption))]; rfl] | rw [show vp_nar .boolean 0 = nI (t % 2) from by rw [show t % 2 = 0 from by have h2 : ¬ t % 2 = 1 := (fun e => absurd (show nI (t % 2) = 1 from by rw [e]; rfl) (by assumption)); omega]; rfl]
    refine a_aload_n d_M_readGuard_104 rfl rfl ?_
    apply a_callV (ci := 7) 2 48 [] _ d_M_readGuard_105 l_M_233 ⟨im_M_next, se_M_next⟩ rfl rfl rfl rfl (Nat.le_of_ble_eq_true rfl) ⟨Nat.le_of_ble_eq_true rfl, Nat.le_of_ble_eq_true rfl⟩
    · (exact mk_O)
    refine sp_M_next (a := a) hT hA ha (fun y hy => ?_)
    exact a_lvk (hK y hy) ⟨rfl, rfl, rfl, trivial⟩

set_option maxHeartbeats 2000000 in
theorem g_M_37 {w : Int32} (hx : LKA n f (c.1 1 0) x) (h0 : (c.1 2 0) = 0) (hs : (c.1 0 0) = 11) (hnot : ¬ ((tok n f (c.1 1 0)).1 = 3 ∧ (tok n f (c.1 1 0)).2.2.2.1 = jS 18)) (hA : AI c) (hJ : AJ n c) (hNL : (c.1 9 0) < 1250) (hM : MGd c x) (hw : w = ccF (acl c)) (hK : ∀ y, PG x y → GP n f c y → K none (mk σ0 m y)) : a_J G m_M_readGuard 7 149 37 [(0, .ref m), (1, .int w), (2, .int (nI (c.1 12 0)))] [] (mk σ0 m x) K := by
  have hle := lx_le n f hx.2.1
  have hn4 := hx.1.2.1
  have hNT := NT_lt hA
  have hJ1 := hJ.1
  unfold J1 at hJ1
  have h11 := stT_11 (tok n f (c.1 1 0)) hs
  by_cases w1 : (tok n f (c.1 1 0)).1 = 3 ∧ (tok n f (c.1 1 0)).2.2.2.1 = jS 19
  · have hd : stT (tok n f (c.1 1 0)) c = gt (tok n f (c.1 1 0)) c 13 := by rw [h11]; unfold a11; rw [if_neg hnot, if_pos w1]
    have w2 : ¬ ((tok n f (c.1 1 0)).1 = 3 ∧ (tok n f (c.1 1 0)).2.2.2.1 = jS 43) := fun z => absurd (w1.2.symm.trans z.2) (by decide +kernel)
    refine g_M_37_0 hx.1 hx.2.2.2.2.1 hle.2.2.2 hx.2.2.1 (fun z => (W_iff hx (j := 42) (by decide) (by decide)).mp z w1) ((W_iff hx (j := 43) (by decide) (by decide)).mpr w2) (by omega) hM.1 (by omega) (fun y hy => ?_)
    have hx3 : LKA n f (c.1 1 0) (sA (sA x 25 (c.1 8 0) 0) 30 (c.1 8 0) (nI ((c.1 12 0) % 2))) := hx.keep (fun _ _ _ => rfl) rfl rfl
    obtain ⟨hr, hl⟩ := step_LKA hx3 h0 (by omega) hd h0 (by show 1 ≤ 13; decide) (by show 13 ≤ 17; decide) rfl hy
    have hPGy : PG x y := (show PG x (sA (sA x 25 (c.1 8 0) 0) 30 (c.1 8 0) (nI ((c.1 12 0) % 2))) from ⟨fun _ _ _ _ _ _ _ _ => rfl, fun a ha => ⟨by show updA (updA x.2.2.1 25 _ _) 30 _ _ a = _; rw [updA_ne (by omega), updA_ne (by omega)], rfl⟩⟩).trans hy.pt.pg
    have ey := hy.pt.1
    have e50 : y.1 50 = nI (c.1 8 0) := (hy.pt.2 50 (by decide) (by decide) (by decide) (by decide) (by decide)).trans hM.1
    rcases hl with hl | ⟨hl1, hl2⟩
    · have hSM : SM c (gt (tok n f (c.1 1 0)) c 13) := ⟨fun a h1 h2 _ _ _ _ => by show xN (xN c.1 0 0 13) 1 0 _ a = c.1 a; rw [xN_ne h2, xN_ne h1], rfl⟩
      have hMG : MGd (gt (tok n f (c.1 1 0)) c 13) y := by
        refine MGd_PT (x := (sA (sA x 25 (c.1 8 0) 0) 30 (c.1 8 0) (nI ((c.1 12 0) % 2)))) (MGd_SM (c := c) ⟨hM.1, hM.2.1, fun g hg => ?_, hM.2.2.2⟩ hSM) hy.pt
        have q := hM.2.2.1 g hg
        refine ⟨?_, q.2.1, q.2.2.1, q.2.2.2.1, q.2.2.2.2.1, ?_⟩
        · show upd (x.2.2.1 25) (c.1 8 0) 0 g = _
          rw [pk_un (by omega)]; exact q.1
        · show upd (x.2.2.1 30) (c.1 8 0) (nI ((c.1 12 0) % 2)) g = _
          rw [pk_un (by omega)]; exact q.2.2.2.2.2
      refine g_M_108_0 (c := (gt (tok n f (c.1 1 0)) c 13)) hl h0 rfl (AI_Rc hA hr) (AJ_Rc hx.hf.1 hx.hf.2 hJ hr) hNL hMG ⟨?_, ?_⟩ hw (fun z hz hq => hK z (hPGy.trans hz) (hq.of hr hSM.cg rfl))
      · rw [ey]; show upd (x.2.2.1 25) (c.1 8 0) 0 (c.1 8 0) = nI 0; rw [pk_us]; rfl
      · rw [ey]; show upd (x.2.2.1 30) (c.1 8 0) (nI ((c.1 12 0) % 2)) (c.1 8 0) = _; rw [pk_us]; rfl
    · exact g_M_108B e50 (by omega) hl1.ne (hK y hPGy (Or.inr ⟨hl1, hl2⟩))
  · by_cases w2 : (tok n f (c.1 1 0)).1 = 3 ∧ (tok n f (c.1 1 0)).2.2.2.1 = jS 20
    · have hd : stT (tok n f (c.1 1 0)) c = gt (tok n f (c.1 1 0)) c 14 := by rw [h11]; unfold a11; rw [if_neg hnot, if_neg w1, if_pos w2]
      refine g_M_37_1 hx.1 hx.2.2.2.2.1 hle.2.2.2 hx.2.2.1 ((W_iff hx (j := 42) (by decide) (by decide)).mpr w1) (fun z => (W_iff hx (j := 43) (by decide) (by decide)).mp z w2) (by omega) hM.1 (by omega) (fun y hy => ?_)
      have hx3 : LKA n f (c.1 1 0) (sA (sA x 25 (c.1 8 0) 1) 30 (c.1 8 0) (nI ((c.1 12 0) % 2))) := hx.keep (fun _ _ _ => rfl) rfl rfl
      obtain ⟨hr, hl⟩ := step_LKA hx3 h0 (by omega) hd h0 (by show 1 ≤ 14; decide) (by show 14 ≤ 17; decide) rfl hy
      have hPGy : PG x y := (show PG x (sA (sA x 25 (c.1 8 0) 1) 30 (c.1 8 0) (nI ((c.1 12 0) % 2))) from ⟨fun _ _ _ _ _ _ _ _ => rfl, fun a ha => ⟨by show updA (updA x.2.2.1 25 _ _) 30 _ _ a = _; rw [updA_ne (by omega), updA_ne (by omega)], rfl⟩⟩).trans hy.pt.pg
      have ey := hy.pt.1
      have e50 : y.1 50 = nI (c.1 8 0) := (hy.pt.2 50 (by decide) (by decide) (by decide) (by decide) (by decide)).trans hM.1
      rcases hl with hl | ⟨hl1, hl2⟩
      · have hSM : SM c (gt (tok n f (c.1 1 0)) c 14) := ⟨fun a h1 h2 _ _ _ _ => by show xN (xN c.1 0 0 14) 1 0 _ a = c.1 a; rw [xN_ne h2, xN_ne h1], rfl⟩
        have hMG : MGd (gt (tok n f (c.1 1 0)) c 14) y := by
          refine MGd_PT (x := (sA (sA x 25 (c.1 8 0) 1) 30 (c.1 8 0) (nI ((c.1 12 0) % 2)))) (MGd_SM (c := c) ⟨hM.1, hM.2.1, fun g hg => ?_, hM.2.2.2⟩ hSM) hy.pt
          have q := hM.2.2.1 g hg
          refine ⟨?_, q.2.1, q.2.2.1, q.2.2.2.1, q.2.2.2.2.1, ?_⟩
          · show upd (x.2.2.1 25) (c.1 8 0) 1 g = _
            rw [pk_un (by omega)]; exact q.1
          · show upd (x.2.2.1 30) (c.1 8 0) (nI ((c.1 12 0) % 2)) g = _
            rw [pk_un (by omega)]; exact q.2.2.2.2.2
        refine g_M_108_1 (c := (gt (tok n f (c.1 1 0)) c 14)) hl h0 rfl (AI_Rc hA hr) (AJ_Rc hx.hf.1 hx.hf.2 hJ hr) hNL hMG ⟨?_, ?_⟩ hw (fun z hz hq => hK z (hPGy.trans hz) (hq.of hr hSM.cg rfl))
        · rw [ey]; show upd (x.2.2.1 25) (c.1 8 0) 1 (c.1 8 0) = nI 1; rw [pk_us]; rfl
        · rw [ey]; show upd (x.2.2.1 30) (c.1 8 0) (nI ((c.1 12 0) % 2)) (c.1 8 0) = _; rw [pk_us]; rfl
      · exact g_M_108B e50 (by omega) hl1.ne (hK y hPGy (Or.inr ⟨hl1, hl2⟩))
    · have hd : stT (tok n f (c.1 1 0)) c = wr (tok n f (c.1 1 0)) c := by rw [h11]; unfold a11; rw [if_neg hnot, if_neg w1, if_neg w2]
      exact g_M_37F ((W_iff hx (j := 42) (by decide) (by decide)).mpr w1) ((W_iff hx (j := 43) (by decide) (by decide)).mpr w2) (hK _ (PT.mu x).pg (Or.inr ⟨BAD_must hx h0 (by omega) hd, (PT.mu x).mx hx.1⟩))
set_option maxHeartbeats 1000000 in
set_option maxRecDepth 100000 in
theorem g_M_6T {w : Int32} {t a : Nat} (hT : MX x n f) (hA : x.1 19 = nI a) (ha : a ≤ n) (h0 : x.1 24 = 0) (w1 : ¬ mW x 44 = 0) (hK : ∀ y, NX n f a x y → a_J G m_M_readGuard 7 149 29 [(0, .ref m), (1, .int w), (2, .int (nI (t + 1)))] [] (mk σ0 m y) K) : a_J G m_M_readGuard 7 149 6 [(0, .ref m), (1, .int w), (2, .int (nI t))] [] (mk σ0 m x) K := by
  refine a_aload_n d_M_readGuard_6 rfl rfl ?_
  refine m_get d_M_readGuard_7 f_M_126 rfl ?_
  refine a_if_ne (tgt := 37) d_M_readGuard_10 (by decide) (fun n9 => absurd (h0) n9) (fun c_1 => ?_)
  refine a_aload_n d_M_readGuard_13 rfl rfl ?_
  refine a_ldcS 44 d_M_readGuard_14 (by decide) rfl rfl ?_
  apply a_callV (ci := 7) 5 108 [_] _ d_M_readGuard_16 l_M_203 ⟨im_M_isWord, se_M_isWord⟩ rfl rfl rfl rfl (Nat.le_of_ble_eq_true rfl) ⟨Nat.le_of_ble_eq_true rfl, Nat.le_of_ble_eq_true rfl⟩
  · (exact mk_O)
  refine sp_M_isWord (by decide) (jG _ (by decide) (by decide)) ?_
  refine a_if_eq (tgt := 37) d_M_readGuard_19 (by decide) (fun n9 => absurd n9 (w1)) (fun c_2 => ?_)
  refine a_iinc (c0 := 1) d_M_readGuard_22 rfl (by decide) (by decide) ?_
  refine a_aload_n d_M_readGuard_25 rfl rfl ?_
  apply a_callV (ci := 7) 2 48 [] _ d_M_readGuard_26 l_M_233 ⟨im_M_next, se_M_next⟩ rfl rfl rfl rfl (Nat.le_of_ble_eq_true rfl) ⟨Nat.le_of_ble_eq_true rfl, Nat.le_of_ble_eq_true rfl⟩
  · (exact mk_O)
  refine sp_M_next (a := a) hT hA ha (fun y hy => ?_)
  rw [nI_1]
  exact a_lvk (hK y hy) ⟨rfl, rfl, rfl, trivial⟩

set_option maxHeartbeats 1000000 in
set_option maxRecDepth 100000 in
theorem g_M_6N {w : Int32} {t : Nat} (h0 : x.1 24 = 0) (w1 : mW x 44 = 0) (hK : a_J G m_M_readGuard 7 149 37 [(0, .ref m), (1, .int w), (2, .int (nI t))] [] (mk σ0 m x) K) : a_J G m_M_readGuard 7 149 6 [(0, .ref m), (1, .int w), (2, .int (nI t))] [] (mk σ0 m x) K := by
  refine a_aload_n d_M_readGuard_6 rfl rfl ?_
  refine m_get d_M_readGuard_7 f_M_126 rfl ?_
  refine a_if_ne (tgt := 37) d_M_readGuard_10 (by decide) (fun n9 => absurd (h0) n9) (fun c_1 => ?_)
  refine a_aload_n d_M_readGuard_13 rfl rfl ?_
  refine a_ldcS 44 d_M_readGuard_14 (by decide) rfl rfl ?_
  apply a_callV (ci := 7) 5 108 [_] _ d_M_readGuard_16 l_M_203 ⟨im_M_isWord, se_M_isWord⟩ rfl rfl rfl rfl (Nat.le_of_ble_eq_true rfl) ⟨Nat.le_of_ble_eq_true rfl, Nat.le_of_ble_eq_true rfl⟩
  · (exact mk_O)
  refine sp_M_isWord (by decide) (jG _ (by decide) (by decide)) ?_
  refine a_if_eq (tgt := 37) d_M_readGuard_19 (by decide) (fun c_2 => ?_) (fun n9 => absurd (w1) n9)
  exact a_lvk hK ⟨rfl, rfl, rfl, trivial⟩

set_option maxHeartbeats 1000000 in
set_option maxRecDepth 100000 in
theorem g_M_29T {w : Int32} {t : Nat} (hT : MX x n f) {a : Nat} (hA : x.1 19 = nI a) (ha : a ≤ n) (h0 : x.1 24 = 0) (ht : x.1 20 = 0) (hK : ∀ y, NX n f a x y → a_J G m_M_readGuard 7 149 6 [(0, .ref m), (1, .int w), (2, .int (nI t))] [] (mk σ0 m y) K) : a_J G m_M_readGuard 7 149 29 [(0, .ref m), (1, .int w), (2, .int (nI t))] [] (mk σ0 m x) K := by
  refine a_aload_n d_M_readGuard_29 rfl rfl ?_
  refine a_iconst (v := 0) d_M_readGuard_30 (by decide) ?_
  apply a_callV (ci := 7) 3 70 [_] _ d_M_readGuard_31 l_M_279 ⟨im_M_expect, se_M_expect⟩ rfl rfl rfl rfl (Nat.le_of_ble_eq_true rfl) ⟨Nat.le_of_ble_eq_true rfl, Nat.le_of_ble_eq_true rfl⟩
  · (exact mk_O)
  refine sp_M_expectT hT hA ha h0 ht (fun y hy => ?_)
  refine a_goto (tgt := 6) d_M_readGuard_34 (by decide) ?_
  exact a_lvk (hK y hy) ⟨rfl, rfl, rfl, trivial⟩

set_option maxHeartbeats 1000000 in
set_option maxRecDepth 100000 in
theorem g_M_29F {w : Int32} {t : Nat} (ht : ¬ x.1 20 = 0) (hK : a_J G m_M_readGuard 7 149 6 [(0, .ref m), (1, .int w), (2, .int (nI t))] [] (mk σ0 m (muX x 0)) K) : a_J G m_M_readGuard 7 149 29 [(0, .ref m), (1, .int w), (2, .int (nI t))] [] (mk σ0 m x) K := by
  refine a_aload_n d_M_readGuard_29 rfl rfl ?_
  refine a_iconst (v := 0) d_M_readGuard_30 (by decide) ?_
  apply a_callV (ci := 7) 3 70 [_] _ d_M_readGuard_31 l_M_279 ⟨im_M_expect, se_M_expect⟩ rfl rfl rfl rfl (Nat.le_of_ble_eq_true rfl) ⟨Nat.le_of_ble_eq_true rfl, Nat.le_of_ble_eq_true rfl⟩
  · (exact mk_O)
  refine sp_M_expectF ht ?_
  refine a_goto (tgt := 6) d_M_readGuard_34 (by decide) ?_
  exact a_lvk (hK) ⟨rfl, rfl, rfl, trivial⟩

set_option maxHeartbeats 1000000 in
set_option maxRecDepth 100000 in
theorem g_M_29B {w : Int32} {t : Nat} (h0 : ¬ x.1 24 = 0) (hK : a_J G m_M_readGuard 7 149 6 [(0, .ref m), (1, .int w), (2, .int (nI t))] [] (mk σ0 m x) K) : a_J G m_M_readGuard 7 149 29 [(0, .ref m), (1, .int w), (2, .int (nI t))] [] (mk σ0 m x) K := by
  refine a_aload_n d_M_readGuard_29 rfl rfl ?_
  refine a_iconst (v := 0) d_M_readGuard_30 (by decide) ?_
  apply a_callV (ci := 7) 3 70 [_] _ d_M_readGuard_31 l_M_279 ⟨im_M_expect, se_M_expect⟩ rfl rfl rfl rfl (Nat.le_of_ble_eq_true rfl) ⟨Nat.le_of_ble_eq_true rfl, Nat.le_of_ble_eq_true rfl⟩
  · (exact mk_O)
  refine sp_M_expectB h0 ?_
  refine a_goto (tgt := 6) d_M_readGuard_34 (by decide) ?_
  exact a_lvk (hK) ⟨rfl, rfl, rfl, trivial⟩

set_option maxHeartbeats 2000000 in
theorem lp_M_not {w : Int32} : ∀ (k : Nat) (c : aN) {x : aX}, LKA n f (c.1 1 0) x → (c.1 2 0) = 0 → (c.1 0 0) = 11 → n < (c.1 1 0) + k → AI c → AJ n c → (c.1 9 0) < 1250 → MGd c x → w = ccF (acl c) → (∀ y, PG x y → GP n f c y → K none (mk σ0 m y)) → a_J G m_M_readGuard 7 149 6 [(0, .ref m), (1, .int w), (2, .int (nI (c.1 12 0)))] [] (mk σ0 m x) K
  | 0, c, x, hx, _, _, hk, _, _, _, _, _, _ => absurd hx.2.1 (by omega)
  | k + 1, c, x, hx, h0, hs, hk, hA, hJ, hNL, hM, hw, hK => by
    have hle := lx_le n f hx.2.1
    have h11 := stT_11 (tok n f (c.1 1 0)) hs
    by_cases w1 : (tok n f (c.1 1 0)).1 = 3 ∧ (tok n f (c.1 1 0)).2.2.2.1 = jS 18
    · have hd : stT (tok n f (c.1 1 0)) c = (gt (tok n f (c.1 1 0)) ((xN c.1 12 (0) ((c.1 12 0) + 1)), c.2.1, c.2.2) 12) := by rw [h11]; unfold a11; rw [if_pos w1]
      refine g_M_6T hx.1 hx.2.2.2.2.1 hle.2.2.2 hx.2.2.1 (fun z => (W_iff hx (j := 44) (by decide) (by decide)).mp z w1) (fun y hy => ?_)
      obtain ⟨hr, hl⟩ := step_LKA hx h0 (by omega) hd h0 (by show 1 ≤ 12; decide) (by show 12 ≤ 17; decide) rfl hy
      rcases hl with hl | ⟨hl1, hl2⟩
      · have hSM : SM c (gt (tok n f (c.1 1 0)) ((xN c.1 12 (0) ((c.1 12 0) + 1)), c.2.1, c.2.2) 12) := ⟨fun a h1 h2 _ h4 _ _ => by show xN (xN (xN c.1 12 0 ((c.1 12 0) + 1)) 0 0 12) 1 0 _ a = c.1 a; rw [xN_ne h2, xN_ne h1, xN_ne h4], rfl⟩
        have hAT : (c.1 1 0) < (lxE n f (c.1 1 0)) := lx_0 hx.2.1 (by rw [show lxK n f (c.1 1 0) = 3 from w1.1]; decide)
        obtain ⟨d, ed⟩ : ∃ d, d = (gt (tok n f (c.1 1 0)) ((xN c.1 12 (0) ((c.1 12 0) + 1)), c.2.1, c.2.2) 12) := ⟨_, rfl⟩
        have hd1 : d.1 1 0 = lxE n f (c.1 1 0) ∧ d.1 12 0 = (c.1 12 0) + 1 ∧ d.1 0 0 = 12 ∧ d.1 2 0 = 0 ∧ d.1 9 0 = (c.1 9 0) ∧ acl d = acl c := by rw [ed]; exact ⟨rfl, rfl, rfl, h0, rfl, rfl⟩
        rw [← ed] at hl hr hSM
        have hle2 := lx_le n f hl.2.1
        have h12 := stT_12 (tok n f (d.1 1 0)) hd1.2.2.1
        by_cases k1 : lxK n f (d.1 1 0) = 1
        · have hd2 : stT (tok n f (d.1 1 0)) d = gt (tok n f (d.1 1 0)) d 11 := by rw [h12]; unfold a12; rw [if_pos (show (tok n f (d.1 1 0)).1 = 1 from k1)]
          refine g_M_29T hl.1 hl.2.2.2.2.1 hle2.2.2.2 hl.2.2.1 ((tk_0 hl).mpr k1) (fun z hz => ?_)
          obtain ⟨hr2, hl2⟩ := step_LKA hl hd1.2.2.2.1 (by omega) hd2 hd1.2.2.2.1 (by show 1 ≤ 11; decide) (by show 11 ≤ 17; decide) rfl hz
          have hSM2 : SM d (gt (tok n f (d.1 1 0)) d 11) := ⟨fun a h1 h2 _ _ _ _ => by show xN (xN d.1 0 0 11) 1 0 _ a = d.1 a; rw [xN_ne h2, xN_ne h1], rfl⟩
          have hAT2 : d.1 1 0 < lxE n f (d.1 1 0) := lx_0 hl.2.1 (by rw [k1]; decide)
          rcases hl2 with hl2 | ⟨hl3, hl4⟩
          · have hrr := hr.trans hr2
            have := lp_M_not (w := w) k (gt (tok n f (d.1 1 0)) d 11) hl2 hd1.2.2.2.1 rfl (by show n < lxE n f (d.1 1 0) + k; omega) (AI_Rc hA hrr) (AJ_Rc hx.hf.1 hx.hf.2 hJ hrr) (by show d.1 9 0 < 1250; omega) (MGd_PT (MGd_SM (MGd_SM hM hSM) hSM2) (hy.pt.trans hz.pt)) (by rw [hw, ← hd1.2.2.2.2.2]; rfl) (fun z2 hz2 hq => hK z2 ((hy.pt.pg.trans hz.pt.pg).trans hz2) (hq.of hrr (hSM.cg.trans hSM2.cg) (by show d.1 8 0 = (c.1 8 0); rw [hSM.1 8 (by omega) (by omega) (by omega) (by omega) (by omega) (by omega)])))
            rw [show (gt (tok n f (d.1 1 0)) d 11).1 12 0 = (c.1 12 0) + 1 from hd1.2.1] at this
            exact this
          · exact g_M_6B hl3.ne (hK z (hy.pt.trans hz.pt).pg (Or.inr ⟨hl3.of hr, hl4⟩))
        · have hd2 : stT (tok n f (d.1 1 0)) d = wr (tok n f (d.1 1 0)) d := by rw [h12]; unfold a12; rw [if_neg (show ¬ (tok n f (d.1 1 0)).1 = 1 from k1)]
          refine g_M_29F (fun z => k1 ((tk_0 hl).mp z)) ?_
          exact g_M_6B (mu_ne y) (hK _ (hy.pt.trans (PT.mu y)).pg (Or.inr ⟨(BAD_must hl hd1.2.2.2.1 (by omega) hd2).of hr, (PT.mu y).mx hl.1⟩))
      · exact g_M_29B hl1.ne (g_M_6B hl1.ne (hK y hy.pt.pg (Or.inr ⟨hl1, hl2⟩)))
    · exact g_M_6N hx.2.2.1 ((W_iff hx (j := 44) (by decide) (by decide)).mpr w1) (g_M_37 hx h0 hs w1 hA hJ hNL hM hw hK)
set_option maxHeartbeats 1000000 in
set_option maxRecDepth 100000 in
theorem g_M_0 {w : Int32} {a : Nat} (hT : MX x n f) (hA : x.1 19 = nI a) (ha : a ≤ n) (hK : ∀ y, NX n f a x y → a_J G m_M_readGuard 7 149 6 [(0, .ref m), (1, .int w), (2, .int (nI 0))] [] (mk σ0 m y) K) : a_C G m_M_readGuard 7 149 [.ref m, .int w] (mk σ0 m x) K := by
  refine a_enter rfl (Nat.le_of_ble_eq_true rfl) ?_
  refine a_iconst (v := 0) d_M_readGuard_0 (by decide) ?_
  refine a_istore_n d_M_readGuard_1 rfl (by decide) ?_
  refine a_aload_n d_M_readGuard_2 rfl rfl ?_
  apply a_callV (ci := 7) 2 48 [] _ d_M_readGuard_3 l_M_233 ⟨im_M_next, se_M_next⟩ rfl rfl rfl rfl (Nat.le_of_ble_eq_true rfl) ⟨Nat.le_of_ble_eq_true rfl, Nat.le_of_ble_eq_true rfl⟩
  · (exact mk_O)
  refine sp_M_next (a := a) hT hA ha (fun y hy => ?_)
  exact a_lvk (hK y hy) ⟨rfl, rfl, rfl, trivial⟩

/-- readGuard: from the parenthesis that opens a test to what stands behind it -/
theorem sp_M_readGuard {w : Int32} (hx : LKA n f (c.1 1 0) x) (h0 : (c.1 2 0) = 0) (hs : (c.1 0 0) = 9) (ho : lxK n f (c.1 1 0) = 1) (h4 : acm c < 4) (hA : AI c) (hJ : AJ n c) (hNL : (c.1 9 0) < 1250) (hM : MGd c x) (hw : w = ccF (acl c)) (hK : ∀ y, PG x y → GP n f c y → K none (mk σ0 m y)) : a_C G m_M_readGuard 7 149 [.ref m, .int w] (mk σ0 m x) K := by
  have hle := lx_le n f hx.2.1
  have hd : stT (tok n f (c.1 1 0)) c = (gt (tok n f (c.1 1 0)) ((xN c.1 12 (0) (0)), c.2.1, c.2.2) 11) := by rw [stT_9 (tok n f (c.1 1 0)) hs]; unfold a9; rw [if_pos ⟨show (tok n f (c.1 1 0)).1 = 1 from ho, h4⟩]
  refine g_M_0 hx.1 hx.2.2.2.2.1 hle.2.2.2 (fun y hy => ?_)
  obtain ⟨hr, hl⟩ := step_LKA hx h0 (by omega) hd h0 (by show 1 ≤ 11; decide) (by show 11 ≤ 17; decide) rfl hy
  rcases hl with hl | ⟨hl1, hl2⟩
  · have hSM : SM c (gt (tok n f (c.1 1 0)) ((xN c.1 12 (0) (0)), c.2.1, c.2.2) 11) := ⟨fun a h1 h2 _ h4 _ _ => by show xN (xN (xN c.1 12 0 0) 0 0 11) 1 0 _ a = c.1 a; rw [xN_ne h2, xN_ne h1, xN_ne h4], rfl⟩
    exact lp_M_not (w := w) (n + 1) (gt (tok n f (c.1 1 0)) ((xN c.1 12 (0) (0)), c.2.1, c.2.2) 11) hl h0 rfl (by omega) (AI_Rc hA hr) (AJ_Rc hx.hf.1 hx.hf.2 hJ hr) hNL (MGd_PT (MGd_SM hM hSM) hy.pt) hw (fun z hz hq => hK z (hy.pt.pg.trans hz) (hq.of hr hSM.cg rfl))
  · exact g_M_6B hl1.ne (hK y hy.pt.pg (Or.inr ⟨hl1, hl2⟩))
end ModM12
