/-! THE MODEL's readPolicy -/
def pAT (t : aK) (c d : aN) : Prop := d.1 1 0 = c.1 1 0 ∨ d.1 1 0 = t.2.2.1
theorem pAT_if {t : aK} {c a b : aN} {p : Prop} [Decidable p] (h1 : pAT t c a) (h2 : pAT t c b) : pAT t c (if p then a else b) := by
  split
  · exact h1
  · exact h2
theorem stT_AT (t : aK) (c : aN) : (stT t c).1 1 0 = c.1 1 0 ∨ (stT t c).1 1 0 = t.2.2.1 := by
  show pAT t c (stT t c)
  unfold stT a1 a2 a3 a4 a5 a6 a7 a8 a9 a10 a11 a12 a13 a14 a15 a16 a17
  repeat' apply pAT_if
  all_goals first | exact Or.inl rfl | exact Or.inr rfl
theorem stp_AT {n : Nat} {f : Nat → Nat} {c : aN} (h : (c.1 1 0) ≤ n) : (c.1 1 0) ≤ (stp n f c).1 1 0 ∧ (stp n f c).1 1 0 ≤ n := by
  unfold stp
  split
  · have hle := lx_le n f h
    rcases stT_AT (tok n f (c.1 1 0)) c with e | e <;> rw [e]
    · exact ⟨Nat.le_refl _, h⟩
    · exact ⟨Nat.le_trans hle.1 hle.2.2.1, hle.2.2.2⟩
  · exact ⟨Nat.le_refl _, h⟩
theorem aRc_AT {n : Nat} {f : Nat → Nat} : ∀ (k : Nat) {c : aN}, (c.1 1 0) ≤ n → (c.1 1 0) ≤ (ait n f k c).1 1 0 ∧ (ait n f k c).1 1 0 ≤ n
  | 0, c, h => ⟨Nat.le_refl _, h⟩
  | k + 1, c, h => by
    have a := stp_AT (f := f) h
    have b := aRc_AT (f := f) k (c := stp n f c) a.2
    exact ⟨Nat.le_trans a.1 b.1, b.2⟩
theorem lx_E0 {n : Nat} {f : Nat → Nat} {a : Nat} (ha : a ≤ n) (h : lxK n f a = 0) : lxP n f a = n := by
  have hle := lx_le n f ha
  unfold lxK at h
  split at h
  · omega
  · exfalso
    split at h
    · split at h
      · cases h
      · split at h <;> cases h
    · unfold wkF at h
      have hk := fun p e => nk_cases f p e
      split at h
      · rcases hk (lxP n f a) (wen f (n - lxP n f a) (lxP n f a)) with e | ⟨e, -⟩ <;> rw [e] at h <;> cases h
      · split at h
        · rcases hk (lxP n f a) (wen f (n - lxP n f a) (lxP n f a)) with e | ⟨e, -⟩ <;> rw [e] at h <;> cases h
        · cases h
theorem wrX_B {x : aX} (h : ¬ x.1 24 = 0) (a b : Int32) : wrX x a b = x := by unfold wrX; rw [if_neg h]
/-- what a policy leaves -/
def PO2 (n : Nat) (f : Nat → Nat) (c : aN) (z : aX) : Prop := ∃ d, aRc n f c d ∧ aStop d ∧ LPo (aEnd d) z
theorem PO2.of {n : Nat} {f : Nat → Nat} {c d : aN} {z : aX} (h : PO2 n f d z) (g : aRc n f c d) : PO2 n f c z := by
  obtain ⟨e, h1, h2⟩ := h
  exact ⟨e, g.trans h1, h2⟩
theorem BAD.po {n : Nat} {f : Nat → Nat} {c : aN} {z : aX} (h : BAD n f c z) : PO2 n f c z := by
  obtain ⟨d, h1, h2, h3, h4, h5⟩ := h
  refine ⟨d, h1, Or.inl h2, ?_⟩
  unfold aEnd
  rw [if_neg h2]
  exact Or.inr ⟨h2, h4, h5⟩
section ModM22
variable {G : aG} {σ0 : aS} {K : Option Value → aS → Prop} {m n : Nat} {f : Nat → Nat} {x : aX} {c : aN}
set_option maxHeartbeats 1000000 in
set_option maxRecDepth 100000 in
theorem p_M_138B (h0 : ¬ x.1 24 = 0) (hK : K none (mk σ0 m x)) : a_J G m_M_readPolicy 10 217 138 [(0, .ref m)] [] (mk σ0 m x) K := by
  refine a_aload_n d_M_readPolicy_138 rfl rfl ?_
  refine a_aload_n d_M_readPolicy_139 rfl rfl ?_
  refine m_get d_M_readPolicy_140 f_M_149 rfl ?_
  refine a_iconst (v := 4) d_M_readPolicy_143 (by decide) ?_
  refine a_icmp_ne (tgt := 151) d_M_readPolicy_144 (by decide) (fun c_1 => ?_) (fun c_1 => ?_)
  · refine a_iconst (v := 0) d_M_readPolicy_151 (by decide) ?_
    apply a_callV (ci := 7) 1 22 [_] _ d_M_readPolicy_152 l_M_229 ⟨im_M_must, se_M_must⟩ rfl rfl rfl rfl (Nat.le_of_ble_eq_true rfl) ⟨Nat.le_of_ble_eq_true rfl, Nat.le_of_ble_eq_true rfl⟩
    · (exact mk_O)
    refine sp_M_mustB h0 ?_
    refine a_istore_n d_M_readPolicy_155 rfl (by decide) ?_
    refine a_aload_n d_M_readPolicy_156 rfl rfl ?_
    refine m_get d_M_readPolicy_157 f_M_242 rfl ?_
    refine a_if_ne (tgt := 172) d_M_readPolicy_160 (by decide) (fun c_2 => ?_) (fun c_2 => ?_)
    · refine a_aload_n d_M_readPolicy_172 rfl rfl ?_
      apply a_callV (ci := 7) 1 22 [] _ d_M_readPolicy_173 l_M_260 ⟨im_M_resolve, se_M_resolve⟩ rfl rfl rfl rfl (Nat.le_of_ble_eq_true rfl) ⟨Nat.le_of_ble_eq_true rfl, Nat.le_of_ble_eq_true rfl⟩
      · (exact mk_O)
      refine sp_M_resolveB h0 ?_
      exact a_return d_M_readPolicy_176 rfl hK
    · refine a_aload_n d_M_readPolicy_163 rfl rfl ?_
      refine a_iconst (v := 4) d_M_readPolicy_164 (by decide) ?_
      refine a_aload_n d_M_readPolicy_165 rfl rfl ?_
      refine m_get d_M_readPolicy_166 f_M_109 rfl ?_
      apply a_callV (ci := 7) 0 0 [_, _] _ d_M_readPolicy_169 l_M_155 ⟨im_M_wrong, se_M_wrong⟩ rfl rfl rfl rfl (Nat.le_of_ble_eq_true rfl) ⟨Nat.le_of_ble_eq_true rfl, Nat.le_of_ble_eq_true rfl⟩
      · (exact mk_O)
      refine sp_M_wrong ?_
      rw [wrX_B h0]
      refine a_aload_n d_M_readPolicy_172 rfl rfl ?_
      apply a_callV (ci := 7) 1 22 [] _ d_M_readPolicy_173 l_M_260 ⟨im_M_resolve, se_M_resolve⟩ rfl rfl rfl rfl (Nat.le_of_ble_eq_true rfl) ⟨Nat.le_of_ble_eq_true rfl, Nat.le_of_ble_eq_true rfl⟩
      · (exact mk_O)
      refine sp_M_resolveB h0 ?_
      exact a_return d_M_readPolicy_176 rfl hK
  · refine a_iconst (v := 1) d_M_readPolicy_147 (by decide) ?_
    refine a_goto (tgt := 152) d_M_readPolicy_148 (by decide) ?_
    apply a_callV (ci := 7) 1 22 [_] _ d_M_readPolicy_152 l_M_229 ⟨im_M_must, se_M_must⟩ rfl rfl rfl rfl (Nat.le_of_ble_eq_true rfl) ⟨Nat.le_of_ble_eq_true rfl, Nat.le_of_ble_eq_true rfl⟩
    · (exact mk_O)
    refine sp_M_mustB h0 ?_
    refine a_istore_n d_M_readPolicy_155 rfl (by decide) ?_
    refine a_aload_n d_M_readPolicy_156 rfl rfl ?_
    refine m_get d_M_readPolicy_157 f_M_242 rfl ?_
    refine a_if_ne (tgt := 172) d_M_readPolicy_160 (by decide) (fun c_3 => ?_) (fun c_3 => ?_)
    · refine a_aload_n d_M_readPolicy_172 rfl rfl ?_
      apply a_callV (ci := 7) 1 22 [] _ d_M_readPolicy_173 l_M_260 ⟨im_M_resolve, se_M_resolve⟩ rfl rfl rfl rfl (Nat.le_of_ble_eq_true rfl) ⟨Nat.le_of_ble_eq_true rfl, Nat.le_of_ble_eq_true rfl⟩
      · (exact mk_O)
      refine sp_M_resolveB h0 ?_
      exact a_return d_M_readPolicy_176 rfl hK
    · refine a_aload_n d_M_readPolicy_163 rfl rfl ?_
      refine a_iconst (v := 4) d_M_readPolicy_164 (by decide) ?_
      refine a_aload_n d_M_readPolicy_165 rfl rfl ?_
      refine m_get d_M_readPolicy_166 f_M_109 rfl ?_
      apply a_callV (ci := 7) 0 0 [_, _] _ d_M_readPolicy_169 l_M_155 ⟨im_M_wrong, se_M_wrong⟩ rfl rfl rfl rfl (Nat.le_of_ble_eq_true rfl) ⟨Nat.le_of_ble_eq_true rfl, Nat.le_of_ble_eq_true rfl⟩
      · (exact mk_O)
      refine sp_M_wrong ?_
      rw [wrX_B h0]
      refine a_aload_n d_M_readPolicy_172 rfl rfl ?_
      apply a_callV (ci := 7) 1 22 [] _ d_M_readPolicy_173 l_M_260 ⟨im_M_resolve, se_M_resolve⟩ rfl rfl rfl rfl (Nat.le_of_ble_eq_true rfl) ⟨Nat.le_of_ble_eq_true rfl, Nat.le_of_ble_eq_true rfl⟩
      · (exact mk_O)
      refine sp_M_resolveB h0 ?_
      exact a_return d_M_readPolicy_176 rfl hK

set_option maxHeartbeats 1000000 in
set_option maxRecDepth 100000 in
theorem p_M_49B (h0 : ¬ x.1 24 = 0) (hK : a_J G m_M_readPolicy 10 217 138 [(0, .ref m)] [] (mk σ0 m x) K) : a_J G m_M_readPolicy 10 217 49 [(0, .ref m)] [] (mk σ0 m x) K := by
  refine a_aload_n d_M_readPolicy_49 rfl rfl ?_
  refine m_get d_M_readPolicy_50 f_M_126 rfl ?_
  refine a_if_ne (tgt := 138) d_M_readPolicy_53 (by decide) (fun c_1 => ?_) (fun n9 => absurd n9 (h0))
  exact a_lvk hK ⟨rfl, trivial⟩

set_option maxHeartbeats 1000000 in
set_option maxRecDepth 100000 in
theorem p_M_138E0 (h0 : x.1 24 = 0) (ht : x.1 20 = 4) (hN : x.1 36 = 0) (hK : K none (mk σ0 m (wrX x 4 (x.1 18)))) : a_J G m_M_readPolicy 10 217 138 [(0, .ref m)] [] (mk σ0 m x) K := by
  refine a_aload_n d_M_readPolicy_138 rfl rfl ?_
  refine a_aload_n d_M_readPolicy_139 rfl rfl ?_
  refine m_get d_M_readPolicy_140 f_M_149 rfl ?_
  refine a_iconst (v := 4) d_M_readPolicy_143 (by decide) ?_
  refine a_icmp_ne (tgt := 151) d_M_readPolicy_144 (by decide) (fun n9 => absurd (ht) n9) (fun c_1 => ?_)
  refine a_iconst (v := 1) d_M_readPolicy_147 (by decide) ?_
  refine a_goto (tgt := 152) d_M_readPolicy_148 (by decide) ?_
  apply a_callV (ci := 7) 1 22 [_] _ d_M_readPolicy_152 l_M_229 ⟨im_M_must, se_M_must⟩ rfl rfl rfl rfl (Nat.le_of_ble_eq_true rfl) ⟨Nat.le_of_ble_eq_true rfl, Nat.le_of_ble_eq_true rfl⟩
  · (exact mk_O)
  refine sp_M_mustT (by decide) h0 ?_
  refine a_istore_n d_M_readPolicy_155 rfl (by decide) ?_
  refine a_aload_n d_M_readPolicy_156 rfl rfl ?_
  refine m_get d_M_readPolicy_157 f_M_242 rfl ?_
  refine a_if_ne (tgt := 172) d_M_readPolicy_160 (by decide) (fun n9 => absurd (hN) n9) (fun c_2 => ?_)
  refine a_aload_n d_M_readPolicy_163 rfl rfl ?_
  refine a_iconst (v := 4) d_M_readPolicy_164 (by decide) ?_
  refine a_aload_n d_M_readPolicy_165 rfl rfl ?_
  refine m_get d_M_readPolicy_166 f_M_109 rfl ?_
  apply a_callV (ci := 7) 0 0 [_, _] _ d_M_readPolicy_169 l_M_155 ⟨im_M_wrong, se_M_wrong⟩ rfl rfl rfl rfl (Nat.le_of_ble_eq_true rfl) ⟨Nat.le_of_ble_eq_true rfl, Nat.le_of_ble_eq_true rfl⟩
  · (exact mk_O)
  refine sp_M_wrong ?_
  refine a_aload_n d_M_readPolicy_172 rfl rfl ?_
  apply a_callV (ci := 7) 1 22 [] _ d_M_readPolicy_173 l_M_260 ⟨im_M_resolve, se_M_resolve⟩ rfl rfl rfl rfl (Nat.le_of_ble_eq_true rfl) ⟨Nat.le_of_ble_eq_true rfl, Nat.le_of_ble_eq_true rfl⟩
  · (exact mk_O)
  refine sp_M_resolveB (by rw [(wrX_0 h0 _ _).1]; decide) ?_
  exact a_return d_M_readPolicy_176 rfl hK

set_option maxHeartbeats 1000000 in
set_option maxRecDepth 100000 in
theorem p_M_138E1 (h0 : x.1 24 = 0) (ht : x.1 20 = 4) (hN : ¬ x.1 36 = 0) (hA : AI c) (hJ : AJ n c) (hE2 : E2 c) (hE3 : E3c c 0) (hU : AU c) (hNL : c.1 9 0 < 1250) (hf0 : c.1 2 0 = 0) (hM : ML c x 0) (hK : ∀ z, PP x z → LPo (lnkF (c.1 9 0) 0 c) z → K none (mk σ0 m z)) : a_J G m_M_readPolicy 10 217 138 [(0, .ref m)] [] (mk σ0 m x) K := by
  refine a_aload_n d_M_readPolicy_138 rfl rfl ?_
  refine a_aload_n d_M_readPolicy_139 rfl rfl ?_
  refine m_get d_M_readPolicy_140 f_M_149 rfl ?_
  refine a_iconst (v := 4) d_M_readPolicy_143 (by decide) ?_
  refine a_icmp_ne (tgt := 151) d_M_readPolicy_144 (by decide) (fun n9 => absurd (ht) n9) (fun c_1 => ?_)
  refine a_iconst (v := 1) d_M_readPolicy_147 (by decide) ?_
  refine a_goto (tgt := 152) d_M_readPolicy_148 (by decide) ?_
  apply a_callV (ci := 7) 1 22 [_] _ d_M_readPolicy_152 l_M_229 ⟨im_M_must, se_M_must⟩ rfl rfl rfl rfl (Nat.le_of_ble_eq_true rfl) ⟨Nat.le_of_ble_eq_true rfl, Nat.le_of_ble_eq_true rfl⟩
  · (exact mk_O)
  refine sp_M_mustT (by decide) h0 ?_
  refine a_istore_n d_M_readPolicy_155 rfl (by decide) ?_
  refine a_aload_n d_M_readPolicy_156 rfl rfl ?_
  refine m_get d_M_readPolicy_157 f_M_242 rfl ?_
  refine a_if_ne (tgt := 172) d_M_readPolicy_160 (by decide) (fun c_2 => ?_) (fun n9 => absurd n9 (hN))
  refine a_aload_n d_M_readPolicy_172 rfl rfl ?_
  apply a_callV (ci := 7) 1 22 [] _ d_M_readPolicy_173 l_M_260 ⟨im_M_resolve, se_M_resolve⟩ rfl rfl rfl rfl (Nat.le_of_ble_eq_true rfl) ⟨Nat.le_of_ble_eq_true rfl, Nat.le_of_ble_eq_true rfl⟩
  · (exact mk_O)
  refine sp_M_resolve (c0 := c) hA hJ hE2 hE3 hU hNL hf0 hM (fun z hz hq => ?_)
  exact a_return d_M_readPolicy_176 rfl (hK z hz hq)

set_option maxHeartbeats 1000000 in
set_option maxRecDepth 100000 in
theorem p_M_138F (h0 : ¬ (muX x 0).1 24 = 0) (ht : ¬ x.1 20 = 4) (hK : K none (mk σ0 m (muX x 0))) : a_J G m_M_readPolicy 10 217 138 [(0, .ref m)] [] (mk σ0 m x) K := by
  refine a_aload_n d_M_readPolicy_138 rfl rfl ?_
  refine a_aload_n d_M_readPolicy_139 rfl rfl ?_
  refine m_get d_M_readPolicy_140 f_M_149 rfl ?_
  refine a_iconst (v := 4) d_M_readPolicy_143 (by decide) ?_
  refine a_icmp_ne (tgt := 151) d_M_readPolicy_144 (by decide) (fun c_1 => ?_) (fun n9 => absurd n9 (ht))
  refine a_iconst (v := 0) d_M_readPolicy_151 (by decide) ?_
  apply a_callV (ci := 7) 1 22 [_] _ d_M_readPolicy_152 l_M_229 ⟨im_M_must, se_M_must⟩ rfl rfl rfl rfl (Nat.le_of_ble_eq_true rfl) ⟨Nat.le_of_ble_eq_true rfl, Nat.le_of_ble_eq_true rfl⟩
  · (exact mk_O)
  refine sp_M_mustF rfl ?_
  refine a_istore_n d_M_readPolicy_155 rfl (by decide) ?_
  refine a_aload_n d_M_readPolicy_156 rfl rfl ?_
  refine m_get d_M_readPolicy_157 f_M_242 rfl ?_
  refine a_if_ne (tgt := 172) d_M_readPolicy_160 (by decide) (fun c_2 => ?_) (fun c_2 => ?_)
  · refine a_aload_n d_M_readPolicy_172 rfl rfl ?_
    apply a_callV (ci := 7) 1 22 [] _ d_M_readPolicy_173 l_M_260 ⟨im_M_resolve, se_M_resolve⟩ rfl rfl rfl rfl (Nat.le_of_ble_eq_true rfl) ⟨Nat.le_of_ble_eq_true rfl, Nat.le_of_ble_eq_true rfl⟩
    · (exact mk_O)
    refine sp_M_resolveB h0 ?_
    exact a_return d_M_readPolicy_176 rfl hK
  · refine a_aload_n d_M_readPolicy_163 rfl rfl ?_
    refine a_iconst (v := 4) d_M_readPolicy_164 (by decide) ?_
    refine a_aload_n d_M_readPolicy_165 rfl rfl ?_
    refine m_get d_M_readPolicy_166 f_M_109 rfl ?_
    apply a_callV (ci := 7) 0 0 [_, _] _ d_M_readPolicy_169 l_M_155 ⟨im_M_wrong, se_M_wrong⟩ rfl rfl rfl rfl (Nat.le_of_ble_eq_true rfl) ⟨Nat.le_of_ble_eq_true rfl, Nat.le_of_ble_eq_true rfl⟩
    · (exact mk_O)
    refine sp_M_wrong ?_
    rw [wrX_B h0]
    refine a_aload_n d_M_readPolicy_172 rfl rfl ?_
    apply a_callV (ci := 7) 1 22 [] _ d_M_readPolicy_173 l_M_260 ⟨im_M_resolve, se_M_resolve⟩ rfl rfl rfl rfl (Nat.le_of_ble_eq_true rfl) ⟨Nat.le_of_ble_eq_true rfl, Nat.le_of_ble_eq_true rfl⟩
    · (exact mk_O)
    refine sp_M_resolveB h0 ?_
    exact a_return d_M_readPolicy_176 rfl hK

set_option maxHeartbeats 1000000 in
set_option maxRecDepth 100000 in
theorem p_M_49E (h0 : x.1 24 = 0) (ht : ¬ x.1 20 = 0) (hK : a_J G m_M_readPolicy 10 217 138 [(0, .ref m)] [] (mk σ0 m x) K) : a_J G m_M_readPolicy 10 217 49 [(0, .ref m)] [] (mk σ0 m x) K := by
  refine a_aload_n d_M_readPolicy_49 rfl rfl ?_
  refine m_get d_M_readPolicy_50 f_M_126 rfl ?_
  refine a_if_ne (tgt := 138) d_M_readPolicy_53 (by decide) (fun n9 => absurd (h0) n9) (fun c_1 => ?_)
  refine a_aload_n d_M_readPolicy_56 rfl rfl ?_
  refine m_get d_M_readPolicy_57 f_M_149 rfl ?_
  refine a_if_ne (tgt := 138) d_M_readPolicy_60 (by decide) (fun c_2 => ?_) (fun n9 => absurd n9 (ht))
  exact a_lvk hK ⟨rfl, trivial⟩

set_option maxHeartbeats 1000000 in
set_option maxRecDepth 100000 in
theorem p_M_49W (h0 : x.1 24 = 0) (ht : x.1 20 = 0) (hN : x.1 36 = 24) (hK : K none (mk σ0 m (wrX x 2 (x.1 21)))) : a_J G m_M_readPolicy 10 217 49 [(0, .ref m)] [] (mk σ0 m x) K := by
  refine a_aload_n d_M_readPolicy_49 rfl rfl ?_
  refine m_get d_M_readPolicy_50 f_M_126 rfl ?_
  refine a_if_ne (tgt := 138) d_M_readPolicy_53 (by decide) (fun n9 => absurd (h0) n9) (fun c_1 => ?_)
  refine a_aload_n d_M_readPolicy_56 rfl rfl ?_
  refine m_get d_M_readPolicy_57 f_M_149 rfl ?_
  refine a_if_ne (tgt := 138) d_M_readPolicy_60 (by decide) (fun n9 => absurd (ht) n9) (fun c_2 => ?_)
  refine a_aload_n d_M_readPolicy_63 rfl rfl ?_
  refine m_get d_M_readPolicy_64 f_M_242 rfl ?_
  refine a_bipush (v := 24) d_M_readPolicy_67 (by decide) ?_
  refine a_icmp_ne (tgt := 82) d_M_readPolicy_69 (by decide) (fun n9 => absurd (hN) n9) (fun c_3 => ?_)
  refine a_aload_n d_M_readPolicy_72 rfl rfl ?_
  refine a_iconst (v := 2) d_M_readPolicy_73 (by decide) ?_
  refine a_aload_n d_M_readPolicy_74 rfl rfl ?_
  refine m_get d_M_readPolicy_75 f_M_146 rfl ?_
  apply a_callV (ci := 7) 0 0 [_, _] _ d_M_readPolicy_78 l_M_155 ⟨im_M_wrong, se_M_wrong⟩ rfl rfl rfl rfl (Nat.le_of_ble_eq_true rfl) ⟨Nat.le_of_ble_eq_true rfl, Nat.le_of_ble_eq_true rfl⟩
  · (exact mk_O)
  refine sp_M_wrong ?_
  exact a_return d_M_readPolicy_81 rfl hK

set_option maxHeartbeats 1000000 in
set_option maxRecDepth 100000 in
theorem p_M_49N {a : Nat} (hT : MX x n f) (hA : x.1 19 = nI a) (ha : a ≤ n) (h0 : x.1 24 = 0) (ht : x.1 20 = 0) (hN : ¬ x.1 36 = 24) (hK : ∀ y, NX n f a x y → a_J G m_M_readPolicy 10 217 86 [(0, .ref m)] [] (mk σ0 m y) K) : a_J G m_M_readPolicy 10 217 49 [(0, .ref m)] [] (mk σ0 m x) K := by
  refine a_aload_n d_M_readPolicy_49 rfl rfl ?_
  refine m_get d_M_readPolicy_50 f_M_126 rfl ?_
  refine a_if_ne (tgt := 138) d_M_readPolicy_53 (by decide) (fun n9 => absurd (h0) n9) (fun c_1 => ?_)
  refine a_aload_n d_M_readPolicy_56 rfl rfl ?_
  refine m_get d_M_readPolicy_57 f_M_149 rfl ?_
  refine a_if_ne (tgt := 138) d_M_readPolicy_60 (by decide) (fun n9 => absurd (ht) n9) (fun c_2 => ?_)
  refine a_aload_n d_M_readPolicy_63 rfl rfl ?_
  refine m_get d_M_readPolicy_64 f_M_242 rfl ?_
  refine a_bipush (v := 24) d_M_readPolicy_67 (by decide) ?_
  refine a_icmp_ne (tgt := 82) d_M_readPolicy_69 (by decide) (fun c_3 => ?_) (fun n9 => absurd n9 (hN))
  refine a_aload_n d_M_readPolicy_82 rfl rfl ?_
  apply a_callV (ci := 7) 2 48 [] _ d_M_readPolicy_83 l_M_233 ⟨im_M_next, se_M_next⟩ rfl rfl rfl rfl (Nat.le_of_ble_eq_true rfl) ⟨Nat.le_of_ble_eq_true rfl, Nat.le_of_ble_eq_true rfl⟩
  · (exact mk_O)
  refine sp_M_next (a := a) hT hA ha (fun y hy => ?_)
  exact a_lvk (hK y hy) ⟨rfl, trivial⟩

set_option maxHeartbeats 1000000 in
set_option maxRecDepth 100000 in
theorem p_M_86C (hx : LKA n f (c.1 1 0) x) (h0 : (c.1 2 0) = 0) (hs : (c.1 0 0) = 2) (hd : stT (tok n f (c.1 1 0)) c = (gt (tok n f (c.1 1 0)) c 3)) (hA : AI c) (hJ : AJ n c) (hL : AL c) (hM : MGd c x) (hMC : MC c x (c.1 4 0)) (hMN : MNd c x) (hMR : MRl c x (c.1 5 0)) (hMW : MWy c x (c.1 7 0)) (hw : ¬ mW x 37 = 0) (hN : x.1 36 = 0) (hC : ¬ 6 ≤ x.1 28) (hK : ∀ z, PP x z → HP n f c z → a_J G m_M_readPolicy 10 217 49 [(0, .ref m)] [] (mk σ0 m z) K) : a_J G m_M_readPolicy 10 217 86 [(0, .ref m)] [] (mk σ0 m x) K := by
  refine a_aload_n d_M_readPolicy_86 rfl rfl ?_
  refine a_ldcS 37 d_M_readPolicy_87 (by decide) rfl rfl ?_
  apply a_callV (ci := 7) 5 108 [_] _ d_M_readPolicy_89 l_M_203 ⟨im_M_isWord, se_M_isWord⟩ rfl rfl rfl rfl (Nat.le_of_ble_eq_true rfl) ⟨Nat.le_of_ble_eq_true rfl, Nat.le_of_ble_eq_true rfl⟩
  · (exact mk_O)
  refine sp_M_isWord (by decide) (jG _ (by decide) (by decide)) ?_
  refine a_if_eq (tgt := 118) d_M_readPolicy_92 (by decide) (fun n9 => absurd n9 (hw)) (fun c_1 => ?_)
  refine a_aload_n d_M_readPolicy_95 rfl rfl ?_
  refine m_get d_M_readPolicy_96 f_M_242 rfl ?_
  refine a_if_ne (tgt := 118) d_M_readPolicy_99 (by decide) (fun n9 => absurd (hN) n9) (fun c_2 => ?_)
  refine a_aload_n d_M_readPolicy_102 rfl rfl ?_
  refine m_get d_M_readPolicy_103 f_M_236 rfl ?_
  refine a_bipush (v := 6) d_M_readPolicy_106 (by decide) ?_
  refine a_icmp_ge (tgt := 118) d_M_readPolicy_108 (by decide) (fun n9 => absurd n9 (hC)) (fun c_3 => ?_)
  refine a_aload_n d_M_readPolicy_111 rfl rfl ?_
  apply a_callV (ci := 7) 9 194 [] _ d_M_readPolicy_112 l_M_254 ⟨im_M_readCounter, se_M_readCounter⟩ rfl rfl rfl rfl (Nat.le_of_ble_eq_true rfl) ⟨Nat.le_of_ble_eq_true rfl, Nat.le_of_ble_eq_true rfl⟩
  · (exact mk_O)
  refine sp_M_readCounter hx h0 hs hd hA hJ hL hM hMC hMN hMR hMW (fun z hz hq => ?_)
  refine a_goto (tgt := 49) d_M_readPolicy_115 (by decide) ?_
  exact a_lvk (hK z hz hq) ⟨rfl, trivial⟩

set_option maxHeartbeats 1000000 in
set_option maxRecDepth 100000 in
theorem p_M_86CB {a k0 : Nat} (hT : MX x n f) (hA : x.1 19 = nI a) (ha : a ≤ n) (hk0 : x.1 28 = nI k0) (hk6 : k0 ≤ 6) (h0 : ¬ x.1 24 = 0) (hw : ¬ mW x 37 = 0) (hN : x.1 36 = 0) (hC : ¬ 6 ≤ x.1 28) (hK : ∀ z, PP x z → z.1 24 = x.1 24 → z.1 25 = x.1 25 → a_J G m_M_readPolicy 10 217 49 [(0, .ref m)] [] (mk σ0 m z) K) : a_J G m_M_readPolicy 10 217 86 [(0, .ref m)] [] (mk σ0 m x) K := by
  refine a_aload_n d_M_readPolicy_86 rfl rfl ?_
  refine a_ldcS 37 d_M_readPolicy_87 (by decide) rfl rfl ?_
  apply a_callV (ci := 7) 5 108 [_] _ d_M_readPolicy_89 l_M_203 ⟨im_M_isWord, se_M_isWord⟩ rfl rfl rfl rfl (Nat.le_of_ble_eq_true rfl) ⟨Nat.le_of_ble_eq_true rfl, Nat.le_of_ble_eq_true rfl⟩
  · (exact mk_O)
  refine sp_M_isWord (by decide) (jG _ (by decide) (by decide)) ?_
  refine a_if_eq (tgt := 118) d_M_readPolicy_92 (by decide) (fun n9 => absurd n9 (hw)) (fun c_1 => ?_)
  refine a_aload_n d_M_readPolicy_95 rfl rfl ?_
  refine m_get d_M_readPolicy_96 f_M_242 rfl ?_
  refine a_if_ne (tgt := 118) d_M_readPolicy_99 (by decide) (fun n9 => absurd (hN) n9) (fun c_2 => ?_)
  refine a_aload_n d_M_readPolicy_102 rfl rfl ?_
  refine m_get d_M_readPolicy_103 f_M_236 rfl ?_
  refine a_bipush (v := 6) d_M_readPolicy_106 (by decide) ?_
  refine a_icmp_ge (tgt := 118) d_M_readPolicy_108 (by decide) (fun n9 => absurd n9 (hC)) (fun c_3 => ?_)
  refine a_aload_n d_M_readPolicy_111 rfl rfl ?_
  apply a_callV (ci := 7) 9 194 [] _ d_M_readPolicy_112 l_M_254 ⟨im_M_readCounter, se_M_readCounter⟩ rfl rfl rfl rfl (Nat.le_of_ble_eq_true rfl) ⟨Nat.le_of_ble_eq_true rfl, Nat.le_of_ble_eq_true rfl⟩
  · (exact mk_O)
  refine sp_M_readCounterB hT hA ha hk0 hk6 h0 (fun z hz h4 h5 => ?_)
  refine a_goto (tgt := 49) d_M_readPolicy_115 (by decide) ?_
  exact a_lvk (hK z hz h4 h5) ⟨rfl, trivial⟩

set_option maxHeartbeats 1000000 in
set_option maxRecDepth 100000 in
theorem p_M_86N (hn : ¬ (¬ mW x 37 = 0 ∧ x.1 36 = 0 ∧ ¬ 6 ≤ x.1 28)) (hK : a_J G m_M_readPolicy 10 217 118 [(0, .ref m)] [] (mk σ0 m x) K) : a_J G m_M_readPolicy 10 217 86 [(0, .ref m)] [] (mk σ0 m x) K := by
  refine a_aload_n d_M_readPolicy_86 rfl rfl ?_
  refine a_ldcS 37 d_M_readPolicy_87 (by decide) rfl rfl ?_
  apply a_callV (ci := 7) 5 108 [_] _ d_M_readPolicy_89 l_M_203 ⟨im_M_isWord, se_M_isWord⟩ rfl rfl rfl rfl (Nat.le_of_ble_eq_true rfl) ⟨Nat.le_of_ble_eq_true rfl, Nat.le_of_ble_eq_true rfl⟩
  · (exact mk_O)
  refine sp_M_isWord (by decide) (jG _ (by decide) (by decide)) ?_
  refine a_if_eq (tgt := 118) d_M_readPolicy_92 (by decide) (fun c_1 => ?_) (fun c_1 => ?_)
  · exact a_lvk hK ⟨rfl, trivial⟩
  · refine a_aload_n d_M_readPolicy_95 rfl rfl ?_
    refine m_get d_M_readPolicy_96 f_M_242 rfl ?_
    refine a_if_ne (tgt := 118) d_M_readPolicy_99 (by decide) (fun c_2 => ?_) (fun c_2 => ?_)
    · exact a_lvk hK ⟨rfl, trivial⟩
    · refine a_aload_n d_M_readPolicy_102 rfl rfl ?_
      refine m_get d_M_readPolicy_103 f_M_236 rfl ?_
      refine a_bipush (v := 6) d_M_readPolicy_106 (by decide) ?_
      refine a_icmp_ge (tgt := 118) d_M_readPolicy_108 (by decide) (fun c_3 => ?_) (fun c_3 => ?_)
      · exact a_lvk hK ⟨rfl, trivial⟩
      · exact absurd ⟨by assumption, by assumption, by assumption⟩ hn

set_option maxHeartbeats 1000000 in
set_option maxRecDepth 100000 in
theorem p_M_118T (hx : LKA n f (c.1 1 0) x) (h0 : (c.1 2 0) = 0) (hs : (c.1 0 0) = 2) (hd : stT (tok n f (c.1 1 0)) c = (gt (tok n f (c.1 1 0)) c 5)) (hA : AI c) (hJ : AJ n c) (hL : AL c) (hM : MGd c x) (hMC : MC c x (c.1 4 0)) (hMN : MNd c x) (hMR : MRl c x (c.1 5 0)) (hMW : MWy c x (c.1 7 0)) (hw : ¬ mW x 40 = 0) (hK : ∀ z, PP x z → HP n f c z → a_J G m_M_readPolicy 10 217 49 [(0, .ref m)] [] (mk σ0 m z) K) : a_J G m_M_readPolicy 10 217 118 [(0, .ref m)] [] (mk σ0 m x) K := by
  refine a_aload_n d_M_readPolicy_118 rfl rfl ?_
  refine a_aload_n d_M_readPolicy_119 rfl rfl ?_
  refine a_ldcS 40 d_M_readPolicy_120 (by decide) rfl rfl ?_
  apply a_callV (ci := 7) 5 108 [_] _ d_M_readPolicy_122 l_M_203 ⟨im_M_isWord, se_M_isWord⟩ rfl rfl rfl rfl (Nat.le_of_ble_eq_true rfl) ⟨Nat.le_of_ble_eq_true rfl, Nat.le_of_ble_eq_true rfl⟩
  · (exact mk_O)
  refine sp_M_isWord (by decide) (jG _ (by decide) (by decide)) ?_
  apply a_callV (ci := 7) 1 22 [_] _ d_M_readPolicy_125 l_M_229 ⟨im_M_must, se_M_must⟩ rfl rfl rfl rfl (Nat.le_of_ble_eq_true rfl) ⟨Nat.le_of_ble_eq_true rfl, Nat.le_of_ble_eq_true rfl⟩
  · (exact mk_O)
  refine sp_M_mustT hw hx.2.2.1 ?_
  refine a_if_eq (tgt := 49) d_M_readPolicy_128 (by decide) (fun n9 => absurd n9 (by decide)) (fun c_1 => ?_)
  refine a_aload_n d_M_readPolicy_131 rfl rfl ?_
  apply a_callV (ci := 7) 9 194 [] _ d_M_readPolicy_132 l_M_257 ⟨im_M_readNode, se_M_readNode⟩ rfl rfl rfl rfl (Nat.le_of_ble_eq_true rfl) ⟨Nat.le_of_ble_eq_true rfl, Nat.le_of_ble_eq_true rfl⟩
  · (exact mk_O)
  refine sp_M_readNode hx h0 hs hd hA hJ hL hM hMC hMN hMR hMW (fun z hz hq => ?_)
  refine a_goto (tgt := 49) d_M_readPolicy_135 (by decide) ?_
  exact a_lvk (hK z hz hq) ⟨rfl, trivial⟩

set_option maxHeartbeats 1000000 in
set_option maxRecDepth 100000 in
theorem p_M_118F (hw : mW x 40 = 0) (hK : a_J G m_M_readPolicy 10 217 49 [(0, .ref m)] [] (mk σ0 m (muX x 0)) K) : a_J G m_M_readPolicy 10 217 118 [(0, .ref m)] [] (mk σ0 m x) K := by
  refine a_aload_n d_M_readPolicy_118 rfl rfl ?_
  refine a_aload_n d_M_readPolicy_119 rfl rfl ?_
  refine a_ldcS 40 d_M_readPolicy_120 (by decide) rfl rfl ?_
  apply a_callV (ci := 7) 5 108 [_] _ d_M_readPolicy_122 l_M_203 ⟨im_M_isWord, se_M_isWord⟩ rfl rfl rfl rfl (Nat.le_of_ble_eq_true rfl) ⟨Nat.le_of_ble_eq_true rfl, Nat.le_of_ble_eq_true rfl⟩
  · (exact mk_O)
  refine sp_M_isWord (by decide) (jG _ (by decide) (by decide)) ?_
  apply a_callV (ci := 7) 1 22 [_] _ d_M_readPolicy_125 l_M_229 ⟨im_M_must, se_M_must⟩ rfl rfl rfl rfl (Nat.le_of_ble_eq_true rfl) ⟨Nat.le_of_ble_eq_true rfl, Nat.le_of_ble_eq_true rfl⟩
  · (exact mk_O)
  refine sp_M_mustF hw ?_
  refine a_if_eq (tgt := 49) d_M_readPolicy_128 (by decide) (fun c_1 => ?_) (fun n9 => absurd (rfl) n9)
  exact a_lvk hK ⟨rfl, trivial⟩

set_option maxHeartbeats 1000000 in
set_option maxRecDepth 100000 in
theorem p_M_118B (h0 : ¬ x.1 24 = 0) (hK : a_J G m_M_readPolicy 10 217 49 [(0, .ref m)] [] (mk σ0 m x) K) : a_J G m_M_readPolicy 10 217 118 [(0, .ref m)] [] (mk σ0 m x) K := by
  refine a_aload_n d_M_readPolicy_118 rfl rfl ?_
  refine a_aload_n d_M_readPolicy_119 rfl rfl ?_
  refine a_ldcS 40 d_M_readPolicy_120 (by decide) rfl rfl ?_
  apply a_callV (ci := 7) 5 108 [_] _ d_M_readPolicy_122 l_M_203 ⟨im_M_isWord, se_M_isWord⟩ rfl rfl rfl rfl (Nat.le_of_ble_eq_true rfl) ⟨Nat.le_of_ble_eq_true rfl, Nat.le_of_ble_eq_true rfl⟩
  · (exact mk_O)
  refine sp_M_isWord (by decide) (jG _ (by decide) (by decide)) ?_
  apply a_callV (ci := 7) 1 22 [_] _ d_M_readPolicy_125 l_M_229 ⟨im_M_must, se_M_must⟩ rfl rfl rfl rfl (Nat.le_of_ble_eq_true rfl) ⟨Nat.le_of_ble_eq_true rfl, Nat.le_of_ble_eq_true rfl⟩
  · (exact mk_O)
  refine sp_M_mustB h0 ?_
  refine a_if_eq (tgt := 49) d_M_readPolicy_128 (by decide) (fun c_1 => ?_) (fun n9 => absurd (rfl) n9)
  exact a_lvk hK ⟨rfl, trivial⟩

set_option maxHeartbeats 1000000 in
set_option maxRecDepth 100000 in
theorem p_M_0 (hT : MX (sI (sI (sI (sI (sI (sI (sI (sI (sI x 19 0) 24 0) 25 (-1)) 28 0) 34 0) 36 0) 43 0) 50 0) 52 0) n f) (hK : ∀ y, NX n f 0 (sI (sI (sI (sI (sI (sI (sI (sI (sI x 19 0) 24 0) 25 (-1)) 28 0) 34 0) 36 0) 43 0) 50 0) 52 0) y → a_J G m_M_readPolicy 10 217 49 [(0, .ref m)] [] (mk σ0 m y) K) : a_C G m_M_readPolicy 10 217 [.ref m] (mk σ0 m x) K := by
  refine a_enter rfl (Nat.le_of_ble_eq_true rfl) ?_
  refine a_aload_n d_M_readPolicy_0 rfl rfl ?_
  refine a_iconst (v := 0) d_M_readPolicy_1 (by decide) ?_
  refine m_putI d_M_readPolicy_2 p_M_139 rfl rfl (by decide) ?_
  refine a_aload_n d_M_readPolicy_5 rfl rfl ?_
  refine a_iconst (v := 0) d_M_readPolicy_6 (by decide) ?_
  refine m_putI d_M_readPolicy_7 p_M_126 rfl rfl (by decide) ?_
  refine a_aload_n d_M_readPolicy_10 rfl rfl ?_
  refine a_iconst (v := (-1)) d_M_readPolicy_11 (by decide) ?_
  refine m_putI d_M_readPolicy_12 p_M_129 rfl rfl (by decide) ?_
  refine a_aload_n d_M_readPolicy_15 rfl rfl ?_
  refine a_iconst (v := 0) d_M_readPolicy_16 (by decide) ?_
  refine m_putI d_M_readPolicy_17 p_M_236 rfl rfl (by decide) ?_
  refine a_aload_n d_M_readPolicy_20 rfl rfl ?_
  refine a_iconst (v := 0) d_M_readPolicy_21 (by decide) ?_
  refine m_putI d_M_readPolicy_22 p_M_239 rfl rfl (by decide) ?_
  refine a_aload_n d_M_readPolicy_25 rfl rfl ?_
  refine a_iconst (v := 0) d_M_readPolicy_26 (by decide) ?_
  refine m_putI d_M_readPolicy_27 p_M_242 rfl rfl (by decide) ?_
  refine a_aload_n d_M_readPolicy_30 rfl rfl ?_
  refine a_iconst (v := 0) d_M_readPolicy_31 (by decide) ?_
  refine m_putI d_M_readPolicy_32 p_M_245 rfl rfl (by decide) ?_
  refine a_aload_n d_M_readPolicy_35 rfl rfl ?_
  refine a_iconst (v := 0) d_M_readPolicy_36 (by decide) ?_
  refine m_putI d_M_readPolicy_37 p_M_248 rfl rfl (by decide) ?_
  refine a_aload_n d_M_readPolicy_40 rfl rfl ?_
  refine a_iconst (v := 0) d_M_readPolicy_41 (by decide) ?_
  refine m_putI d_M_readPolicy_42 p_M_251 rfl rfl (by decide) ?_
  refine a_aload_n d_M_readPolicy_45 rfl rfl ?_
  apply a_callV (ci := 7) 2 48 [] _ d_M_readPolicy_46 l_M_233 ⟨im_M_next, se_M_next⟩ rfl rfl rfl rfl (Nat.le_of_ble_eq_true rfl) ⟨Nat.le_of_ble_eq_true rfl, Nat.le_of_ble_eq_true rfl⟩
  · (exact mk_O)
  refine sp_M_next (a := 0) hT rfl (Nat.zero_le _) (fun y hy => ?_)
  exact a_lvk (hK y hy) ⟨rfl, trivial⟩

set_option maxHeartbeats 2000000 in
theorem lp_M_pol : ∀ (k : Nat) (c : aN) (x : aX), n < (c.1 1 0) + k → aRc n f aC0 c → LKA n f (c.1 1 0) x → (c.1 2 0) = 0 → (c.1 0 0) = 1 → MGd c x → MC c x (c.1 4 0) → MNd c x → MRl c x (c.1 5 0) → MWy c x (c.1 7 0) → (∀ z, PP x z → PO2 n f c z → K none (mk σ0 m z)) → a_J G m_M_readPolicy 10 217 49 [(0, .ref m)] [] (mk σ0 m x) K
  | 0, c, x, hk, _, hx, _, _, _, _, _, _, _, _ => by have := hx.2.1; omega
  | k + 1, c, x, hk, hR, hx, h0, hs, hM, hMC, hMN, hMR, hMW, hK => by
    have hle := lx_le n f hx.2.1
    have hA := AI_Rc AI_0 hR
    have hJ := AJ_Rc hx.hf.1 hx.hf.2 (AJ_0 n) hR
    have hL := AL_Rc AI_0 AL_0 hR
    have h1 := stT_1 (tok n f (c.1 1 0)) hs
    have hNN := hA.1.2.1
    have hstep : aRc n f c (stT (tok n f (c.1 1 0)) c) := by
      have := aRc.step (n := n) (f := f) (c := c) aRc.rf
      unfold stp at this
      rw [if_pos ⟨h0, by omega⟩] at this; exact this
    by_cases k1 : lxK n f (c.1 1 0) = 1
    · have t0 := (tk_0 hx).mpr k1
      by_cases h24 : (c.1 6 0) = 24
      · have hd : stT (tok n f (c.1 1 0)) c = wr (tok n f (c.1 1 0)) c := by
          rw [h1]; unfold a1
          rw [if_neg (show ¬ (tok n f (c.1 1 0)).1 = 0 by show ¬ lxK n f (c.1 1 0) = 0; rw [k1]; decide), if_neg (by omega)]
        refine p_M_49W hx.2.2.1 t0 (by rw [hMN.1, h24]; rfl) (hK _ (PP_wr _ _ _) ?_)
        have hw := wrX_0 hx.2.2.1 2 (x.1 21)
        refine BAD.po ⟨_, hstep, ?_, ?_, ?_, ?_⟩
        · rw [hd]; show ¬ (if (tok n f (c.1 1 0)).1 = 5 then 1 else if (tok n f (c.1 1 0)).1 = 0 then 3 else 2) = 0; split; decide; split <;> decide
        · rw [hd]; show (if (tok n f (c.1 1 0)).1 = 5 then 1 else if (tok n f (c.1 1 0)).1 = 0 then 3 else 2) < 8; split; decide; split <;> decide
        · rw [hd, hw.1]; show 2 = nI (if (tok n f (c.1 1 0)).1 = 5 then 1 else if (tok n f (c.1 1 0)).1 = 0 then 3 else 2)
          rw [if_neg (show ¬ (tok n f (c.1 1 0)).1 = 5 from hx.2.2.2.1), if_neg (show ¬ (tok n f (c.1 1 0)).1 = 0 by show ¬ lxK n f (c.1 1 0) = 0; rw [k1]; decide)]; rfl
        · rw [hd, hw.2]; show x.1 21 = nI (lxP n f (c.1 1 0)); exact hx.2.2.2.2.2.1
      · have hd : stT (tok n f (c.1 1 0)) c = (gt (tok n f (c.1 1 0)) c 2) := by
          rw [h1]; unfold a1
          rw [if_neg (show ¬ (tok n f (c.1 1 0)).1 = 0 by show ¬ lxK n f (c.1 1 0) = 0; rw [k1]; decide), if_pos ⟨k1, by omega⟩]
        refine p_M_49N hx.1 hx.2.2.2.2.1 hle.2.2.2 hx.2.2.1 t0 (by rw [hMN.1]; intro z; exact h24 ((nI_eq (by omega) (by decide)).mp z)) (fun y hy => ?_)
        obtain ⟨hr, hl⟩ := step_LKA hx h0 (by omega) hd h0 (by show 1 ≤ 2; decide) (by show 2 ≤ 17; decide) rfl hy
        have hPPy := hy.pt.pg.pp
        have hSM : SM c (gt (tok n f (c.1 1 0)) c 2) := ⟨fun a h1 h2 _ _ _ _ => by show xN (xN c.1 0 0 2) 1 0 _ a = c.1 a; rw [xN_ne h2, xN_ne h1], rfl⟩
        have hMd := MGd_PT (MGd_SM hM hSM) hy.pt
        have hMCd := (hMC.sm hSM).pg hy.pt.pg
        have hMNd := (hMN.cg hSM.cg).pg hy.pt.pg
        have hMRd := (hMR.sm hSM).pg hy.pt.pg
        have hMWd := (hMW.sm hSM).pg hy.pt.pg
        have hgt : (c.1 1 0) < lxE n f (c.1 1 0) := (TF_tok hx.hf.1 hx.hf.2 hJ).2.2.2.1 (by show ¬ lxK n f (c.1 1 0) = 0; rw [k1]; decide)
        rcases hl with hl | ⟨hl1, hl2⟩
        · generalize hdd : (gt (tok n f (c.1 1 0)) c 2) = d at hd hr hl hMd hMCd hMNd hMRd hMWd
          have d0 : d.1 2 0 = 0 := by rw [← hdd]; exact h0
          have ds : d.1 0 0 = 2 := by rw [← hdd]; rfl
          have da : d.1 1 0 = lxE n f (c.1 1 0) := by rw [← hdd]; rfl
          have d4 : d.1 4 0 = (c.1 4 0) := by rw [← hdd]; rfl
          have d5 : d.1 5 0 = (c.1 5 0) := by rw [← hdd]; rfl
          have d6 : d.1 6 0 = (c.1 6 0) := by rw [← hdd]; rfl
          have d7 : d.1 7 0 = (c.1 7 0) := by rw [← hdd]; rfl
          rw [← d4] at hMCd
          rw [← d5] at hMRd
          rw [← d7] at hMWd
          have hRd := hR.trans hr
          have hAd := AI_Rc AI_0 hRd
          have hJd := AJ_Rc hx.hf.1 hx.hf.2 (AJ_0 n) hRd
          have hLd := AL_Rc AI_0 AL_0 hRd
          have h2 := stT_2 (tok n f (d.1 1 0)) ds
          have go : ∀ z, PP y z → HP n f d z → a_J G m_M_readPolicy 10 217 49 [(0, .ref m)] [] (mk σ0 m z) K := fun z hz hq => by
            rcases hq with ⟨e, q1, q2, q3, q4, q5, q6, q7, q8, q9⟩ | ⟨q1, q2⟩
            · have hat : d.1 1 0 ≤ e.1 1 0 := by
                obtain ⟨i, rfl⟩ := q1
                exact (aRc_AT i hl.2.1).1
              exact lp_M_pol k e z (by omega) (hRd.trans q1) q4 q2 q3 q5 q6 q7 q8 q9 (fun w hw hp => hK w ((hPPy.trans hz).trans hw) (hp.of (hr.trans q1)))
            · exact p_M_49B q1.ne (p_M_138B q1.ne (hK z (hPPy.trans hz) (q1.of hr).po))
          have w37 := W_iff hl (j := 37) (by decide) (by decide)
          have w40 := W_iff hl (j := 40) (by decide) (by decide)
          have j37 : jS 37 = jS 1 := by decide +kernel
          have j40 : jS 40 = jS 0 := by decide +kernel
          have j10 : ¬ jS 1 = jS 0 := by decide +kernel
          rw [j37] at w37
          rw [j40] at w40
          have e36 : y.1 36 = nI (d.1 6 0) := hMNd.1
          have e28 : y.1 28 = nI (d.1 4 0) := hMCd.1
          have hd6 := hAd.1.1
          have hd24 := hAd.1.2.1
          have i36 : y.1 36 = 0 ↔ d.1 6 0 = 0 := by rw [e36]; exact nI_eq (b := 0) (by omega) (by decide)
          have i28 : ¬ 6 ≤ y.1 28 ↔ d.1 4 0 < 6 := by rw [e28, Int32.not_le]; exact nI_ltI (b := 6) (by omega) (by decide)
          by_cases c1 : (((tok n f (d.1 1 0)).1 = 3 ∧ (tok n f (d.1 1 0)).2.2.2.1 = jS 1) ∧ d.1 6 0 = 0 ∧ d.1 4 0 < 6)
          · have hd2 : stT (tok n f (d.1 1 0)) d = gt (tok n f (d.1 1 0)) d 3 := by
              rw [h2]; unfold a2
              rw [if_neg (fun z => j10 (c1.1.2.symm.trans z.2)), if_pos c1]
            exact p_M_86C hl d0 ds hd2 hAd hJd hLd hMd hMCd hMNd hMRd hMWd (fun z => (w37.mp z) c1.1) (i36.mpr c1.2.1) (i28.mpr c1.2.2) go
          · refine p_M_86N (fun z => c1 ⟨Classical.byContradiction fun q => z.1 (w37.mpr q), i36.mp z.2.1, i28.mp z.2.2⟩) ?_
            by_cases c2 : ((tok n f (d.1 1 0)).1 = 3 ∧ (tok n f (d.1 1 0)).2.2.2.1 = jS 0)
            · have hd2 : stT (tok n f (d.1 1 0)) d = gt (tok n f (d.1 1 0)) d 5 := by
                rw [h2]; unfold a2
                rw [if_pos c2]
              exact p_M_118T hl d0 ds hd2 hAd hJd hLd hMd hMCd hMNd hMRd hMWd (fun z => (w40.mp z) c2) go
            · have hd2 : stT (tok n f (d.1 1 0)) d = wr (tok n f (d.1 1 0)) d := by
                rw [h2]; unfold a2
                rw [if_neg c2, if_neg c1]
              have hB := BAD_must hl d0 (by omega) hd2
              exact p_M_118F (w40.mpr c2) (go _ (PT.mu y).pg.pp (Or.inr ⟨hB, (PT.mu y).mx hl.1⟩))
        · have e36 : y.1 36 = nI (c.1 6 0) := (hy.pt.2 36 (by decide) (by decide) (by decide) (by decide) (by decide)).trans hMN.1
          have e28 : y.1 28 = nI (c.1 4 0) := (hy.pt.2 28 (by decide) (by decide) (by decide) (by decide) (by decide)).trans hMC.1
          obtain ⟨a, ha1, ha2⟩ := hy.2.2.1
          have fin : ∀ z, PP y z → z.1 24 = y.1 24 → z.1 25 = y.1 25 → a_J G m_M_readPolicy 10 217 49 [(0, .ref m)] [] (mk σ0 m z) K := fun z hz g1 g2 => by
            have hB := hl1.eq g1 g2
            exact p_M_49B hB.ne (p_M_138B hB.ne (hK z (hPPy.trans hz) hB.po))
          by_cases c1 : (¬ mW y 37 = 0 ∧ y.1 36 = 0 ∧ ¬ 6 ≤ y.1 28)
          · exact p_M_86CB hl2 ha2 ha1 e28 hA.1.1 hl1.ne c1.1 c1.2.1 c1.2.2 fin
          · exact p_M_86N c1 (p_M_118B hl1.ne (fin y PP.rf rfl rfl))
    · refine p_M_49E hx.2.2.1 (fun z => k1 ((tk_0 hx).mp z)) ?_
      by_cases k0 : lxK n f (c.1 1 0) = 0
      · have t4 := (tk_4 hx).mpr k0
        have hpn : lxP n f (c.1 1 0) = n := lx_E0 hx.2.1 k0
        by_cases hN0 : (c.1 6 0) = 0
        · have hd : stT (tok n f (c.1 1 0)) c = ((xN (xN (xN c.1 2 (0) (4)) 3 (0) (n)) 0 (0) (0)), c.2.1, c.2.2) := by
            rw [h1]; unfold a1
            rw [if_pos (show (tok n f (c.1 1 0)).1 = 0 from k0), if_pos hN0]
            show ((xN (xN (xN c.1 2 (0) (4)) 3 (0) (lxP n f (c.1 1 0))) 0 (0) (0)), c.2.1, c.2.2) = _
            rw [hpn]
          rw [hd] at hstep
          refine p_M_138E0 hx.2.2.1 t4 (by rw [hMN.1, hN0]; rfl) (hK _ (PP_wr _ _ _) (BAD.po ⟨_, hstep, ?_, ?_, ?_, ?_⟩))
          · show ¬ 4 = 0; decide
          · show 4 < 8; decide
          · exact (wrX_0 hx.2.2.1 _ _).1
          · exact (wrX_0 hx.2.2.1 _ _).2.trans hx.1.1
        · have hd : stT (tok n f (c.1 1 0)) c = ((xN c.1 0 (0) (0)), c.2.1, c.2.2) := by
            rw [h1]; unfold a1
            rw [if_pos (show (tok n f (c.1 1 0)).1 = 0 from k0), if_neg hN0]
          rw [hd] at hstep
          generalize hdd : ((xN c.1 0 (0) (0)), c.2.1, c.2.2) = d at hstep
          have d0 : d.1 2 0 = 0 := by rw [← hdd]; exact h0
          have ds : d.1 0 0 = 0 := by rw [← hdd]; rfl
          have hRd := hR.trans hstep
          have hAd := AI_Rc AI_0 hRd
          have hJd := AJ_Rc hx.hf.1 hx.hf.2 (AJ_0 n) hRd
          have hLd := AL_Rc AI_0 AL_0 hRd
          have hUd : AU d := by
            obtain ⟨i, rfl⟩ := hRd
            exact AU_ait i AU_0
          have hE3 : E3c d 0 := by
            have := hLd.2.2 d0
            unfold E3 at this
            rw [ds] at this; exact this
          have hSM : SM c d := ⟨fun a h1 _ _ _ _ _ => by rw [← hdd]; show xN c.1 0 0 0 a = c.1 a; rw [xN_ne h1], by rw [← hdd]⟩
          have d4 : d.1 4 0 = (c.1 4 0) := by rw [← hdd]; rfl
          have d5 : d.1 5 0 = (c.1 5 0) := by rw [← hdd]; rfl
          have d7 : d.1 7 0 = (c.1 7 0) := by rw [← hdd]; rfl
          refine p_M_138E1 hx.2.2.1 t4 (by rw [hMN.1]; intro z; exact hN0 ((nI_eq (by omega) (by decide)).mp z)) hAd hJd hLd.2.1 hE3 hUd (NL_lt hAd hLd d0) d0 ⟨hx.2.2.1, hx.2.2.2.2.2.2.2.2.2, MGd_SM hM hSM, by rw [d4]; exact hMC.sm hSM, hMN.cg hSM.cg, by rw [d5]; exact hMR.sm hSM, by rw [d7]; exact hMW.sm hSM, fun _ h => absurd h (by omega)⟩ (fun z hz hq => hK z hz ⟨d, hstep, Or.inr ds, ?_⟩)
          unfold aEnd
          rw [if_pos d0]; exact hq
      · have hd : stT (tok n f (c.1 1 0)) c = wr (tok n f (c.1 1 0)) c := by
          rw [h1]; unfold a1
          rw [if_neg (show ¬ (tok n f (c.1 1 0)).1 = 0 from k0), if_neg (fun z => k1 z.1)]
        have hB := BAD_must hx h0 (by omega) hd
        exact p_M_138F hB.ne (fun z => k0 ((tk_4 hx).mp z)) (hK _ (PT.mu x).pg.pp hB.po)
set_option maxHeartbeats 1000000 in
/-- readPolicy -/
theorem sp_M_readPolicy (hT : MX x n f) (hK : ∀ z d, PP x z → RDN n f d → LPo d z → K none (mk σ0 m z)) : a_C G m_M_readPolicy 10 217 [.ref m] (mk σ0 m x) K := by
  have hn : n < 65536 := by have := hT.2.1; omega
  have hf : ∀ k, k < n → f k < 256 := fun k hk => (hT.2.2 k hk).2
  have hP0 : PP x (sI (sI (sI (sI (sI (sI (sI (sI (sI x 19 0) 24 0) 25 (-1)) 28 0) 34 0) 36 0) 43 0) 50 0) 52 0) := ⟨fun k hk => by
    show upd (upd (upd (upd (upd (upd (upd (upd (upd x.1 19 0) 24 0) 25 (-1)) 28 0) 34 0) 36 0) 43 0) 50 0) 52 0 k = x.1 k
    rw [pk_un (by omega), pk_un (by omega), pk_un (by omega), pk_un (by omega), pk_un (by omega), pk_un (by omega), pk_un (by omega), pk_un (by omega), pk_un (by omega)], fun _ _ _ _ => rfl⟩
  have hT0 : MX (sI (sI (sI (sI (sI (sI (sI (sI (sI x 19 0) 24 0) 25 (-1)) 28 0) 34 0) 36 0) 43 0) 50 0) 52 0) n f := ⟨(hP0.1 18 (by decide)).trans hT.1, hT.2⟩
  refine p_M_0 hT0 (fun y hy => ?_)
  have hN := NX_LKA hT0 (Nat.zero_le n) rfl rfl hy
  have fin : ∀ z, PP y z → PO2 n f aC0 z → K none (mk σ0 m z) := fun z hz ⟨d, h1, h2, h3⟩ => hK z (aEnd d) ((hP0.trans hy.pt.pg.pp).trans hz) ⟨d, h1, h2, rfl⟩ h3
  by_cases z : lxK n f 0 = 5
  · have g := hN.2 z
    have hB : BAD n f aC0 y := BAD_brk rfl (by decide) (by decide) z g.1 g.2
    exact p_M_49B hB.ne (p_M_138B hB.ne (fin y PP.rf hB.po))
  · have hl := hN.1 z
    have e := hy.pt.2
    refine lp_M_pol (n + 1) aC0 y (by show n < 0 + (n + 1); omega) aRc.rf hl rfl rfl ⟨?_, ?_, fun _ h => absurd h (Nat.not_lt_zero _), fun _ h => absurd h (Nat.not_lt_zero _)⟩ ⟨?_, fun _ h => absurd h (Nat.not_lt_zero _)⟩ ⟨?_, fun _ h => absurd h (Nat.not_lt_zero _)⟩ ⟨?_, fun _ h => absurd h (Nat.not_lt_zero _)⟩ ⟨?_, fun _ h => absurd h (Nat.not_lt_zero _)⟩ fin
    · exact e 50 (by decide) (by decide) (by decide) (by decide) (by decide)
    · exact e 52 (by decide) (by decide) (by decide) (by decide) (by decide)
    · exact e 28 (by decide) (by decide) (by decide) (by decide) (by decide)
    · exact e 36 (by decide) (by decide) (by decide) (by decide) (by decide)
    · exact e 34 (by decide) (by decide) (by decide) (by decide) (by decide)
    · exact e 43 (by decide) (by decide) (by decide) (by decide) (by decide)
end ModM22
