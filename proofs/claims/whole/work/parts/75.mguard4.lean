/-! THE MODEL's readGuard: which -/
section ModM11
variable {G : aG} {μ : aM} {d lo pc : Nat} {lv : List (Nat × Value)} {st : List Value} {σ0 : aS} {K : Option Value → aS → Prop} {m n : Nat} {f : Nat → Nat} {x : aX} {c : aN}
theorem m_zaldv {a : Nat} {i v : Int32} (hd : decode μ.2.1 pc = .ok (.baload, 1)) (ha : 1 ≤ a ∧ a ≤ 31) (ht : mT a = 2) (hin : vp_in i (mN a)) (hv : x.2.2.1 a i.toNatClampNeg = v) (kk : a_J G μ d lo (pc + 1) lv (.int v :: st) (mk σ0 m x) K) : a_J G μ d lo pc lv (.int i :: .ref (m + a) :: st) (mk σ0 m x) K := m_zald hd ha ht hin (by rw [hv]; exact kk)
set_option maxHeartbeats 1000000 in
set_option maxRecDepth 100000 in
theorem g_M_108B {w t : Int32} {g : Nat} (hg : x.1 50 = nI g) (hg9 : g < 900) (h0 : ¬ x.1 24 = 0) (hK : K none (mk σ0 m x)) : a_J G m_M_readGuard 7 149 108 [(0, .ref m), (1, .int w), (2, .int t)] [] (mk σ0 m x) K := by
  refine a_aload_n d_M_readGuard_108 rfl rfl ?_
  refine m_get d_M_readGuard_109 f_M_88 rfl ?_
  refine a_aload_n d_M_readGuard_112 rfl rfl ?_
  refine m_get (v := .int (nI g)) d_M_readGuard_113 f_M_248 (congrArg (fun z => some (Value.int z)) hg) ?_
  refine m_zaldv (v := (x.2.2.1 25 g)) d_M_readGuard_116 (by decide) rfl (vp_in_nI (show g < 900 by omega) (by decide)) (by rw [nI_clamp (show g < 2 ^ 31 by omega)]) ?_
  refine a_if_eq (tgt := 150) d_M_readGuard_117 (by decide) (fun c_1 => ?_) (fun c_1 => ?_)
  · refine a_aload_n d_M_readGuard_150 rfl rfl ?_
    refine a_aload_n d_M_readGuard_151 rfl rfl ?_
    refine m_get d_M_readGuard_152 f_M_149 rfl ?_
    refine a_iconst (v := 3) d_M_readGuard_155 (by decide) ?_
    refine a_icmp_ne (tgt := 183) d_M_readGuard_156 (by decide) (fun c_2 => ?_) (fun c_2 => ?_)
    · refine a_iconst (v := 0) d_M_readGuard_183 (by decide) ?_
      apply a_callV (ci := 7) 1 22 [_] _ d_M_readGuard_184 l_M_229 ⟨im_M_must, se_M_must⟩ rfl rfl rfl rfl (Nat.le_of_ble_eq_true rfl) ⟨Nat.le_of_ble_eq_true rfl, Nat.le_of_ble_eq_true rfl⟩
      · (exact mk_O)
      refine sp_M_mustB h0 ?_
      refine a_if_ne (tgt := 191) d_M_readGuard_187 (by decide) (fun n9 => absurd (rfl) n9) (fun c_3 => ?_)
      exact a_return d_M_readGuard_190 rfl hK
    · refine a_aload_n d_M_readGuard_159 rfl rfl ?_
      refine m_get d_M_readGuard_160 f_M_180 rfl ?_
      refine a_lconst (v := 0) d_M_readGuard_163 (by decide) ?_
      refine a_lcmp d_M_readGuard_164 ?_
      refine a_if_lt (tgt := 183) d_M_readGuard_165 (by decide) (fun c_4 => ?_) (fun c_4 => ?_)
      · refine a_iconst (v := 0) d_M_readGuard_183 (by decide) ?_
        apply a_callV (ci := 7) 1 22 [_] _ d_M_readGuard_184 l_M_229 ⟨im_M_must, se_M_must⟩ rfl rfl rfl rfl (Nat.le_of_ble_eq_true rfl) ⟨Nat.le_of_ble_eq_true rfl, Nat.le_of_ble_eq_true rfl⟩
        · (exact mk_O)
        refine sp_M_mustB h0 ?_
        refine a_if_ne (tgt := 191) d_M_readGuard_187 (by decide) (fun n9 => absurd (rfl) n9) (fun c_5 => ?_)
        exact a_return d_M_readGuard_190 rfl hK
      · refine a_aload_n d_M_readGuard_168 rfl rfl ?_
        refine m_get d_M_readGuard_169 f_M_180 rfl ?_
        refine a_ldc2 d_M_readGuard_172 k_M_293 ?_
        refine a_lcmp d_M_readGuard_175 ?_
        refine a_if_ge (tgt := 183) d_M_readGuard_176 (by decide) (fun c_6 => ?_) (fun c_6 => ?_)
        · refine a_iconst (v := 0) d_M_readGuard_183 (by decide) ?_
          apply a_callV (ci := 7) 1 22 [_] _ d_M_readGuard_184 l_M_229 ⟨im_M_must, se_M_must⟩ rfl rfl rfl rfl (Nat.le_of_ble_eq_true rfl) ⟨Nat.le_of_ble_eq_true rfl, Nat.le_of_ble_eq_true rfl⟩
          · (exact mk_O)
          refine sp_M_mustB h0 ?_
          refine a_if_ne (tgt := 191) d_M_readGuard_187 (by decide) (fun n9 => absurd (rfl) n9) (fun c_7 => ?_)
          exact a_return d_M_readGuard_190 rfl hK
        · refine a_iconst (v := 1) d_M_readGuard_179 (by decide) ?_
          refine a_goto (tgt := 184) d_M_readGuard_180 (by decide) ?_
          apply a_callV (ci := 7) 1 22 [_] _ d_M_readGuard_184 l_M_229 ⟨im_M_must, se_M_must⟩ rfl rfl rfl rfl (Nat.le_of_ble_eq_true rfl) ⟨Nat.le_of_ble_eq_true rfl, Nat.le_of_ble_eq_true rfl⟩
          · (exact mk_O)
          refine sp_M_mustB h0 ?_
          refine a_if_ne (tgt := 191) d_M_readGuard_187 (by decide) (fun n9 => absurd (rfl) n9) (fun c_8 => ?_)
          exact a_return d_M_readGuard_190 rfl hK
  · refine a_aload_n d_M_readGuard_120 rfl rfl ?_
    refine a_aload_n d_M_readGuard_121 rfl rfl ?_
    refine m_get d_M_readGuard_122 f_M_149 rfl ?_
    refine a_iconst (v := 2) d_M_readGuard_125 (by decide) ?_
    refine a_icmp_ne (tgt := 140) d_M_readGuard_126 (by decide) (fun c_9 => ?_) (fun c_9 => ?_)
    · refine a_iconst (v := 0) d_M_readGuard_140 (by decide) ?_
      apply a_callV (ci := 7) 1 22 [_] _ d_M_readGuard_141 l_M_229 ⟨im_M_must, se_M_must⟩ rfl rfl rfl rfl (Nat.le_of_ble_eq_true rfl) ⟨Nat.le_of_ble_eq_true rfl, Nat.le_of_ble_eq_true rfl⟩
      · (exact mk_O)
      refine sp_M_mustB h0 ?_
      refine a_if_ne (tgt := 191) d_M_readGuard_144 (by decide) (fun n9 => absurd (rfl) n9) (fun c_10 => ?_)
      refine a_goto (tgt := 190) d_M_readGuard_147 (by decide) ?_
      exact a_return d_M_readGuard_190 rfl hK
    · refine a_aload_n d_M_readGuard_129 rfl rfl ?_
      apply a_callV (ci := 7) 6 129 [] _ d_M_readGuard_130 l_M_263 ⟨im_M_isReserved, se_M_isReserved⟩ rfl rfl rfl rfl (Nat.le_of_ble_eq_true rfl) ⟨Nat.le_of_ble_eq_true rfl, Nat.le_of_ble_eq_true rfl⟩
      · (exact mk_O)
      refine sp_M_isReserved ?_
      refine a_if_ne (tgt := 140) d_M_readGuard_133 (by decide) (fun c_11 => ?_) (fun c_11 => ?_)
      · refine a_iconst (v := 0) d_M_readGuard_140 (by decide) ?_
        apply a_callV (ci := 7) 1 22 [_] _ d_M_readGuard_141 l_M_229 ⟨im_M_must, se_M_must⟩ rfl rfl rfl rfl (Nat.le_of_ble_eq_true rfl) ⟨Nat.le_of_ble_eq_true rfl, Nat.le_of_ble_eq_true rfl⟩
        · (exact mk_O)
        refine sp_M_mustB h0 ?_
        refine a_if_ne (tgt := 191) d_M_readGuard_144 (by decide) (fun n9 => absurd (rfl) n9) (fun c_12 => ?_)
        refine a_goto (tgt := 190) d_M_readGuard_147 (by decide) ?_
        exact a_return d_M_readGuard_190 rfl hK
      · refine a_iconst (v := 1) d_M_readGuard_136 (by decide) ?_
        refine a_goto (tgt := 141) d_M_readGuard_137 (by decide) ?_
        apply a_callV (ci := 7) 1 22 [_] _ d_M_readGuard_141 l_M_229 ⟨im_M_must, se_M_must⟩ rfl rfl rfl rfl (Nat.le_of_ble_eq_true rfl) ⟨Nat.le_of_ble_eq_true rfl, Nat.le_of_ble_eq_true rfl⟩
        · (exact mk_O)
        refine sp_M_mustB h0 ?_
        refine a_if_ne (tgt := 191) d_M_readGuard_144 (by decide) (fun n9 => absurd (rfl) n9) (fun c_13 => ?_)
        refine a_goto (tgt := 190) d_M_readGuard_147 (by decide) ?_
        exact a_return d_M_readGuard_190 rfl hK

set_option maxHeartbeats 1000000 in
set_option maxRecDepth 100000 in
theorem g_M_108T1 {w t : Int32} {g l a : Nat} (hT : MX x n f) (hA : x.1 19 = nI a) (ha : a ≤ n) (h0 : x.1 24 = 0) (ht : (x.1 20 = 2 ∧ mR x = 0)) (hg : x.1 50 = nI g) (hg9 : g < 900) (hl : x.1 52 = nI l) (hl2 : l < 1250) (hoc : x.2.2.1 25 g = 1) (hK : ∀ y, NX n f a (ntX (sA (sB x 27 g (x.2.1 22)) 26 g 0) l 0 (nI g) w) y → a_J G m_M_readGuard 7 149 264 [(0, .ref m), (1, .int w), (2, .int t)] [] (mk σ0 m y) K) : a_J G m_M_readGuard 7 149 108 [(0, .ref m), (1, .int w), (2, .int t)] [] (mk σ0 m x) K := by
  refine a_aload_n d_M_readGuard_108 rfl rfl ?_
  refine m_get d_M_readGuard_109 f_M_88 rfl ?_
  refine a_aload_n d_M_readGuard_112 rfl rfl ?_
  refine m_get (v := .int (nI g)) d_M_readGuard_113 f_M_248 (congrArg (fun z => some (Value.int z)) hg) ?_
  refine m_zaldv (v := 1) d_M_readGuard_116 (by decide) rfl (vp_in_nI (show g < 900 by omega) (by decide)) (by rw [nI_clamp (show g < 2 ^ 31 by omega)]; exact hoc) ?_
  refine a_if_eq (tgt := 150) d_M_readGuard_117 (by decide) (fun n9 => absurd n9 (by decide)) (fun c_1 => ?_)
  refine a_aload_n d_M_readGuard_120 rfl rfl ?_
  refine a_aload_n d_M_readGuard_121 rfl rfl ?_
  refine m_get d_M_readGuard_122 f_M_149 rfl ?_
  refine a_iconst (v := 2) d_M_readGuard_125 (by decide) ?_
  refine a_icmp_ne (tgt := 140) d_M_readGuard_126 (by decide) (fun n9 => absurd (ht.1) n9) (fun c_2 => ?_)
  refine a_aload_n d_M_readGuard_129 rfl rfl ?_
  apply a_callV (ci := 7) 6 129 [] _ d_M_readGuard_130 l_M_263 ⟨im_M_isReserved, se_M_isReserved⟩ rfl rfl rfl rfl (Nat.le_of_ble_eq_true rfl) ⟨Nat.le_of_ble_eq_true rfl, Nat.le_of_ble_eq_true rfl⟩
  · (exact mk_O)
  refine sp_M_isReserved ?_
  refine a_if_ne (tgt := 140) d_M_readGuard_133 (by decide) (fun n9 => absurd (ht.2) n9) (fun c_3 => ?_)
  refine a_iconst (v := 1) d_M_readGuard_136 (by decide) ?_
  refine a_goto (tgt := 141) d_M_readGuard_137 (by decide) ?_
  apply a_callV (ci := 7) 1 22 [_] _ d_M_readGuard_141 l_M_229 ⟨im_M_must, se_M_must⟩ rfl rfl rfl rfl (Nat.le_of_ble_eq_true rfl) ⟨Nat.le_of_ble_eq_true rfl, Nat.le_of_ble_eq_true rfl⟩
  · (exact mk_O)
  refine sp_M_mustT (by decide) h0 ?_
  refine a_if_ne (tgt := 191) d_M_readGuard_144 (by decide) (fun c_4 => ?_) (fun n9 => absurd n9 (by decide))
  refine a_aload_n d_M_readGuard_191 rfl rfl ?_
  refine m_get d_M_readGuard_192 f_M_94 rfl ?_
  refine a_aload_n d_M_readGuard_195 rfl rfl ?_
  refine m_get (v := .int (nI g)) d_M_readGuard_196 f_M_248 (congrArg (fun z => some (Value.int z)) hg) ?_
  refine a_aload_n d_M_readGuard_199 rfl rfl ?_
  refine m_get d_M_readGuard_200 f_M_166 rfl ?_
  refine m_last d_M_readGuard_203 (by decide) rfl (vp_in_nI (show g < 900 by omega) (by decide)) ?_
  rw [nI_clamp (show g < 2 ^ 31 by omega)]
  refine a_aload_n d_M_readGuard_204 rfl rfl ?_
  refine m_get d_M_readGuard_205 f_M_91 rfl ?_
  refine a_aload_n d_M_readGuard_208 rfl rfl ?_
  refine m_get (v := .int (nI g)) d_M_readGuard_209 f_M_248 (congrArg (fun z => some (Value.int z)) hg) ?_
  refine a_aload_n d_M_readGuard_212 rfl rfl ?_
  refine m_get d_M_readGuard_213 f_M_88 rfl ?_
  refine a_aload_n d_M_readGuard_216 rfl rfl ?_
  refine m_get (v := .int (nI g)) d_M_readGuard_217 f_M_248 (congrArg (fun z => some (Value.int z)) hg) ?_
  refine m_zaldv (v := 1) d_M_readGuard_220 (by decide) rfl (vp_in_nI (show g < 900 by omega) (by decide)) (by rw [nI_clamp (show g < 2 ^ 31 by omega)]; exact hoc) ?_
  refine a_if_eq (tgt := 228) d_M_readGuard_221 (by decide) (fun n9 => absurd n9 (by decide)) (fun c_5 => ?_)
  refine a_iconst (v := 0) d_M_readGuard_224 (by decide) ?_
  refine a_goto (tgt := 233) d_M_readGuard_225 (by decide) ?_
  refine m_iast d_M_readGuard_233 (by decide) rfl (vp_in_nI (show g < 900 by omega) (by decide)) ?_
  rw [nI_clamp (show g < 2 ^ 31 by omega)]
  refine a_aload_n d_M_readGuard_234 rfl rfl ?_
  refine a_aload_n d_M_readGuard_235 rfl rfl ?_
  refine m_get d_M_readGuard_236 f_M_88 rfl ?_
  refine a_aload_n d_M_readGuard_239 rfl rfl ?_
  refine m_get (v := .int (nI g)) d_M_readGuard_240 f_M_248 (congrArg (fun z => some (Value.int z)) hg) ?_
  refine m_zaldv (v := 1) d_M_readGuard_243 (by decide) rfl (vp_in_nI (show g < 900 by omega) (by decide)) (by rw [nI_clamp (show g < 2 ^ 31 by omega)]; exact hoc) ?_
  refine a_if_eq (tgt := 251) d_M_readGuard_244 (by decide) (fun n9 => absurd n9 (by decide)) (fun c_6 => ?_)
  refine a_iconst (v := 0) d_M_readGuard_247 (by decide) ?_
  refine a_goto (tgt := 252) d_M_readGuard_248 (by decide) ?_
  refine a_aload_n d_M_readGuard_252 rfl rfl ?_
  refine m_get (v := .int (nI g)) d_M_readGuard_253 f_M_248 (congrArg (fun z => some (Value.int z)) hg) ?_
  refine a_iload_n d_M_readGuard_256 rfl rfl ?_
  apply a_callV (ci := 7) 0 0 [_, _, _] _ d_M_readGuard_257 l_M_286 ⟨im_M_note, se_M_note⟩ rfl rfl rfl rfl (Nat.le_of_ble_eq_true rfl) ⟨Nat.le_of_ble_eq_true rfl, Nat.le_of_ble_eq_true rfl⟩
  · (exact mk_O)
  refine sp_M_note (l := l) hl hl2 ?_
  refine a_aload_n d_M_readGuard_260 rfl rfl ?_
  apply a_callV (ci := 7) 2 48 [] _ d_M_readGuard_261 l_M_233 ⟨im_M_next, se_M_next⟩ rfl rfl rfl rfl (Nat.le_of_ble_eq_true rfl) ⟨Nat.le_of_ble_eq_true rfl, Nat.le_of_ble_eq_true rfl⟩
  · (exact mk_O)
  refine sp_M_next (a := a) hT hA ha (fun y hy => ?_)
  exact a_lvk (hK y hy) ⟨rfl, rfl, rfl, trivial⟩

set_option maxHeartbeats 1000000 in
set_option maxRecDepth 100000 in
theorem g_M_108F1 {w t : Int32} {g : Nat} (ht : ¬ (x.1 20 = 2 ∧ mR x = 0)) (hg : x.1 50 = nI g) (hg9 : g < 900) (hoc : x.2.2.1 25 g = 1) (hK : K none (mk σ0 m (muX x 0))) : a_J G m_M_readGuard 7 149 108 [(0, .ref m), (1, .int w), (2, .int t)] [] (mk σ0 m x) K := by
  refine a_aload_n d_M_readGuard_108 rfl rfl ?_
  refine m_get d_M_readGuard_109 f_M_88 rfl ?_
  refine a_aload_n d_M_readGuard_112 rfl rfl ?_
  refine m_get (v := .int (nI g)) d_M_readGuard_113 f_M_248 (congrArg (fun z => some (Value.int z)) hg) ?_
  refine m_zaldv (v := 1) d_M_readGuard_116 (by decide) rfl (vp_in_nI (show g < 900 by omega) (by decide)) (by rw [nI_clamp (show g < 2 ^ 31 by omega)]; exact hoc) ?_
  refine a_if_eq (tgt := 150) d_M_readGuard_117 (by decide) (fun n9 => absurd n9 (by decide)) (fun c_1 => ?_)
  refine a_aload_n d_M_readGuard_120 rfl rfl ?_
  refine a_aload_n d_M_readGuard_121 rfl rfl ?_
  refine m_get d_M_readGuard_122 f_M_149 rfl ?_
  refine a_iconst (v := 2) d_M_readGuard_125 (by decide) ?_
  refine a_icmp_ne (tgt := 140) d_M_readGuard_126 (by decide) (fun c_2 => ?_) (fun c_2 => ?_)
  · refine a_iconst (v := 0) d_M_readGuard_140 (by decide) ?_
    apply a_callV (ci := 7) 1 22 [_] _ d_M_readGuard_141 l_M_229 ⟨im_M_must, se_M_must⟩ rfl rfl rfl rfl (Nat.le_of_ble_eq_true rfl) ⟨Nat.le_of_ble_eq_true rfl, Nat.le_of_ble_eq_true rfl⟩
    · (exact mk_O)
    refine sp_M_mustF rfl ?_
    refine a_if_ne (tgt := 191) d_M_readGuard_144 (by decide) (fun n9 => absurd (rfl) n9) (fun c_3 => ?_)
    refine a_goto (tgt := 190) d_M_readGuard_147 (by decide) ?_
    exact a_return d_M_readGuard_190 rfl hK
  · refine a_aload_n d_M_readGuard_129 rfl rfl ?_
    apply a_callV (ci := 7) 6 129 [] _ d_M_readGuard_130 l_M_263 ⟨im_M_isReserved, se_M_isReserved⟩ rfl rfl rfl rfl (Nat.le_of_ble_eq_true rfl) ⟨Nat.le_of_ble_eq_true rfl, Nat.le_of_ble_eq_true rfl⟩
    · (exact mk_O)
    refine sp_M_isReserved ?_
    refine a_if_ne (tgt := 140) d_M_readGuard_133 (by decide) (fun c_4 => ?_) (fun c_4 => ?_)
    · refine a_iconst (v := 0) d_M_readGuard_140 (by decide) ?_
      apply a_callV (ci := 7) 1 22 [_] _ d_M_readGuard_141 l_M_229 ⟨im_M_must, se_M_must⟩ rfl rfl rfl rfl (Nat.le_of_ble_eq_true rfl) ⟨Nat.le_of_ble_eq_true rfl, Nat.le_of_ble_eq_true rfl⟩
      · (exact mk_O)
      refine sp_M_mustF rfl ?_
      refine a_if_ne (tgt := 191) d_M_readGuard_144 (by decide) (fun n9 => absurd (rfl) n9) (fun c_5 => ?_)
      refine a_goto (tgt := 190) d_M_readGuard_147 (by decide) ?_
      exact a_return d_M_readGuard_190 rfl hK
    · exact absurd ⟨by first | assumption | exact Decidable.not_not.mp (by assumption), by first | assumption | exact Decidable.not_not.mp (by assumption)⟩ ht

set_option maxHeartbeats 1000000 in
set_option maxRecDepth 100000 in
theorem g_M_108T0 {w t : Int32} {g l a : Nat} (hT : MX x n f) (hA : x.1 19 = nI a) (ha : a ≤ n) (h0 : x.1 24 = 0) (ht : (x.1 20 = 3 ∧ 0 ≤ x.2.1 23 ∧ x.2.1 23 < 3)) (hg : x.1 50 = nI g) (hg9 : g < 900) (hl : x.1 52 = nI l) (hl2 : l < 1250) (hoc : x.2.2.1 25 g = 0) (hK : ∀ y, NX n f a (ntX (sA (sB x 27 g (x.2.1 22)) 26 g (x.2.1 23).toInt32) l 2 (nI g) w) y → a_J G m_M_readGuard 7 149 264 [(0, .ref m), (1, .int w), (2, .int t)] [] (mk σ0 m y) K) : a_J G m_M_readGuard 7 149 108 [(0, .ref m), (1, .int w), (2, .int t)] [] (mk σ0 m x) K := by
  refine a_aload_n d_M_readGuard_108 rfl rfl ?_
  refine m_get d_M_readGuard_109 f_M_88 rfl ?_
  refine a_aload_n d_M_readGuard_112 rfl rfl ?_
  refine m_get (v := .int (nI g)) d_M_readGuard_113 f_M_248 (congrArg (fun z => some (Value.int z)) hg) ?_
  refine m_zaldv (v := 0) d_M_readGuard_116 (by decide) rfl (vp_in_nI (show g < 900 by omega) (by decide)) (by rw [nI_clamp (show g < 2 ^ 31 by omega)]; exact hoc) ?_
  refine a_if_eq (tgt := 150) d_M_readGuard_117 (by decide) (fun c_1 => ?_) (fun n9 => absurd (rfl) n9)
  refine a_aload_n d_M_readGuard_150 rfl rfl ?_
  refine a_aload_n d_M_readGuard_151 rfl rfl ?_
  refine m_get d_M_readGuard_152 f_M_149 rfl ?_
  refine a_iconst (v := 3) d_M_readGuard_155 (by decide) ?_
  refine a_icmp_ne (tgt := 183) d_M_readGuard_156 (by decide) (fun n9 => absurd (ht.1) n9) (fun c_2 => ?_)
  refine a_aload_n d_M_readGuard_159 rfl rfl ?_
  refine m_get d_M_readGuard_160 f_M_180 rfl ?_
  refine a_lconst (v := 0) d_M_readGuard_163 (by decide) ?_
  refine a_lcmp d_M_readGuard_164 ?_
  refine a_if_lt (tgt := 183) d_M_readGuard_165 (by decide) (fun n9 => absurd n9 (fun z => absurd ((lg_cmp_lt _ _).mp z) (Int64.not_lt.mpr ht.2.1))) (fun c_3 => ?_)
  refine a_aload_n d_M_readGuard_168 rfl rfl ?_
  refine m_get d_M_readGuard_169 f_M_180 rfl ?_
  refine a_ldc2 d_M_readGuard_172 k_M_293 ?_
  refine a_lcmp d_M_readGuard_175 ?_
  refine a_if_ge (tgt := 183) d_M_readGuard_176 (by decide) (fun n9 => absurd n9 (fun z => absurd ((lg_cmp_ge _ _).mp z) (Int64.not_le.mpr ht.2.2))) (fun c_4 => ?_)
  refine a_iconst (v := 1) d_M_readGuard_179 (by decide) ?_
  refine a_goto (tgt := 184) d_M_readGuard_180 (by decide) ?_
  apply a_callV (ci := 7) 1 22 [_] _ d_M_readGuard_184 l_M_229 ⟨im_M_must, se_M_must⟩ rfl rfl rfl rfl (Nat.le_of_ble_eq_true rfl) ⟨Nat.le_of_ble_eq_true rfl, Nat.le_of_ble_eq_true rfl⟩
  · (exact mk_O)
  refine sp_M_mustT (by decide) h0 ?_
  refine a_if_ne (tgt := 191) d_M_readGuard_187 (by decide) (fun c_5 => ?_) (fun n9 => absurd n9 (by decide))
  refine a_aload_n d_M_readGuard_191 rfl rfl ?_
  refine m_get d_M_readGuard_192 f_M_94 rfl ?_
  refine a_aload_n d_M_readGuard_195 rfl rfl ?_
  refine m_get (v := .int (nI g)) d_M_readGuard_196 f_M_248 (congrArg (fun z => some (Value.int z)) hg) ?_
  refine a_aload_n d_M_readGuard_199 rfl rfl ?_
  refine m_get d_M_readGuard_200 f_M_166 rfl ?_
  refine m_last d_M_readGuard_203 (by decide) rfl (vp_in_nI (show g < 900 by omega) (by decide)) ?_
  rw [nI_clamp (show g < 2 ^ 31 by omega)]
  refine a_aload_n d_M_readGuard_204 rfl rfl ?_
  refine m_get d_M_readGuard_205 f_M_91 rfl ?_
  refine a_aload_n d_M_readGuard_208 rfl rfl ?_
  refine m_get (v := .int (nI g)) d_M_readGuard_209 f_M_248 (congrArg (fun z => some (Value.int z)) hg) ?_
  refine a_aload_n d_M_readGuard_212 rfl rfl ?_
  refine m_get d_M_readGuard_213 f_M_88 rfl ?_
  refine a_aload_n d_M_readGuard_216 rfl rfl ?_
  refine m_get (v := .int (nI g)) d_M_readGuard_217 f_M_248 (congrArg (fun z => some (Value.int z)) hg) ?_
  refine m_zaldv (v := 0) d_M_readGuard_220 (by decide) rfl (vp_in_nI (show g < 900 by omega) (by decide)) (by rw [nI_clamp (show g < 2 ^ 31 by omega)]; exact hoc) ?_
  refine a_if_eq (tgt := 228) d_M_readGuard_221 (by decide) (fun c_6 => ?_) (fun n9 => absurd (rfl) n9)
  refine a_aload_n d_M_readGuard_228 rfl rfl ?_
  refine m_get d_M_readGuard_229 f_M_180 rfl ?_
  refine a_l2i d_M_readGuard_232 ?_
  refine m_iast d_M_readGuard_233 (by decide) rfl (vp_in_nI (show g < 900 by omega) (by decide)) ?_
  rw [nI_clamp (show g < 2 ^ 31 by omega)]
  refine a_aload_n d_M_readGuard_234 rfl rfl ?_
  refine a_aload_n d_M_readGuard_235 rfl rfl ?_
  refine m_get d_M_readGuard_236 f_M_88 rfl ?_
  refine a_aload_n d_M_readGuard_239 rfl rfl ?_
  refine m_get (v := .int (nI g)) d_M_readGuard_240 f_M_248 (congrArg (fun z => some (Value.int z)) hg) ?_
  refine m_zaldv (v := 0) d_M_readGuard_243 (by decide) rfl (vp_in_nI (show g < 900 by omega) (by decide)) (by rw [nI_clamp (show g < 2 ^ 31 by omega)]; exact hoc) ?_
  refine a_if_eq (tgt := 251) d_M_readGuard_244 (by decide) (fun c_7 => ?_) (fun n9 => absurd (rfl) n9)
  refine a_iconst (v := 2) d_M_readGuard_251 (by decide) ?_
  refine a_aload_n d_M_readGuard_252 rfl rfl ?_
  refine m_get (v := .int (nI g)) d_M_readGuard_253 f_M_248 (congrArg (fun z => some (Value.int z)) hg) ?_
  refine a_iload_n d_M_readGuard_256 rfl rfl ?_
  apply a_callV (ci := 7) 0 0 [_, _, _] _ d_M_readGuard_257 l_M_286 ⟨im_M_note, se_M_note⟩ rfl rfl rfl rfl (Nat.le_of_ble_eq_true rfl) ⟨Nat.le_of_ble_eq_true rfl, Nat.le_of_ble_eq_true rfl⟩
  · (exact mk_O)
  refine sp_M_note (l := l) hl hl2 ?_
  refine a_aload_n d_M_readGuard_260 rfl rfl ?_
  apply a_callV (ci := 7) 2 48 [] _ d_M_readGuard_261 l_M_233 ⟨im_M_next, se_M_next⟩ rfl rfl rfl rfl (Nat.le_of_ble_eq_true rfl) ⟨Nat.le_of_ble_eq_true rfl, Nat.le_of_ble_eq_true rfl⟩
  · (exact mk_O)
  refine sp_M_next (a := a) hT hA ha (fun y hy => ?_)
  exact a_lvk (hK y hy) ⟨rfl, rfl, rfl, trivial⟩

set_option maxHeartbeats 1000000 in
set_option maxRecDepth 100000 in
theorem g_M_108F0 {w t : Int32} {g : Nat} (ht : ¬ (x.1 20 = 3 ∧ 0 ≤ x.2.1 23 ∧ x.2.1 23 < 3)) (hg : x.1 50 = nI g) (hg9 : g < 900) (hoc : x.2.2.1 25 g = 0) (hK : K none (mk σ0 m (muX x 0))) : a_J G m_M_readGuard 7 149 108 [(0, .ref m), (1, .int w), (2, .int t)] [] (mk σ0 m x) K := by
  refine a_aload_n d_M_readGuard_108 rfl rfl ?_
  refine m_get d_M_readGuard_109 f_M_88 rfl ?_
  refine a_aload_n d_M_readGuard_112 rfl rfl ?_
  refine m_get (v := .int (nI g)) d_M_readGuard_113 f_M_248 (congrArg (fun z => some (Value.int z)) hg) ?_
  refine m_zaldv (v := 0) d_M_readGuard_116 (by decide) rfl (vp_in_nI (show g < 900 by omega) (by decide)) (by rw [nI_clamp (show g < 2 ^ 31 by omega)]; exact hoc) ?_
  refine a_if_eq (tgt := 150) d_M_readGuard_117 (by decide) (fun c_1 => ?_) (fun n9 => absurd (rfl) n9)
  refine a_aload_n d_M_readGuard_150 rfl rfl ?_
  refine a_aload_n d_M_readGuard_151 rfl rfl ?_
  refine m_get d_M_readGuard_152 f_M_149 rfl ?_
  refine a_iconst (v := 3) d_M_readGuard_155 (by decide) ?_
  refine a_icmp_ne (tgt := 183) d_M_readGuard_156 (by decide) (fun c_2 => ?_) (fun c_2 => ?_)
  · refine a_iconst (v := 0) d_M_readGuard_183 (by decide) ?_
    apply a_callV (ci := 7) 1 22 [_] _ d_M_readGuard_184 l_M_229 ⟨im_M_must, se_M_must⟩ rfl rfl rfl rfl (Nat.le_of_ble_eq_true rfl) ⟨Nat.le_of_ble_eq_true rfl, Nat.le_of_ble_eq_true rfl⟩
    · (exact mk_O)
    refine sp_M_mustF rfl ?_
    refine a_if_ne (tgt := 191) d_M_readGuard_187 (by decide) (fun n9 => absurd (rfl) n9) (fun c_3 => ?_)
    exact a_return d_M_readGuard_190 rfl hK
  · refine a_aload_n d_M_readGuard_159 rfl rfl ?_
    refine m_get d_M_readGuard_160 f_M_180 rfl ?_
    refine a_lconst (v := 0) d_M_readGuard_163 (by decide) ?_
    refine a_lcmp d_M_readGuard_164 ?_
    refine a_if_lt (tgt := 183) d_M_readGuard_165 (by decide) (fun c_4 => ?_) (fun c_4 => ?_)
    · refine a_iconst (v := 0) d_M_readGuard_183 (by decide) ?_
      apply a_callV (ci := 7) 1 22 [_] _ d_M_readGuard_184 l_M_229 ⟨im_M_must, se_M_must⟩ rfl rfl rfl rfl (Nat.le_of_ble_eq_true rfl) ⟨Nat.le_of_ble_eq_true rfl, Nat.le_of_ble_eq_true rfl⟩
      · (exact mk_O)
      refine sp_M_mustF rfl ?_
      refine a_if_ne (tgt := 191) d_M_readGuard_187 (by decide) (fun n9 => absurd (rfl) n9) (fun c_5 => ?_)
      exact a_return d_M_readGuard_190 rfl hK
    · refine a_aload_n d_M_readGuard_168 rfl rfl ?_
      refine m_get d_M_readGuard_169 f_M_180 rfl ?_
      refine a_ldc2 d_M_readGuard_172 k_M_293 ?_
      refine a_lcmp d_M_readGuard_175 ?_
      refine a_if_ge (tgt := 183) d_M_readGuard_176 (by decide) (fun c_6 => ?_) (fun c_6 => ?_)
      · refine a_iconst (v := 0) d_M_readGuard_183 (by decide) ?_
        apply a_callV (ci := 7) 1 22 [_] _ d_M_readGuard_184 l_M_229 ⟨im_M_must, se_M_must⟩ rfl rfl rfl rfl (Nat.le_of_ble_eq_true rfl) ⟨Nat.le_of_ble_eq_true rfl, Nat.le_of_ble_eq_true rfl⟩
        · (exact mk_O)
        refine sp_M_mustF rfl ?_
        refine a_if_ne (tgt := 191) d_M_readGuard_187 (by decide) (fun n9 => absurd (rfl) n9) (fun c_7 => ?_)
        exact a_return d_M_readGuard_190 rfl hK
      · exact absurd ⟨by first | assumption | exact Decidable.not_not.mp (by assumption), Int64.not_lt.mp (fun e => absurd ((lg_cmp_lt _ _).mpr e) (by assumption)), Int64.not_le.mp (fun e => absurd ((lg_cmp_ge _ _).mpr e) (by assumption))⟩ ht

set_option maxHeartbeats 2000000 in
theorem g_M_108_1 {w : Int32} (hx : LKA n f (c.1 1 0) x) (h0 : (c.1 2 0) = 0) (hs : (c.1 0 0) = 14) (hA : AI c) (hJ : AJ n c) (hNL : (c.1 9 0) < 1250) (hM : MGd c x) (hp : pd1 c x 1) (hw : w = ccF (acl c)) (hK : ∀ y, PG x y → GP n f c y → K none (mk σ0 m y)) : a_J G m_M_readGuard 7 149 108 [(0, .ref m), (1, .int w), (2, .int (nI (c.1 12 0)))] [] (mk σ0 m x) K := by
  have hle := lx_le n f hx.2.1
  have hNT := NT_lt hA
  have hst := stT_14 (tok n f (c.1 1 0)) hs
  by_cases w1 : fre (tok n f (c.1 1 0))
  · have hd : stT (tok n f (c.1 1 0)) c = (gt (tok n f (c.1 1 0)) (alk ((xN (xN (xN c.1 14 (0) (1)) 15 (0) (0)) 16 (0) ((tok n f (c.1 1 0)).2.1)), (xL c.2.1 4 (0) ((tok n f (c.1 1 0)).2.2.2.1)), c.2.2) 0 (c.1 8 0) (acl c) (tok n f (c.1 1 0)).2.1) 15) := by rw [hst]; unfold a14; rw [if_pos w1]
    refine g_M_108T1 hx.1 hx.2.2.2.2.1 hle.2.2.2 hx.2.2.1 ((F_iff hx).mpr w1) hM.1 (by omega) hM.2.1 hNL hp.1 (fun y hy => ?_)
    have hx3 : LKA n f (c.1 1 0) (ntX (sA (sB x 27 (c.1 8 0) (x.2.1 22)) 26 (c.1 8 0) 0) (c.1 9 0) 0 (nI (c.1 8 0)) w) := hx.keep (fun k h1 h2 => by show upd x.1 52 _ k = x.1 k; rw [pk_un (by omega)]) rfl rfl
    obtain ⟨hr, hl⟩ := step_LKA hx3 h0 (by omega) hd h0 (by show 1 ≤ 15; decide) (by show 15 ≤ 17; decide) rfl hy
    have hPG3 : PG x (ntX (sA (sB x 27 (c.1 8 0) (x.2.1 22)) 26 (c.1 8 0) 0) (c.1 9 0) 0 (nI (c.1 8 0)) w) := ⟨fun k _ _ _ _ _ _ g7 => by show upd x.1 52 _ k = x.1 k; rw [pk_un g7], fun a ha => ⟨by show updA (updA (updA (updA (updA x.2.2.1 26 _ _) 31 _ _) 31 _ _) 31 _ _) 31 _ _ a = x.2.2.1 a; rw [updA_ne (by omega), updA_ne (by omega), updA_ne (by omega), updA_ne (by omega), updA_ne (by omega)], if_neg (by omega)⟩⟩
    have hPGy : PG x y := hPG3.trans hy.pt.pg
    rcases hl with hl | ⟨hl1, hl2⟩
    · have hCG : CG c (gt (tok n f (c.1 1 0)) (alk ((xN (xN (xN c.1 14 (0) (1)) 15 (0) (0)) 16 (0) ((tok n f (c.1 1 0)).2.1)), (xL c.2.1 4 (0) ((tok n f (c.1 1 0)).2.2.2.1)), c.2.2) 0 (c.1 8 0) (acl c) (tok n f (c.1 1 0)).2.1) 15) := ⟨fun a ha => by show xN (xN (xN (xN (xN (xN (xN (xN (xN (xN c.1 14 _ _) 15 _ _) 16 _ _) 41 _ _) 42 _ _) 43 _ _) 44 _ _) 9 _ _) 0 _ _) 1 _ _ a = c.1 a; rw [xN_ne (by omega), xN_ne (by omega), xN_ne (by omega), xN_ne (by omega), xN_ne (by omega), xN_ne (by omega), xN_ne (by omega), xN_ne (by omega), xN_ne (by omega), xN_ne (by omega)], fun _ _ => rfl, fun _ _ => rfl, rfl, rfl, rfl⟩
      have hLK : ∀ i, ((ntX (sA (sB x 27 (c.1 8 0) (x.2.1 22)) 26 (c.1 8 0) 0) (c.1 9 0) 0 (nI (c.1 8 0)) w)).2.2.1 31 i = upd (upd (upd (upd (x.2.2.1 31) (4 * (c.1 9 0)) 0) (4 * (c.1 9 0) + 1) (nI (c.1 8 0))) (4 * (c.1 9 0) + 2) w) (4 * (c.1 9 0) + 3) (x.1 21) i := fun i => rfl
      have hMG : MGd (gt (tok n f (c.1 1 0)) (alk ((xN (xN (xN c.1 14 (0) (1)) 15 (0) (0)) 16 (0) ((tok n f (c.1 1 0)).2.1)), (xL c.2.1 4 (0) ((tok n f (c.1 1 0)).2.2.2.1)), c.2.2) 0 (c.1 8 0) (acl c) (tok n f (c.1 1 0)).2.1) 15) y := by
        refine MGd_PT (x := (ntX (sA (sB x 27 (c.1 8 0) (x.2.1 22)) 26 (c.1 8 0) 0) (c.1 9 0) 0 (nI (c.1 8 0)) w)) ⟨hM.1, by show nI ((c.1 9 0) + 1) = nI ((c.1 9 0) + 1); rfl, fun g hg => ?_, fun l hl => ?_⟩ hy.pt
        · have hg : g < (c.1 8 0) := hg
          have q := hM.2.2.1 g hg
          refine ⟨q.1, ?_, ?_, q.2.2.2.1, q.2.2.2.2.1, q.2.2.2.2.2⟩
          · show updA x.2.2.1 26 (c.1 8 0) 0 26 g = _
            rw [updA_eq, pk_un (by omega)]; exact q.2.1
          · intro hz
            show vp_updL (x.2.2.2 27) (c.1 8 0) (x.2.1 22) g = _
            rw [pk_uLn (by omega)]; exact q.2.2.1 hz
        · have hl : l < (c.1 9 0) + 1 := hl
          unfold lOK
          rw [hLK, hLK, hLK, hLK]
          show _ = nI (if l = (c.1 9 0) then 0 else c.1 41 (l)) ∧ _ = nI (if l = (c.1 9 0) then (c.1 8 0) else c.1 42 (l)) ∧ _ = ccF (if l = (c.1 9 0) then acl c else c.1 43 (l)) ∧ _ = nI (if l = (c.1 9 0) then (tok n f (c.1 1 0)).2.1 else c.1 44 (l))
          by_cases e : l = (c.1 9 0)
          · rw [if_pos e, if_pos e, if_pos e, if_pos e, e]
            rw [pk_un (by omega), pk_un (by omega), pk_un (by omega), pk_us, pk_un (by omega), pk_un (by omega), pk_us, pk_un (by omega), pk_us, pk_us]
            exact ⟨rfl, rfl, hw, hx.2.2.2.2.2.1⟩
          · rw [if_neg e, if_neg e, if_neg e, if_neg e]
            rw [pk_un (by omega), pk_un (by omega), pk_un (by omega), pk_un (by omega), pk_un (by omega), pk_un (by omega), pk_un (by omega), pk_un (by omega), pk_un (by omega), pk_un (by omega), pk_un (by omega), pk_un (by omega), pk_un (by omega), pk_un (by omega), pk_un (by omega), pk_un (by omega)]
            exact hM.2.2.2 l (by omega)
      have ey := hy.pt.1
      have hp2 : pd2 (gt (tok n f (c.1 1 0)) (alk ((xN (xN (xN c.1 14 (0) (1)) 15 (0) (0)) 16 (0) ((tok n f (c.1 1 0)).2.1)), (xL c.2.1 4 (0) ((tok n f (c.1 1 0)).2.2.2.1)), c.2.2) 0 (c.1 8 0) (acl c) (tok n f (c.1 1 0)).2.1) 15) y := by
        refine ⟨⟨by rw [ey]; exact hp.1, by rw [ey]; exact hp.2⟩, ?_, fun hz => ?_⟩
        · rw [ey]
          show updA x.2.2.1 26 (c.1 8 0) 0 26 (c.1 8 0) = nI (0)
          rw [updA_eq, pk_us]
          rfl
        · rw [ey]
          show vp_updL (x.2.2.2 27) (c.1 8 0) (x.2.1 22) (c.1 8 0) = e27 (tok n f (c.1 1 0)).2.2.2.1
          rw [pk_uLs]; exact hx.2.2.2.2.2.2.2.1 w1.1
      exact g_M_264 (c := (gt (tok n f (c.1 1 0)) (alk ((xN (xN (xN c.1 14 (0) (1)) 15 (0) (0)) 16 (0) ((tok n f (c.1 1 0)).2.1)), (xL c.2.1 4 (0) ((tok n f (c.1 1 0)).2.2.2.1)), c.2.2) 0 (c.1 8 0) (acl c) (tok n f (c.1 1 0)).2.1) 15)) hl h0 rfl (AI_Rc hA hr) (AJ_Rc hx.hf.1 hx.hf.2 hJ hr) hMG hp2 (fun z hz hq => hK z (hPGy.trans hz) (hq.of hr hCG rfl))
    · exact g_M_264B hl1.ne (hK y hPGy (Or.inr ⟨hl1, hl2⟩))
  · have hd : stT (tok n f (c.1 1 0)) c = wr (tok n f (c.1 1 0)) c := by rw [hst]; unfold a14; rw [if_neg w1]
    exact g_M_108F1 (fun z => w1 ((F_iff hx).mp z)) hM.1 (by omega) hp.1 (hK _ (PT.mu x).pg (Or.inr ⟨BAD_must hx h0 (by omega) hd, (PT.mu x).mx hx.1⟩))
set_option maxHeartbeats 2000000 in
theorem g_M_108_0 {w : Int32} (hx : LKA n f (c.1 1 0) x) (h0 : (c.1 2 0) = 0) (hs : (c.1 0 0) = 13) (hA : AI c) (hJ : AJ n c) (hNL : (c.1 9 0) < 1250) (hM : MGd c x) (hp : pd1 c x 0) (hw : w = ccF (acl c)) (hK : ∀ y, PG x y → GP n f c y → K none (mk σ0 m y)) : a_J G m_M_readGuard 7 149 108 [(0, .ref m), (1, .int w), (2, .int (nI (c.1 12 0)))] [] (mk σ0 m x) K := by
  have hle := lx_le n f hx.2.1
  have hNT := NT_lt hA
  have hst := stT_13 (tok n f (c.1 1 0)) hs
  have hnum : (x.1 20 = 3 ∧ 0 ≤ x.2.1 23 ∧ x.2.1 23 < 3) ↔ ((tok n f (c.1 1 0)).1 = 4 ∧ 0 ≤ (tok n f (c.1 1 0)).2.2.2.2 ∧ (tok n f (c.1 1 0)).2.2.2.2 ≤ 2) := by
    rw [tk_3 hx]
    constructor
    · intro g
      have e := hx.2.2.2.2.2.2.2.2.1 g.1
      rw [e] at g
      have g2 : tkV n f (c.1 1 0) < 3 := (i64_lt _ 3).mp g.2.2
      refine ⟨g.1, (i64_le 0 _).mp g.2.1, ?_⟩
      show tkV n f (c.1 1 0) ≤ 2
      rw [Int32.lt_iff_toInt_lt] at g2
      rw [Int32.le_iff_toInt_le]
      have e3 : (3 : Int32).toInt = 3 := by decide
      have e2 : (2 : Int32).toInt = 2 := by decide
      omega
    · intro g
      have e := hx.2.2.2.2.2.2.2.2.1 g.1
      rw [e]
      have g2 : tkV n f (c.1 1 0) ≤ 2 := g.2.2
      refine ⟨g.1, (i64_le 0 _).mpr g.2.1, (i64_lt _ 3).mpr ?_⟩
      rw [Int32.le_iff_toInt_le] at g2
      rw [Int32.lt_iff_toInt_lt]
      have e3 : (3 : Int32).toInt = 3 := by decide
      have e2 : (2 : Int32).toInt = 2 := by decide
      omega
  by_cases w1 : ((tok n f (c.1 1 0)).1 = 4 ∧ 0 ≤ (tok n f (c.1 1 0)).2.2.2.2 ∧ (tok n f (c.1 1 0)).2.2.2.2 ≤ 2)
  · have hd : stT (tok n f (c.1 1 0)) c = (gt (tok n f (c.1 1 0)) (alk ((xN (xN (xN c.1 14 (0) (0)) 15 (0) ((tok n f (c.1 1 0)).2.2.2.2.toNatClampNeg)) 16 (0) ((tok n f (c.1 1 0)).2.1)), c.2.1, c.2.2) 2 (c.1 8 0) (acl c) (tok n f (c.1 1 0)).2.1) 15) := by rw [hst]; unfold a13; rw [if_pos w1]
    refine g_M_108T0 hx.1 hx.2.2.2.2.1 hle.2.2.2 hx.2.2.1 (hnum.mpr w1) hM.1 (by omega) hM.2.1 hNL hp.1 (fun y hy => ?_)
    have hx3 : LKA n f (c.1 1 0) (ntX (sA (sB x 27 (c.1 8 0) (x.2.1 22)) 26 (c.1 8 0) (x.2.1 23).toInt32) (c.1 9 0) 2 (nI (c.1 8 0)) w) := hx.keep (fun k h1 h2 => by show upd x.1 52 _ k = x.1 k; rw [pk_un (by omega)]) rfl rfl
    obtain ⟨hr, hl⟩ := step_LKA hx3 h0 (by omega) hd h0 (by show 1 ≤ 15; decide) (by show 15 ≤ 17; decide) rfl hy
    have hPG3 : PG x (ntX (sA (sB x 27 (c.1 8 0) (x.2.1 22)) 26 (c.1 8 0) (x.2.1 23).toInt32) (c.1 9 0) 2 (nI (c.1 8 0)) w) := ⟨fun k _ _ _ _ _ _ g7 => by show upd x.1 52 _ k = x.1 k; rw [pk_un g7], fun a ha => ⟨by show updA (updA (updA (updA (updA x.2.2.1 26 _ _) 31 _ _) 31 _ _) 31 _ _) 31 _ _ a = x.2.2.1 a; rw [updA_ne (by omega), updA_ne (by omega), updA_ne (by omega), updA_ne (by omega), updA_ne (by omega)], if_neg (by omega)⟩⟩
    have hPGy : PG x y := hPG3.trans hy.pt.pg
    rcases hl with hl | ⟨hl1, hl2⟩
    · have hCG : CG c (gt (tok n f (c.1 1 0)) (alk ((xN (xN (xN c.1 14 (0) (0)) 15 (0) ((tok n f (c.1 1 0)).2.2.2.2.toNatClampNeg)) 16 (0) ((tok n f (c.1 1 0)).2.1)), c.2.1, c.2.2) 2 (c.1 8 0) (acl c) (tok n f (c.1 1 0)).2.1) 15) := ⟨fun a ha => by show xN (xN (xN (xN (xN (xN (xN (xN (xN (xN c.1 14 _ _) 15 _ _) 16 _ _) 41 _ _) 42 _ _) 43 _ _) 44 _ _) 9 _ _) 0 _ _) 1 _ _ a = c.1 a; rw [xN_ne (by omega), xN_ne (by omega), xN_ne (by omega), xN_ne (by omega), xN_ne (by omega), xN_ne (by omega), xN_ne (by omega), xN_ne (by omega), xN_ne (by omega), xN_ne (by omega)], fun _ _ => rfl, fun _ _ => rfl, rfl, rfl, rfl⟩
      have hLK : ∀ i, ((ntX (sA (sB x 27 (c.1 8 0) (x.2.1 22)) 26 (c.1 8 0) (x.2.1 23).toInt32) (c.1 9 0) 2 (nI (c.1 8 0)) w)).2.2.1 31 i = upd (upd (upd (upd (x.2.2.1 31) (4 * (c.1 9 0)) 2) (4 * (c.1 9 0) + 1) (nI (c.1 8 0))) (4 * (c.1 9 0) + 2) w) (4 * (c.1 9 0) + 3) (x.1 21) i := fun i => rfl
      have hMG : MGd (gt (tok n f (c.1 1 0)) (alk ((xN (xN (xN c.1 14 (0) (0)) 15 (0) ((tok n f (c.1 1 0)).2.2.2.2.toNatClampNeg)) 16 (0) ((tok n f (c.1 1 0)).2.1)), c.2.1, c.2.2) 2 (c.1 8 0) (acl c) (tok n f (c.1 1 0)).2.1) 15) y := by
        refine MGd_PT (x := (ntX (sA (sB x 27 (c.1 8 0) (x.2.1 22)) 26 (c.1 8 0) (x.2.1 23).toInt32) (c.1 9 0) 2 (nI (c.1 8 0)) w)) ⟨hM.1, by show nI ((c.1 9 0) + 1) = nI ((c.1 9 0) + 1); rfl, fun g hg => ?_, fun l hl => ?_⟩ hy.pt
        · have hg : g < (c.1 8 0) := hg
          have q := hM.2.2.1 g hg
          refine ⟨q.1, ?_, ?_, q.2.2.2.1, q.2.2.2.2.1, q.2.2.2.2.2⟩
          · show updA x.2.2.1 26 (c.1 8 0) (x.2.1 23).toInt32 26 g = _
            rw [updA_eq, pk_un (by omega)]; exact q.2.1
          · intro hz
            show vp_updL (x.2.2.2 27) (c.1 8 0) (x.2.1 22) g = _
            rw [pk_uLn (by omega)]; exact q.2.2.1 hz
        · have hl : l < (c.1 9 0) + 1 := hl
          unfold lOK
          rw [hLK, hLK, hLK, hLK]
          show _ = nI (if l = (c.1 9 0) then 2 else c.1 41 (l)) ∧ _ = nI (if l = (c.1 9 0) then (c.1 8 0) else c.1 42 (l)) ∧ _ = ccF (if l = (c.1 9 0) then acl c else c.1 43 (l)) ∧ _ = nI (if l = (c.1 9 0) then (tok n f (c.1 1 0)).2.1 else c.1 44 (l))
          by_cases e : l = (c.1 9 0)
          · rw [if_pos e, if_pos e, if_pos e, if_pos e, e]
            rw [pk_un (by omega), pk_un (by omega), pk_un (by omega), pk_us, pk_un (by omega), pk_un (by omega), pk_us, pk_un (by omega), pk_us, pk_us]
            exact ⟨rfl, rfl, hw, hx.2.2.2.2.2.1⟩
          · rw [if_neg e, if_neg e, if_neg e, if_neg e]
            rw [pk_un (by omega), pk_un (by omega), pk_un (by omega), pk_un (by omega), pk_un (by omega), pk_un (by omega), pk_un (by omega), pk_un (by omega), pk_un (by omega), pk_un (by omega), pk_un (by omega), pk_un (by omega), pk_un (by omega), pk_un (by omega), pk_un (by omega), pk_un (by omega)]
            exact hM.2.2.2 l (by omega)
      have ey := hy.pt.1
      have hp2 : pd2 (gt (tok n f (c.1 1 0)) (alk ((xN (xN (xN c.1 14 (0) (0)) 15 (0) ((tok n f (c.1 1 0)).2.2.2.2.toNatClampNeg)) 16 (0) ((tok n f (c.1 1 0)).2.1)), c.2.1, c.2.2) 2 (c.1 8 0) (acl c) (tok n f (c.1 1 0)).2.1) 15) y := by
        refine ⟨⟨by rw [ey]; exact hp.1, by rw [ey]; exact hp.2⟩, ?_, fun hz => ?_⟩
        · rw [ey]
          show updA x.2.2.1 26 (c.1 8 0) (x.2.1 23).toInt32 26 (c.1 8 0) = nI ((tok n f (c.1 1 0)).2.2.2.2.toNatClampNeg)
          rw [updA_eq, pk_us]
          rw [hx.2.2.2.2.2.2.2.2.1 w1.1, i32_64]
          obtain ⟨j, hj, ej⟩ := nI_of2 (x := (tok n f (c.1 1 0)).2.2.2.2) (M := 2) (n := 2) rfl (fun g => absurd (Int32.lt_of_le_of_lt w1.2.1 g) (by decide)) w1.2.2
          show (tok n f (c.1 1 0)).2.2.2.2 = _
          rw [ej, nI_clamp (by omega)]
        · exact absurd (show 0 = 1 from hz) (by decide)
      exact g_M_264 (c := (gt (tok n f (c.1 1 0)) (alk ((xN (xN (xN c.1 14 (0) (0)) 15 (0) ((tok n f (c.1 1 0)).2.2.2.2.toNatClampNeg)) 16 (0) ((tok n f (c.1 1 0)).2.1)), c.2.1, c.2.2) 2 (c.1 8 0) (acl c) (tok n f (c.1 1 0)).2.1) 15)) hl h0 rfl (AI_Rc hA hr) (AJ_Rc hx.hf.1 hx.hf.2 hJ hr) hMG hp2 (fun z hz hq => hK z (hPGy.trans hz) (hq.of hr hCG rfl))
    · exact g_M_264B hl1.ne (hK y hPGy (Or.inr ⟨hl1, hl2⟩))
  · have hd : stT (tok n f (c.1 1 0)) c = wr (tok n f (c.1 1 0)) c := by rw [hst]; unfold a13; rw [if_neg w1]
    exact g_M_108F0 (fun z => w1 (hnum.mp z)) hM.1 (by omega) hp.1 (hK _ (PT.mu x).pg (Or.inr ⟨BAD_must hx h0 (by omega) hd, (PT.mu x).mx hx.1⟩))
end ModM11
