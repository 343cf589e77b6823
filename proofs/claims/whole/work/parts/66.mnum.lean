/-! THE MODEL's numbers -/
theorem i64_32 {z : Int64} (h1 : -2147483648 ≤ z.toInt) (h2 : z.toInt ≤ 2147483647) : z.toInt32.toInt64 = z := by
  apply Int64.toInt_inj.mp
  rw [Int32.toInt_toInt64, Int64.toInt_toInt32, Int.bmod_def]
  omega
section ModM3
variable {G : aG} {σ0 : aS} {K : Option Value → aS → Prop} {m n : Nat} {f : Nat → Nat} {x : aX}
set_option maxHeartbeats 1000000 in
set_option maxRecDepth 100000 in
theorem tl_M_num1 {e b g : Int32} {v : Int64} (hb : b = 0) (hK1 : (¬ g = 0 ∧ -2147483648 ≤ v ∧ v ≤ 2147483647) → K none (mk σ0 m (sJ x 23 v))) (hK0 : ¬ (¬ g = 0 ∧ -2147483648 ≤ v ∧ v ≤ 2147483647) → K none (mk σ0 m (wrX (sJ x 23 v) 1 (x.1 19)))) : a_J G m_M_takeNumber 1 22 129 [(0, .ref m), (1, .int e), (2, .int b), (3, .int g), (4, .long v)] [] (mk σ0 m x) K := by
  refine a_aload_n d_M_takeNumber_129 rfl rfl ?_
  refine a_iload_n d_M_takeNumber_130 rfl rfl ?_
  refine a_if_eq (tgt := 140) d_M_takeNumber_131 (by decide) (fun c_1 => ?_) (fun n9 => absurd (hb) n9)
  refine a_lload d_M_takeNumber_140 rfl ?_
  refine m_putJ d_M_takeNumber_142 p_M_180 rfl rfl (by decide) ?_
  refine a_iload_n d_M_takeNumber_145 rfl rfl ?_
  refine a_if_eq (tgt := 175) d_M_takeNumber_146 (by decide) (fun c_2 => ?_) (fun c_2 => ?_)
  · refine a_iconst (v := 0) d_M_takeNumber_175 (by decide) ?_
    refine a_istore_n d_M_takeNumber_176 rfl (by decide) ?_
    refine a_iload_n d_M_takeNumber_177 rfl rfl ?_
    refine a_if_ne (tgt := 190) d_M_takeNumber_178 (by decide) (fun c_3 => ?_) (fun c_3 => ?_)
    · refine a_return d_M_takeNumber_190 rfl ?_
      first | exact hK1 ⟨by assumption, Int64.not_lt.mp (fun e => absurd ((lg_cmp_lt _ _).mpr e) (by assumption)), Int64.not_lt.mp (fun e => absurd ((lg_cmp_gt _ _).mpr e) (by assumption))⟩ | exact hK0 (fun g => absurd (by assumption) g.1) | exact hK0 (fun g => absurd ((lg_cmp_lt _ _).mp (by assumption)) (Int64.not_lt.mpr g.2.1)) | exact hK0 (fun g => absurd ((lg_cmp_gt _ _).mp (by assumption)) (Int64.not_lt.mpr g.2.2)) | exact absurd rfl (by assumption) | exact absurd (by assumption) (by decide)
    · refine a_aload_n d_M_takeNumber_181 rfl rfl ?_
      refine a_iconst (v := 1) d_M_takeNumber_182 (by decide) ?_
      refine a_aload_n d_M_takeNumber_183 rfl rfl ?_
      refine m_get d_M_takeNumber_184 f_M_139 rfl ?_
      apply a_callV (ci := 7) 0 0 [_, _] _ d_M_takeNumber_187 l_M_155 ⟨im_M_wrong, se_M_wrong⟩ rfl rfl rfl rfl (Nat.le_of_ble_eq_true rfl) ⟨Nat.le_of_ble_eq_true rfl, Nat.le_of_ble_eq_true rfl⟩
      · (exact mk_O)
      refine sp_M_wrong ?_
      refine a_return d_M_takeNumber_190 rfl ?_
      first | exact hK1 ⟨by assumption, Int64.not_lt.mp (fun e => absurd ((lg_cmp_lt _ _).mpr e) (by assumption)), Int64.not_lt.mp (fun e => absurd ((lg_cmp_gt _ _).mpr e) (by assumption))⟩ | exact hK0 (fun g => absurd (by assumption) g.1) | exact hK0 (fun g => absurd ((lg_cmp_lt _ _).mp (by assumption)) (Int64.not_lt.mpr g.2.1)) | exact hK0 (fun g => absurd ((lg_cmp_gt _ _).mp (by assumption)) (Int64.not_lt.mpr g.2.2)) | exact absurd rfl (by assumption) | exact absurd (by assumption) (by decide)
  · refine a_aload_n d_M_takeNumber_149 rfl rfl ?_
    refine m_get d_M_takeNumber_150 f_M_180 rfl ?_
    refine a_ldc2 d_M_takeNumber_153 k_M_183 ?_
    refine a_lcmp d_M_takeNumber_156 ?_
    refine a_if_lt (tgt := 175) d_M_takeNumber_157 (by decide) (fun c_4 => ?_) (fun c_4 => ?_)
    · refine a_iconst (v := 0) d_M_takeNumber_175 (by decide) ?_
      refine a_istore_n d_M_takeNumber_176 rfl (by decide) ?_
      refine a_iload_n d_M_takeNumber_177 rfl rfl ?_
      refine a_if_ne (tgt := 190) d_M_takeNumber_178 (by decide) (fun c_5 => ?_) (fun c_5 => ?_)
      · refine a_return d_M_takeNumber_190 rfl ?_
        first | exact hK1 ⟨by assumption, Int64.not_lt.mp (fun e => absurd ((lg_cmp_lt _ _).mpr e) (by assumption)), Int64.not_lt.mp (fun e => absurd ((lg_cmp_gt _ _).mpr e) (by assumption))⟩ | exact hK0 (fun g => absurd (by assumption) g.1) | exact hK0 (fun g => absurd ((lg_cmp_lt _ _).mp (by assumption)) (Int64.not_lt.mpr g.2.1)) | exact hK0 (fun g => absurd ((lg_cmp_gt _ _).mp (by assumption)) (Int64.not_lt.mpr g.2.2)) | exact absurd rfl (by assumption) | exact absurd (by assumption) (by decide)
      · refine a_aload_n d_M_takeNumber_181 rfl rfl ?_
        refine a_iconst (v := 1) d_M_takeNumber_182 (by decide) ?_
        refine a_aload_n d_M_takeNumber_183 rfl rfl ?_
        refine m_get d_M_takeNumber_184 f_M_139 rfl ?_
        apply a_callV (ci := 7) 0 0 [_, _] _ d_M_takeNumber_187 l_M_155 ⟨im_M_wrong, se_M_wrong⟩ rfl rfl rfl rfl (Nat.le_of_ble_eq_true rfl) ⟨Nat.le_of_ble_eq_true rfl, Nat.le_of_ble_eq_true rfl⟩
        · (exact mk_O)
        refine sp_M_wrong ?_
        refine a_return d_M_takeNumber_190 rfl ?_
        first | exact hK1 ⟨by assumption, Int64.not_lt.mp (fun e => absurd ((lg_cmp_lt _ _).mpr e) (by assumption)), Int64.not_lt.mp (fun e => absurd ((lg_cmp_gt _ _).mpr e) (by assumption))⟩ | exact hK0 (fun g => absurd (by assumption) g.1) | exact hK0 (fun g => absurd ((lg_cmp_lt _ _).mp (by assumption)) (Int64.not_lt.mpr g.2.1)) | exact hK0 (fun g => absurd ((lg_cmp_gt _ _).mp (by assumption)) (Int64.not_lt.mpr g.2.2)) | exact absurd rfl (by assumption) | exact absurd (by assumption) (by decide)
    · refine a_aload_n d_M_takeNumber_160 rfl rfl ?_
      refine m_get d_M_takeNumber_161 f_M_180 rfl ?_
      refine a_ldc2 d_M_takeNumber_164 k_M_185 ?_
      refine a_lcmp d_M_takeNumber_167 ?_
      refine a_if_gt (tgt := 175) d_M_takeNumber_168 (by decide) (fun c_6 => ?_) (fun c_6 => ?_)
      · refine a_iconst (v := 0) d_M_takeNumber_175 (by decide) ?_
        refine a_istore_n d_M_takeNumber_176 rfl (by decide) ?_
        refine a_iload_n d_M_takeNumber_177 rfl rfl ?_
        refine a_if_ne (tgt := 190) d_M_takeNumber_178 (by decide) (fun c_7 => ?_) (fun c_7 => ?_)
        · refine a_return d_M_takeNumber_190 rfl ?_
          first | exact hK1 ⟨by assumption, Int64.not_lt.mp (fun e => absurd ((lg_cmp_lt _ _).mpr e) (by assumption)), Int64.not_lt.mp (fun e => absurd ((lg_cmp_gt _ _).mpr e) (by assumption))⟩ | exact hK0 (fun g => absurd (by assumption) g.1) | exact hK0 (fun g => absurd ((lg_cmp_lt _ _).mp (by assumption)) (Int64.not_lt.mpr g.2.1)) | exact hK0 (fun g => absurd ((lg_cmp_gt _ _).mp (by assumption)) (Int64.not_lt.mpr g.2.2)) | exact absurd rfl (by assumption) | exact absurd (by assumption) (by decide)
        · refine a_aload_n d_M_takeNumber_181 rfl rfl ?_
          refine a_iconst (v := 1) d_M_takeNumber_182 (by decide) ?_
          refine a_aload_n d_M_takeNumber_183 rfl rfl ?_
          refine m_get d_M_takeNumber_184 f_M_139 rfl ?_
          apply a_callV (ci := 7) 0 0 [_, _] _ d_M_takeNumber_187 l_M_155 ⟨im_M_wrong, se_M_wrong⟩ rfl rfl rfl rfl (Nat.le_of_ble_eq_true rfl) ⟨Nat.le_of_ble_eq_true rfl, Nat.le_of_ble_eq_true rfl⟩
          · (exact mk_O)
          refine sp_M_wrong ?_
          refine a_return d_M_takeNumber_190 rfl ?_
          first | exact hK1 ⟨by assumption, Int64.not_lt.mp (fun e => absurd ((lg_cmp_lt _ _).mpr e) (by assumption)), Int64.not_lt.mp (fun e => absurd ((lg_cmp_gt _ _).mpr e) (by assumption))⟩ | exact hK0 (fun g => absurd (by assumption) g.1) | exact hK0 (fun g => absurd ((lg_cmp_lt _ _).mp (by assumption)) (Int64.not_lt.mpr g.2.1)) | exact hK0 (fun g => absurd ((lg_cmp_gt _ _).mp (by assumption)) (Int64.not_lt.mpr g.2.2)) | exact absurd rfl (by assumption) | exact absurd (by assumption) (by decide)
      · refine a_iconst (v := 1) d_M_takeNumber_171 (by decide) ?_
        refine a_goto (tgt := 176) d_M_takeNumber_172 (by decide) ?_
        refine a_istore_n d_M_takeNumber_176 rfl (by decide) ?_
        refine a_iload_n d_M_takeNumber_177 rfl rfl ?_
        refine a_if_ne (tgt := 190) d_M_takeNumber_178 (by decide) (fun c_8 => ?_) (fun c_8 => ?_)
        · refine a_return d_M_takeNumber_190 rfl ?_
          first | exact hK1 ⟨by assumption, Int64.not_lt.mp (fun e => absurd ((lg_cmp_lt _ _).mpr e) (by assumption)), Int64.not_lt.mp (fun e => absurd ((lg_cmp_gt _ _).mpr e) (by assumption))⟩ | exact hK0 (fun g => absurd (by assumption) g.1) | exact hK0 (fun g => absurd ((lg_cmp_lt _ _).mp (by assumption)) (Int64.not_lt.mpr g.2.1)) | exact hK0 (fun g => absurd ((lg_cmp_gt _ _).mp (by assumption)) (Int64.not_lt.mpr g.2.2)) | exact absurd rfl (by assumption) | exact absurd (by assumption) (by decide)
        · refine a_aload_n d_M_takeNumber_181 rfl rfl ?_
          refine a_iconst (v := 1) d_M_takeNumber_182 (by decide) ?_
          refine a_aload_n d_M_takeNumber_183 rfl rfl ?_
          refine m_get d_M_takeNumber_184 f_M_139 rfl ?_
          apply a_callV (ci := 7) 0 0 [_, _] _ d_M_takeNumber_187 l_M_155 ⟨im_M_wrong, se_M_wrong⟩ rfl rfl rfl rfl (Nat.le_of_ble_eq_true rfl) ⟨Nat.le_of_ble_eq_true rfl, Nat.le_of_ble_eq_true rfl⟩
          · (exact mk_O)
          refine sp_M_wrong ?_
          refine a_return d_M_takeNumber_190 rfl ?_
          first | exact hK1 ⟨by assumption, Int64.not_lt.mp (fun e => absurd ((lg_cmp_lt _ _).mpr e) (by assumption)), Int64.not_lt.mp (fun e => absurd ((lg_cmp_gt _ _).mpr e) (by assumption))⟩ | exact hK0 (fun g => absurd (by assumption) g.1) | exact hK0 (fun g => absurd ((lg_cmp_lt _ _).mp (by assumption)) (Int64.not_lt.mpr g.2.1)) | exact hK0 (fun g => absurd ((lg_cmp_gt _ _).mp (by assumption)) (Int64.not_lt.mpr g.2.2)) | exact absurd rfl (by assumption) | exact absurd (by assumption) (by decide)

set_option maxHeartbeats 1000000 in
set_option maxRecDepth 100000 in
theorem tl_M_num0 {e b g : Int32} {v : Int64} (hb : ¬ b = 0) (hK1 : (¬ g = 0 ∧ -2147483648 ≤ (-v) ∧ (-v) ≤ 2147483647) → K none (mk σ0 m (sJ x 23 (-v)))) (hK0 : ¬ (¬ g = 0 ∧ -2147483648 ≤ (-v) ∧ (-v) ≤ 2147483647) → K none (mk σ0 m (wrX (sJ x 23 (-v)) 1 (x.1 19)))) : a_J G m_M_takeNumber 1 22 129 [(0, .ref m), (1, .int e), (2, .int b), (3, .int g), (4, .long v)] [] (mk σ0 m x) K := by
  refine a_aload_n d_M_takeNumber_129 rfl rfl ?_
  refine a_iload_n d_M_takeNumber_130 rfl rfl ?_
  refine a_if_eq (tgt := 140) d_M_takeNumber_131 (by decide) (fun n9 => absurd n9 (hb)) (fun c_1 => ?_)
  refine a_lload d_M_takeNumber_134 rfl ?_
  refine a_lneg d_M_takeNumber_136 ?_
  refine a_goto (tgt := 142) d_M_takeNumber_137 (by decide) ?_
  refine m_putJ d_M_takeNumber_142 p_M_180 rfl rfl (by decide) ?_
  refine a_iload_n d_M_takeNumber_145 rfl rfl ?_
  refine a_if_eq (tgt := 175) d_M_takeNumber_146 (by decide) (fun c_2 => ?_) (fun c_2 => ?_)
  · refine a_iconst (v := 0) d_M_takeNumber_175 (by decide) ?_
    refine a_istore_n d_M_takeNumber_176 rfl (by decide) ?_
    refine a_iload_n d_M_takeNumber_177 rfl rfl ?_
    refine a_if_ne (tgt := 190) d_M_takeNumber_178 (by decide) (fun c_3 => ?_) (fun c_3 => ?_)
    · refine a_return d_M_takeNumber_190 rfl ?_
      first | exact hK1 ⟨by assumption, Int64.not_lt.mp (fun e => absurd ((lg_cmp_lt _ _).mpr e) (by assumption)), Int64.not_lt.mp (fun e => absurd ((lg_cmp_gt _ _).mpr e) (by assumption))⟩ | exact hK0 (fun g => absurd (by assumption) g.1) | exact hK0 (fun g => absurd ((lg_cmp_lt _ _).mp (by assumption)) (Int64.not_lt.mpr g.2.1)) | exact hK0 (fun g => absurd ((lg_cmp_gt _ _).mp (by assumption)) (Int64.not_lt.mpr g.2.2)) | exact absurd rfl (by assumption) | exact absurd (by assumption) (by decide)
    · refine a_aload_n d_M_takeNumber_181 rfl rfl ?_
      refine a_iconst (v := 1) d_M_takeNumber_182 (by decide) ?_
      refine a_aload_n d_M_takeNumber_183 rfl rfl ?_
      refine m_get d_M_takeNumber_184 f_M_139 rfl ?_
      apply a_callV (ci := 7) 0 0 [_, _] _ d_M_takeNumber_187 l_M_155 ⟨im_M_wrong, se_M_wrong⟩ rfl rfl rfl rfl (Nat.le_of_ble_eq_true rfl) ⟨Nat.le_of_ble_eq_true rfl, Nat.le_of_ble_eq_true rfl⟩
      · (exact mk_O)
      refine sp_M_wrong ?_
      refine a_return d_M_takeNumber_190 rfl ?_
      first | exact hK1 ⟨by assumption, Int64.not_lt.mp (fun e => absurd ((lg_cmp_lt _ _).mpr e) (by assumption)), Int64.not_lt.mp (fun e => absurd ((lg_cmp_gt _ _).mpr e) (by assumption))⟩ | exact hK0 (fun g => absurd (by assumption) g.1) | exact hK0 (fun g => absurd ((lg_cmp_lt _ _).mp (by assumption)) (Int64.not_lt.mpr g.2.1)) | exact hK0 (fun g => absurd ((lg_cmp_gt _ _).mp (by assumption)) (Int64.not_lt.mpr g.2.2)) | exact absurd rfl (by assumption) | exact absurd (by assumption) (by decide)
  · refine a_aload_n d_M_takeNumber_149 rfl rfl ?_
    refine m_get d_M_takeNumber_150 f_M_180 rfl ?_
    refine a_ldc2 d_M_takeNumber_153 k_M_183 ?_
    refine a_lcmp d_M_takeNumber_156 ?_
    refine a_if_lt (tgt := 175) d_M_takeNumber_157 (by decide) (fun c_4 => ?_) (fun c_4 => ?_)
    · refine a_iconst (v := 0) d_M_takeNumber_175 (by decide) ?_
      refine a_istore_n d_M_takeNumber_176 rfl (by decide) ?_
      refine a_iload_n d_M_takeNumber_177 rfl rfl ?_
      refine a_if_ne (tgt := 190) d_M_takeNumber_178 (by decide) (fun c_5 => ?_) (fun c_5 => ?_)
      · refine a_return d_M_takeNumber_190 rfl ?_
        first | exact hK1 ⟨by assumption, Int64.not_lt.mp (fun e => absurd ((lg_cmp_lt _ _).mpr e) (by assumption)), Int64.not_lt.mp (fun e => absurd ((lg_cmp_gt _ _).mpr e) (by assumption))⟩ | exact hK0 (fun g => absurd (by assumption) g.1) | exact hK0 (fun g => absurd ((lg_cmp_lt _ _).mp (by assumption)) (Int64.not_lt.mpr g.2.1)) | exact hK0 (fun g => absurd ((lg_cmp_gt _ _).mp (by assumption)) (Int64.not_lt.mpr g.2.2)) | exact absurd rfl (by assumption) | exact absurd (by assumption) (by decide)
      · refine a_aload_n d_M_takeNumber_181 rfl rfl ?_
        refine a_iconst (v := 1) d_M_takeNumber_182 (by decide) ?_
        refine a_aload_n d_M_takeNumber_183 rfl rfl ?_
        refine m_get d_M_takeNumber_184 f_M_139 rfl ?_
        apply a_callV (ci := 7) 0 0 [_, _] _ d_M_takeNumber_187 l_M_155 ⟨im_M_wrong, se_M_wrong⟩ rfl rfl rfl rfl (Nat.le_of_ble_eq_true rfl) ⟨Nat.le_of_ble_eq_true rfl, Nat.le_of_ble_eq_true rfl⟩
        · (exact mk_O)
        refine sp_M_wrong ?_
        refine a_return d_M_takeNumber_190 rfl ?_
        first | exact hK1 ⟨by assumption, Int64.not_lt.mp (fun e => absurd ((lg_cmp_lt _ _).mpr e) (by assumption)), Int64.not_lt.mp (fun e => absurd ((lg_cmp_gt _ _).mpr e) (by assumption))⟩ | exact hK0 (fun g => absurd (by assumption) g.1) | exact hK0 (fun g => absurd ((lg_cmp_lt _ _).mp (by assumption)) (Int64.not_lt.mpr g.2.1)) | exact hK0 (fun g => absurd ((lg_cmp_gt _ _).mp (by assumption)) (Int64.not_lt.mpr g.2.2)) | exact absurd rfl (by assumption) | exact absurd (by assumption) (by decide)
    · refine a_aload_n d_M_takeNumber_160 rfl rfl ?_
      refine m_get d_M_takeNumber_161 f_M_180 rfl ?_
      refine a_ldc2 d_M_takeNumber_164 k_M_185 ?_
      refine a_lcmp d_M_takeNumber_167 ?_
      refine a_if_gt (tgt := 175) d_M_takeNumber_168 (by decide) (fun c_6 => ?_) (fun c_6 => ?_)
      · refine a_iconst (v := 0) d_M_takeNumber_175 (by decide) ?_
        refine a_istore_n d_M_takeNumber_176 rfl (by decide) ?_
        refine a_iload_n d_M_takeNumber_177 rfl rfl ?_
        refine a_if_ne (tgt := 190) d_M_takeNumber_178 (by decide) (fun c_7 => ?_) (fun c_7 => ?_)
        · refine a_return d_M_takeNumber_190 rfl ?_
          first | exact hK1 ⟨by assumption, Int64.not_lt.mp (fun e => absurd ((lg_cmp_lt _ _).mpr e) (by assumption)), Int64.not_lt.mp (fun e => absurd ((lg_cmp_gt _ _).mpr e) (by assumption))⟩ | exact hK0 (fun g => absurd (by assumption) g.1) | exact hK0 (fun g => absurd ((lg_cmp_lt _ _).mp (by assumption)) (Int64.not_lt.mpr g.2.1)) | exact hK0 (fun g => absurd ((lg_cmp_gt _ _).mp (by assumption)) (Int64.not_lt.mpr g.2.2)) | exact absurd rfl (by assumption) | exact absurd (by assumption) (by decide)
        · refine a_aload_n d_M_takeNumber_181 rfl rfl ?_
          refine a_iconst (v := 1) d_M_takeNumber_182 (by decide) ?_
          refine a_aload_n d_M_takeNumber_183 rfl rfl ?_
          refine m_get d_M_takeNumber_184 f_M_139 rfl ?_
          apply a_callV (ci := 7) 0 0 [_, _] _ d_M_takeNumber_187 l_M_155 ⟨im_M_wrong, se_M_wrong⟩ rfl rfl rfl rfl (Nat.le_of_ble_eq_true rfl) ⟨Nat.le_of_ble_eq_true rfl, Nat.le_of_ble_eq_true rfl⟩
          · (exact mk_O)
          refine sp_M_wrong ?_
          refine a_return d_M_takeNumber_190 rfl ?_
          first | exact hK1 ⟨by assumption, Int64.not_lt.mp (fun e => absurd ((lg_cmp_lt _ _).mpr e) (by assumption)), Int64.not_lt.mp (fun e => absurd ((lg_cmp_gt _ _).mpr e) (by assumption))⟩ | exact hK0 (fun g => absurd (by assumption) g.1) | exact hK0 (fun g => absurd ((lg_cmp_lt _ _).mp (by assumption)) (Int64.not_lt.mpr g.2.1)) | exact hK0 (fun g => absurd ((lg_cmp_gt _ _).mp (by assumption)) (Int64.not_lt.mpr g.2.2)) | exact absurd rfl (by assumption) | exact absurd (by assumption) (by decide)
      · refine a_iconst (v := 1) d_M_takeNumber_171 (by decide) ?_
        refine a_goto (tgt := 176) d_M_takeNumber_172 (by decide) ?_
        refine a_istore_n d_M_takeNumber_176 rfl (by decide) ?_
        refine a_iload_n d_M_takeNumber_177 rfl rfl ?_
        refine a_if_ne (tgt := 190) d_M_takeNumber_178 (by decide) (fun c_8 => ?_) (fun c_8 => ?_)
        · refine a_return d_M_takeNumber_190 rfl ?_
          first | exact hK1 ⟨by assumption, Int64.not_lt.mp (fun e => absurd ((lg_cmp_lt _ _).mpr e) (by assumption)), Int64.not_lt.mp (fun e => absurd ((lg_cmp_gt _ _).mpr e) (by assumption))⟩ | exact hK0 (fun g => absurd (by assumption) g.1) | exact hK0 (fun g => absurd ((lg_cmp_lt _ _).mp (by assumption)) (Int64.not_lt.mpr g.2.1)) | exact hK0 (fun g => absurd ((lg_cmp_gt _ _).mp (by assumption)) (Int64.not_lt.mpr g.2.2)) | exact absurd rfl (by assumption) | exact absurd (by assumption) (by decide)
        · refine a_aload_n d_M_takeNumber_181 rfl rfl ?_
          refine a_iconst (v := 1) d_M_takeNumber_182 (by decide) ?_
          refine a_aload_n d_M_takeNumber_183 rfl rfl ?_
          refine m_get d_M_takeNumber_184 f_M_139 rfl ?_
          apply a_callV (ci := 7) 0 0 [_, _] _ d_M_takeNumber_187 l_M_155 ⟨im_M_wrong, se_M_wrong⟩ rfl rfl rfl rfl (Nat.le_of_ble_eq_true rfl) ⟨Nat.le_of_ble_eq_true rfl, Nat.le_of_ble_eq_true rfl⟩
          · (exact mk_O)
          refine sp_M_wrong ?_
          refine a_return d_M_takeNumber_190 rfl ?_
          first | exact hK1 ⟨by assumption, Int64.not_lt.mp (fun e => absurd ((lg_cmp_lt _ _).mpr e) (by assumption)), Int64.not_lt.mp (fun e => absurd ((lg_cmp_gt _ _).mpr e) (by assumption))⟩ | exact hK0 (fun g => absurd (by assumption) g.1) | exact hK0 (fun g => absurd ((lg_cmp_lt _ _).mp (by assumption)) (Int64.not_lt.mpr g.2.1)) | exact hK0 (fun g => absurd ((lg_cmp_gt _ _).mp (by assumption)) (Int64.not_lt.mpr g.2.2)) | exact absurd rfl (by assumption) | exact absurd (by assumption) (by decide)

set_option maxHeartbeats 1000000 in
set_option maxRecDepth 100000 in
theorem lp_M_num0 {e b i : Int32} {v : Int64} (hJ : a_J G m_M_takeNumber 1 22 129 [(0, .ref m), (1, .int e), (2, .int b), (3, .int 0), (4, .long v)] [] (mk σ0 m x) K) : a_J G m_M_takeNumber 1 22 67 [(0, .ref m), (1, .int e), (2, .int b), (3, .int 0), (4, .long v), (6, .int i)] [] (mk σ0 m x) K := by
  refine a_iload d_M_takeNumber_67 rfl ?_
  refine a_iload_n d_M_takeNumber_69 rfl rfl ?_
  refine a_icmp_ge (tgt := 129) d_M_takeNumber_70 (by decide) (fun c_1 => ?_) (fun c_1 => ?_)
  · exact a_lvk hJ ⟨rfl, rfl, rfl, rfl, rfl, trivial⟩
  · refine a_iload_n d_M_takeNumber_73 rfl rfl ?_
    refine a_if_eq (tgt := 129) d_M_takeNumber_74 (by decide) (fun c_2 => ?_) (fun n9 => absurd (rfl) n9)
    exact a_lvk hJ ⟨rfl, rfl, rfl, rfl, rfl, trivial⟩

set_option maxHeartbeats 1000000 in
set_option maxRecDepth 100000 in
theorem lp_M_num {E : Nat} {b : Int32} (hT : MX x n f) (hE : E ≤ n) : ∀ (k i v : Nat), i + k = E → v < 10000000000000 → (¬ alD f k i = 0 → a_J G m_M_takeNumber 1 22 129 [(0, .ref m), (1, .int (nI E)), (2, .int b), (3, .int 1), (4, .long (lN (dvF f k i v)))] [] (mk σ0 m x) K) → (alD f k i = 0 → ∀ u : Int64, a_J G m_M_takeNumber 1 22 129 [(0, .ref m), (1, .int (nI E)), (2, .int b), (3, .int 0), (4, .long u)] [] (mk σ0 m x) K) → a_J G m_M_takeNumber 1 22 67 [(0, .ref m), (1, .int (nI E)), (2, .int b), (3, .int 1), (4, .long (lN v)), (6, .int (nI i))] [] (mk σ0 m x) K := by
  have hn := hT.2.1
  intro k
  induction k with
  | zero =>
    intro i v hi hv hJ1 hJ0
    refine a_iload d_M_takeNumber_67 rfl ?_
    refine a_iload_n d_M_takeNumber_69 rfl rfl ?_
    refine a_icmp_ge (tgt := 129) d_M_takeNumber_70 (by decide) (fun c_1 => ?_) (fun n9 => absurd (nI_le (by omega) (by omega)) n9)
    exact a_lvk (hJ1 (show ¬ (1 : Int32) = 0 by decide)) ⟨rfl, rfl, rfl, rfl, rfl, trivial⟩
  | succ k ih =>
    intro i v hi hv hJ1 hJ0
    have hfb := (hT.2.2 i (by omega)).2
    refine a_iload d_M_takeNumber_67 rfl ?_
    refine a_iload_n d_M_takeNumber_69 rfl rfl ?_
    refine a_icmp_ge (tgt := 129) d_M_takeNumber_70 (by decide) (fun n9 => absurd n9 (nI_ge (by omega) (by omega))) (fun c_1 => ?_)
    refine a_iload_n d_M_takeNumber_73 rfl rfl ?_
    refine a_if_eq (tgt := 129) d_M_takeNumber_74 (by decide) (fun n9 => absurd n9 (by decide)) (fun c_2 => ?_)
    refine a_aload_n d_M_takeNumber_77 rfl rfl ?_
    refine m_get d_M_takeNumber_78 f_M_41 rfl ?_
    refine a_iload d_M_takeNumber_81 rfl ?_
    refine m_iald d_M_takeNumber_83 (by decide) rfl (vp_in_nI (show i < 4096 by omega) (by decide)) ?_
    refine a_callS 0 0 [_] _ d_M_takeNumber_84 l_M_132 is_M_isDigit rfl rfl (Nat.le_of_ble_eq_true rfl) ⟨Nat.le_of_ble_eq_true rfl, Nat.le_of_ble_eq_true rfl⟩ ?_
    rw [nI_clamp (show i < 2 ^ 31 by omega), (hT.2.2 i (by omega)).1]
    refine sp_M_isDigit ?_
    refine a_istore_n d_M_takeNumber_87 rfl (by decide) ?_
    refine a_lload d_M_takeNumber_88 rfl ?_
    refine a_ldc2 d_M_takeNumber_90 k_M_174 ?_
    refine a_lcmp d_M_takeNumber_93 ?_
    refine a_if_ge (tgt := 119) d_M_takeNumber_94 (by decide) (fun c_3 => ?_) (fun c_3 => ?_)
    · refine a_lload d_M_takeNumber_119 rfl ?_
      refine a_lstore d_M_takeNumber_121 (by decide) ?_
      refine a_iinc (c0 := 1) d_M_takeNumber_123 rfl (by decide) (by decide) ?_
      refine a_goto (tgt := 67) d_M_takeNumber_126 (by decide) ?_
      rw [nI_1]
      by_cases hl : diF (nI (f i)) = 0
      · refine a_lvk (l := [(0, .ref m), (1, .int (nI E)), (2, .int b), (3, .int 0), (4, .long _), (6, .int (nI (i + 1)))]) (lp_M_num0 ?_) ⟨rfl, rfl, rfl, by rw [hl]; rfl, rfl, rfl, trivial⟩
        exact hJ0 (by rw [alD, if_pos hl]) _
      · have hd := (di_in (by omega)).mp hl
        have h1 : diF (nI (f i)) = 1 := by unfold diF at hl ⊢; split at hl; exact absurd rfl hl; split at hl; exact absurd rfl hl; rename_i u w; rw [if_neg u, if_neg w]
        have hv2 : ¬ v < 100000000000 := fun g => absurd ((lg_cmp_ge _ _).mp (by assumption)) (Int64.not_le.mpr ((pk_lLT (b := 100000000000) (by omega) (by decide)).mpr g))
        have ed : dvF f (k + 1) i v = dvF f k (i + 1) v := by rw [dvF, if_neg hv2]
        refine a_lvk (l := [(0, .ref m), (1, .int (nI E)), (2, .int b), (3, .int 1), (4, .long (lN v)), (6, .int (nI (i + 1)))]) (ih (i + 1) _ (by omega) (by omega) (fun z => ?_) (fun z => ?_)) ⟨rfl, rfl, rfl, by rw [h1]; rfl, rfl, rfl, trivial⟩
        · have := hJ1 (by rw [alD, if_neg hl]; exact z)
          rw [ed] at this; exact this
        · exact hJ0 (by rw [alD, if_neg hl]; exact z)
    · refine a_ldc2 d_M_takeNumber_97 k_M_176 ?_
      refine a_lload d_M_takeNumber_100 rfl ?_
      refine a_lmul d_M_takeNumber_102 ?_
      refine a_aload_n d_M_takeNumber_103 rfl rfl ?_
      refine m_get d_M_takeNumber_104 f_M_41 rfl ?_
      refine a_iload d_M_takeNumber_107 rfl ?_
      refine m_iald d_M_takeNumber_109 (by decide) rfl (vp_in_nI (show i < 4096 by omega) (by decide)) ?_
      rw [nI_clamp (show i < 2 ^ 31 by omega), (hT.2.2 i (by omega)).1]
      refine a_i2l d_M_takeNumber_110 ?_
      refine a_ladd d_M_takeNumber_111 ?_
      refine a_ldc2 d_M_takeNumber_112 k_M_178 ?_
      refine a_lsub d_M_takeNumber_115 ?_
      refine a_goto (tgt := 121) d_M_takeNumber_116 (by decide) ?_
      refine a_lstore d_M_takeNumber_121 (by decide) ?_
      refine a_iinc (c0 := 1) d_M_takeNumber_123 rfl (by decide) (by decide) ?_
      refine a_goto (tgt := 67) d_M_takeNumber_126 (by decide) ?_
      rw [nI_1]
      by_cases hl : diF (nI (f i)) = 0
      · refine a_lvk (l := [(0, .ref m), (1, .int (nI E)), (2, .int b), (3, .int 0), (4, .long _), (6, .int (nI (i + 1)))]) (lp_M_num0 ?_) ⟨rfl, rfl, rfl, by rw [hl]; rfl, rfl, rfl, trivial⟩
        exact hJ0 (by rw [alD, if_pos hl]) _
      · have hd := (di_in (by omega)).mp hl
        have h1 : diF (nI (f i)) = 1 := by unfold diF at hl ⊢; split at hl; exact absurd rfl hl; split at hl; exact absurd rfl hl; rename_i u w; rw [if_neg u, if_neg w]
        have hv2 : v < 100000000000 := (pk_lLT (b := 100000000000) (by omega) (by decide)).mp (Int64.not_le.mp (fun e => absurd ((lg_cmp_ge _ _).mpr e) (by assumption)))
        have ev : (10 : Int64) * lN v + (nI (f i)).toInt64 - 48 = lN (10 * v + (f i - 48)) := by
          rw [nI_l (by omega), show (10 : Int64) = lN 10 from rfl, lN_mul, lN_add, show (48 : Int64) = lN 48 from rfl, lN_sub (by omega)]
          congr 1; omega
        rw [ev]
        have ed : dvF f (k + 1) i v = dvF f k (i + 1) (10 * v + (f i - 48)) := by rw [dvF, if_pos hv2]
        refine a_lvk (l := [(0, .ref m), (1, .int (nI E)), (2, .int b), (3, .int 1), (4, .long (lN (10 * v + (f i - 48)))), (6, .int (nI (i + 1)))]) (ih (i + 1) _ (by omega) (by omega) (fun z => ?_) (fun z => ?_)) ⟨rfl, rfl, rfl, by rw [h1]; rfl, rfl, rfl, trivial⟩
        · have := hJ1 (by rw [alD, if_neg hl]; exact z)
          rw [ed] at this; exact this
        · exact hJ0 (by rw [alD, if_neg hl]; exact z)

end ModM3
