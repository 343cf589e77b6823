/-! THE MODEL's resolve: the machine's looks, one by one -/
section ModM21
variable {G : aG} {σ0 : aS} {K : Option Value → aS → Prop} {m n : Nat} {f : Nat → Nat} {x : aX} {c : aN}
set_option maxHeartbeats 1000000 in
set_option maxRecDepth 100000 in
theorem r_M_2E {l N : Nat} (hN : x.1 52 = nI N) (hl : N ≤ l) (hl2 : l < 2000) (hK : K none (mk σ0 m x)) : a_J G m_M_resolve 1 22 2 [(0, .ref m), (1, .int (nI l))] [] (mk σ0 m x) K := by
  refine a_iload_n d_M_resolve_2 rfl rfl ?_
  refine a_aload_n d_M_resolve_3 rfl rfl ?_
  refine m_get d_M_resolve_4 f_M_251 rfl ?_
  rw [hN]
  refine a_icmp_ge (tgt := 220) d_M_resolve_7 (by decide) (fun c_1 => ?_) (fun n9 => absurd (nI_le (by omega) (by omega)) n9)
  exact a_return d_M_resolve_220 rfl hK

set_option maxHeartbeats 1000000 in
set_option maxRecDepth 100000 in
theorem r_M_2B {v : Int32} (h0 : ¬ x.1 24 = 0) (hK : K none (mk σ0 m x)) : a_J G m_M_resolve 1 22 2 [(0, .ref m), (1, .int v)] [] (mk σ0 m x) K := by
  refine a_iload_n d_M_resolve_2 rfl rfl ?_
  refine a_aload_n d_M_resolve_3 rfl rfl ?_
  refine m_get d_M_resolve_4 f_M_251 rfl ?_
  refine a_icmp_ge (tgt := 220) d_M_resolve_7 (by decide) (fun c_1 => ?_) (fun c_1 => ?_)
  · exact a_return d_M_resolve_220 rfl hK
  · refine a_aload_n d_M_resolve_10 rfl rfl ?_
    refine m_get d_M_resolve_11 f_M_126 rfl ?_
    refine a_if_ne (tgt := 220) d_M_resolve_14 (by decide) (fun c_2 => ?_) (fun n9 => absurd n9 (h0))
    exact a_return d_M_resolve_220 rfl hK

set_option maxHeartbeats 1000000 in
set_option maxRecDepth 100000 in
theorem r_M_2N {l N : Nat} (hN : x.1 52 = nI N) (hl : l < N) (hl2 : N < 1250) (h0 : x.1 24 = 0) (hK : a_J G m_M_resolve 1 22 49 [(0, .ref m), (1, .int (nI l)), (2, .int (x.2.2.1 31 (4 * l))), (3, .int (x.2.2.1 31 (4 * l + 1))), (4, .int (x.2.2.1 31 (4 * l + 2)))] [] (mk σ0 m x) K) : a_J G m_M_resolve 1 22 2 [(0, .ref m), (1, .int (nI l))] [] (mk σ0 m x) K := by
  refine a_iload_n d_M_resolve_2 rfl rfl ?_
  refine a_aload_n d_M_resolve_3 rfl rfl ?_
  refine m_get d_M_resolve_4 f_M_251 rfl ?_
  rw [hN]
  refine a_icmp_ge (tgt := 220) d_M_resolve_7 (by decide) (fun n9 => absurd n9 (nI_ge (by omega) (by omega))) (fun c_1 => ?_)
  refine a_aload_n d_M_resolve_10 rfl rfl ?_
  refine m_get d_M_resolve_11 f_M_126 rfl ?_
  refine a_if_ne (tgt := 220) d_M_resolve_14 (by decide) (fun n9 => absurd (h0) n9) (fun c_2 => ?_)
  refine a_aload_n d_M_resolve_17 rfl rfl ?_
  refine m_get d_M_resolve_18 f_M_106 rfl ?_
  refine a_iconst (v := 4) d_M_resolve_21 (by decide) ?_
  refine a_iload_n d_M_resolve_22 rfl rfl ?_
  refine a_imul d_M_resolve_23 ?_
  rw [show (4 : Int32) = nI 4 from rfl, pk_mul]
  refine m_iald d_M_resolve_24 (by decide) rfl (vp_in_nI (show 4 * l < 5000 by omega) (by decide)) ?_
  rw [nI_clamp (show 4 * l < 2 ^ 31 by omega)]
  refine a_istore_n d_M_resolve_25 rfl (by decide) ?_
  refine a_aload_n d_M_resolve_26 rfl rfl ?_
  refine m_get d_M_resolve_27 f_M_106 rfl ?_
  refine a_iconst (v := 4) d_M_resolve_30 (by decide) ?_
  refine a_iload_n d_M_resolve_31 rfl rfl ?_
  refine a_imul d_M_resolve_32 ?_
  rw [show (4 : Int32) = nI 4 from rfl, pk_mul]
  refine a_iconst (v := 1) d_M_resolve_33 (by decide) ?_
  refine a_iadd d_M_resolve_34 ?_
  rw [show (1 : Int32) = nI 1 from rfl, nI_add]
  refine m_iald d_M_resolve_35 (by decide) rfl (vp_in_nI (show 4 * l + 1 < 5000 by omega) (by decide)) ?_
  rw [nI_clamp (show 4 * l + 1 < 2 ^ 31 by omega)]
  refine a_istore_n d_M_resolve_36 rfl (by decide) ?_
  refine a_aload_n d_M_resolve_37 rfl rfl ?_
  refine m_get d_M_resolve_38 f_M_106 rfl ?_
  refine a_iconst (v := 4) d_M_resolve_41 (by decide) ?_
  refine a_iload_n d_M_resolve_42 rfl rfl ?_
  refine a_imul d_M_resolve_43 ?_
  rw [show (4 : Int32) = nI 4 from rfl, pk_mul]
  refine a_iconst (v := 2) d_M_resolve_44 (by decide) ?_
  refine a_iadd d_M_resolve_45 ?_
  rw [show (2 : Int32) = nI 2 from rfl, nI_add]
  refine m_iald d_M_resolve_46 (by decide) rfl (vp_in_nI (show 4 * l + 2 < 5000 by omega) (by decide)) ?_
  rw [nI_clamp (show 4 * l + 2 < 2 ^ 31 by omega)]
  refine a_istore d_M_resolve_47 (by decide) ?_
  exact a_lvk hK ⟨rfl, rfl, rfl, rfl, rfl, trivial⟩

set_option maxHeartbeats 1000000 in
set_option maxRecDepth 100000 in
theorem r_M_49a {l g : Nat} {u : Int32} (hl : l < 1250) (hg : g < 900) (hu : u < 0) (hK : a_J G m_M_resolve 1 22 2 [(0, .ref m), (1, .int (nI (l + 1)))] [] (mk σ0 m x) K) : a_J G m_M_resolve 1 22 49 [(0, .ref m), (1, .int (nI l)), (2, .int 2), (3, .int (nI g)), (4, .int u)] [] (mk σ0 m x) K := by
  refine a_iload_n d_M_resolve_49 rfl rfl ?_
  refine a_iconst (v := 2) d_M_resolve_50 (by decide) ?_
  refine a_icmp_ne (tgt := 91) d_M_resolve_51 (by decide) (fun n9 => absurd (rfl) n9) (fun c_1 => ?_)
  refine a_iload d_M_resolve_54 rfl ?_
  refine a_if_lt (tgt := 214) d_M_resolve_56 (by decide) (fun c_2 => ?_) (fun n9 => absurd (hu) n9)
  refine a_iinc (c0 := 1) d_M_resolve_214 rfl (by decide) (by decide) ?_
  refine a_goto (tgt := 2) d_M_resolve_217 (by decide) ?_
  rw [nI_1]
  exact a_lvk hK ⟨rfl, rfl, trivial⟩

set_option maxHeartbeats 1000000 in
set_option maxRecDepth 100000 in
theorem r_M_49b {l g : Nat} {u : Int32} (hl : l < 1250) (hg : g < 900) (hu : ¬ u < 0) (hc : x.2.2.1 26 g < u - u / 4 * 4) (hK : a_J G m_M_resolve 1 22 2 [(0, .ref m), (1, .int (nI (l + 1)))] [] (mk σ0 m x) K) : a_J G m_M_resolve 1 22 49 [(0, .ref m), (1, .int (nI l)), (2, .int 2), (3, .int (nI g)), (4, .int u)] [] (mk σ0 m x) K := by
  refine a_iload_n d_M_resolve_49 rfl rfl ?_
  refine a_iconst (v := 2) d_M_resolve_50 (by decide) ?_
  refine a_icmp_ne (tgt := 91) d_M_resolve_51 (by decide) (fun n9 => absurd (rfl) n9) (fun c_1 => ?_)
  refine a_iload d_M_resolve_54 rfl ?_
  refine a_if_lt (tgt := 214) d_M_resolve_56 (by decide) (fun n9 => absurd n9 (hu)) (fun c_2 => ?_)
  refine a_aload_n d_M_resolve_59 rfl rfl ?_
  refine m_get d_M_resolve_60 f_M_91 rfl ?_
  refine a_iload_n d_M_resolve_63 rfl rfl ?_
  refine m_iald d_M_resolve_64 (by decide) rfl (vp_in_nI (show g < 900 by omega) (by decide)) ?_
  rw [nI_clamp (show g < 2 ^ 31 by omega)]
  refine a_iload d_M_resolve_65 rfl ?_
  refine a_iconst (v := 4) d_M_resolve_67 (by decide) ?_
  refine a_irem d_M_resolve_68 (by decide) ?_
  refine a_icmp_lt (tgt := 214) d_M_resolve_69 (by decide) (fun c_3 => ?_) (fun n9 => absurd (hc) n9)
  refine a_iinc (c0 := 1) d_M_resolve_214 rfl (by decide) (by decide) ?_
  refine a_goto (tgt := 2) d_M_resolve_217 (by decide) ?_
  rw [nI_1]
  exact a_lvk hK ⟨rfl, rfl, trivial⟩

set_option maxHeartbeats 1000000 in
set_option maxRecDepth 100000 in
theorem r_M_49c {l g : Nat} {u : Int32} (hl : l < 1250) (hg : g < 900) (hu : ¬ u < 0) (hc : ¬ x.2.2.1 26 g < u - u / 4 * 4) (hK : a_J G m_M_resolve 1 22 2 [(0, .ref m), (1, .int (nI (l + 1)))] [] (mk σ0 m (wrX x 6 (x.2.2.1 31 (4 * l + 3)))) K) : a_J G m_M_resolve 1 22 49 [(0, .ref m), (1, .int (nI l)), (2, .int 2), (3, .int (nI g)), (4, .int u)] [] (mk σ0 m x) K := by
  refine a_iload_n d_M_resolve_49 rfl rfl ?_
  refine a_iconst (v := 2) d_M_resolve_50 (by decide) ?_
  refine a_icmp_ne (tgt := 91) d_M_resolve_51 (by decide) (fun n9 => absurd (rfl) n9) (fun c_1 => ?_)
  refine a_iload d_M_resolve_54 rfl ?_
  refine a_if_lt (tgt := 214) d_M_resolve_56 (by decide) (fun n9 => absurd n9 (hu)) (fun c_2 => ?_)
  refine a_aload_n d_M_resolve_59 rfl rfl ?_
  refine m_get d_M_resolve_60 f_M_91 rfl ?_
  refine a_iload_n d_M_resolve_63 rfl rfl ?_
  refine m_iald d_M_resolve_64 (by decide) rfl (vp_in_nI (show g < 900 by omega) (by decide)) ?_
  rw [nI_clamp (show g < 2 ^ 31 by omega)]
  refine a_iload d_M_resolve_65 rfl ?_
  refine a_iconst (v := 4) d_M_resolve_67 (by decide) ?_
  refine a_irem d_M_resolve_68 (by decide) ?_
  refine a_icmp_lt (tgt := 214) d_M_resolve_69 (by decide) (fun n9 => absurd n9 (hc)) (fun c_3 => ?_)
  refine a_aload_n d_M_resolve_72 rfl rfl ?_
  refine a_bipush (v := 6) d_M_resolve_73 (by decide) ?_
  refine a_aload_n d_M_resolve_75 rfl rfl ?_
  refine m_get d_M_resolve_76 f_M_106 rfl ?_
  refine a_iconst (v := 4) d_M_resolve_79 (by decide) ?_
  refine a_iload_n d_M_resolve_80 rfl rfl ?_
  refine a_imul d_M_resolve_81 ?_
  rw [show (4 : Int32) = nI 4 from rfl, pk_mul]
  refine a_iconst (v := 3) d_M_resolve_82 (by decide) ?_
  refine a_iadd d_M_resolve_83 ?_
  rw [show (3 : Int32) = nI 3 from rfl, nI_add]
  refine m_iald d_M_resolve_84 (by decide) rfl (vp_in_nI (show 4 * l + 3 < 5000 by omega) (by decide)) ?_
  rw [nI_clamp (show 4 * l + 3 < 2 ^ 31 by omega)]
  apply a_callV (ci := 7) 0 0 [_, _] _ d_M_resolve_85 l_M_155 ⟨im_M_wrong, se_M_wrong⟩ rfl rfl rfl rfl (Nat.le_of_ble_eq_true rfl) ⟨Nat.le_of_ble_eq_true rfl, Nat.le_of_ble_eq_true rfl⟩
  · (exact mk_O)
  refine sp_M_wrong ?_
  refine a_goto (tgt := 214) d_M_resolve_88 (by decide) ?_
  refine a_iinc (c0 := 1) d_M_resolve_214 rfl (by decide) (by decide) ?_
  refine a_goto (tgt := 2) d_M_resolve_217 (by decide) ?_
  rw [nI_1]
  exact a_lvk hK ⟨rfl, rfl, trivial⟩

set_option maxHeartbeats 1000000 in
set_option maxRecDepth 100000 in
theorem r_M_97_0 {l g cnt : Nat} (hc : x.1 28 = nI cnt) (hc6 : cnt ≤ 6) (hg : g < 900) : ∀ (k i : Nat) (o : Int32), i + k = cnt → a_J G m_M_resolve 1 22 168 [(0, .ref m), (1, .int (nI l)), (2, .int 0), (3, .int (nI g)), (5, .int (lsF (x.2.2.2 11) (x.2.2.2 27 g) k i o))] [] (mk σ0 m x) K → a_J G m_M_resolve 1 22 97 [(0, .ref m), (1, .int (nI l)), (2, .int 0), (3, .int (nI g)), (5, .int (o)), (6, .int (nI i))] [] (mk σ0 m x) K := by
  intro k
  induction k with
  | zero =>
    intro i o hk hJ
    rw [lsF] at hJ
    refine a_iload d_M_resolve_97 rfl ?_
    refine a_iload_n d_M_resolve_99 rfl rfl ?_
    refine a_if_ne (tgt := 110) d_M_resolve_100 (by decide) (fun n9 => absurd (rfl) n9) (fun c_1 => ?_)
    refine a_aload_n d_M_resolve_103 rfl rfl ?_
    refine m_get d_M_resolve_104 f_M_236 rfl ?_
    refine a_goto (tgt := 114) d_M_resolve_107 (by decide) ?_
    rw [hc]
    refine a_icmp_ge (tgt := 168) d_M_resolve_114 (by decide) (fun c_2 => ?_) (fun n9 => absurd (nI_le (by omega) (by omega)) n9)
    exact a_lvk hJ ⟨rfl, rfl, rfl, rfl, rfl, trivial⟩
  | succ k ih =>
    intro i o hk hJ
    refine a_iload d_M_resolve_97 rfl ?_
    refine a_iload_n d_M_resolve_99 rfl rfl ?_
    refine a_if_ne (tgt := 110) d_M_resolve_100 (by decide) (fun n9 => absurd (rfl) n9) (fun c_1 => ?_)
    refine a_aload_n d_M_resolve_103 rfl rfl ?_
    refine m_get d_M_resolve_104 f_M_236 rfl ?_
    refine a_goto (tgt := 114) d_M_resolve_107 (by decide) ?_
    rw [hc]
    refine a_icmp_ge (tgt := 168) d_M_resolve_114 (by decide) (fun n9 => absurd n9 (nI_ge (by omega) (by omega))) (fun c_2 => ?_)
    refine a_iload_n d_M_resolve_117 rfl rfl ?_
    refine a_if_ne (tgt := 141) d_M_resolve_118 (by decide) (fun n9 => absurd (rfl) n9) (fun c_3 => ?_)
    refine a_aload_n d_M_resolve_121 rfl rfl ?_
    refine m_get d_M_resolve_122 f_M_44 rfl ?_
    refine a_iload d_M_resolve_125 rfl ?_
    refine m_lald d_M_resolve_127 (by decide) rfl (vp_in_nI (show i < 6 by omega) (by decide)) ?_
    rw [nI_clamp (show i < 2 ^ 31 by omega)]
    refine a_aload_n d_M_resolve_128 rfl rfl ?_
    refine m_get d_M_resolve_129 f_M_94 rfl ?_
    refine a_iload_n d_M_resolve_132 rfl rfl ?_
    refine m_lald d_M_resolve_133 (by decide) rfl (vp_in_nI (show g < 900 by omega) (by decide)) ?_
    rw [nI_clamp (show g < 2 ^ 31 by omega)]
    refine a_lcmp d_M_resolve_134 ?_
    refine a_if_ne (tgt := 162) d_M_resolve_135 (by decide) (fun c_4 => ?_) (fun c_4 => ?_)
    · refine a_iinc (c0 := 1) d_M_resolve_162 rfl (by decide) (by decide) ?_
      refine a_goto (tgt := 97) d_M_resolve_165 (by decide) ?_
      rw [nI_1]
      first | (rw [lsF, if_neg (fun e => absurd ((lg_cmp_eq _ _).mpr e) (by assumption))] at hJ; exact a_lvk (ih (i + 1) _ (by omega) hJ) ⟨rfl, rfl, rfl, rfl, rfl, rfl, trivial⟩) | (rw [lsF, if_pos ((lg_cmp_eq _ _).mp (by assumption))] at hJ; exact a_lvk (ih (i + 1) _ (by omega) hJ) ⟨rfl, rfl, rfl, rfl, rfl, rfl, trivial⟩)
    · refine a_goto (tgt := 158) d_M_resolve_138 (by decide) ?_
      refine a_iload d_M_resolve_158 rfl ?_
      refine a_istore d_M_resolve_160 (by decide) ?_
      refine a_iinc (c0 := 1) d_M_resolve_162 rfl (by decide) (by decide) ?_
      refine a_goto (tgt := 97) d_M_resolve_165 (by decide) ?_
      rw [nI_1]
      first | (rw [lsF, if_neg (fun e => absurd ((lg_cmp_eq _ _).mpr e) (by assumption))] at hJ; exact a_lvk (ih (i + 1) _ (by omega) hJ) ⟨rfl, rfl, rfl, rfl, rfl, rfl, trivial⟩) | (rw [lsF, if_pos ((lg_cmp_eq _ _).mp (by assumption))] at hJ; exact a_lvk (ih (i + 1) _ (by omega) hJ) ⟨rfl, rfl, rfl, rfl, rfl, rfl, trivial⟩)

set_option maxHeartbeats 1000000 in
set_option maxRecDepth 100000 in
theorem r_M_168F0 {l g : Nat} {v : Int32} (hl : l < 1250) (hv : ¬ 0 ≤ v) (hK : a_J G m_M_resolve 1 22 2 [(0, .ref m), (1, .int (nI (l + 1)))] [] (mk σ0 m (wrX x 5 (x.2.2.1 31 (4 * l + 3)))) K) : a_J G m_M_resolve 1 22 168 [(0, .ref m), (1, .int (nI l)), (2, .int 0), (3, .int (nI g)), (5, .int (v))] [] (mk σ0 m x) K := by
  refine a_iload d_M_resolve_168 rfl ?_
  refine a_if_ge (tgt := 191) d_M_resolve_170 (by decide) (fun n9 => absurd n9 (hv)) (fun c_1 => ?_)
  refine a_aload_n d_M_resolve_173 rfl rfl ?_
  refine a_iconst (v := 5) d_M_resolve_174 (by decide) ?_
  refine a_aload_n d_M_resolve_175 rfl rfl ?_
  refine m_get d_M_resolve_176 f_M_106 rfl ?_
  refine a_iconst (v := 4) d_M_resolve_179 (by decide) ?_
  refine a_iload_n d_M_resolve_180 rfl rfl ?_
  refine a_imul d_M_resolve_181 ?_
  rw [show (4 : Int32) = nI 4 from rfl, pk_mul]
  refine a_iconst (v := 3) d_M_resolve_182 (by decide) ?_
  refine a_iadd d_M_resolve_183 ?_
  rw [show (3 : Int32) = nI 3 from rfl, nI_add]
  refine m_iald d_M_resolve_184 (by decide) rfl (vp_in_nI (show 4 * l + 3 < 5000 by omega) (by decide)) ?_
  rw [nI_clamp (show 4 * l + 3 < 2 ^ 31 by omega)]
  apply a_callV (ci := 7) 0 0 [_, _] _ d_M_resolve_185 l_M_155 ⟨im_M_wrong, se_M_wrong⟩ rfl rfl rfl rfl (Nat.le_of_ble_eq_true rfl) ⟨Nat.le_of_ble_eq_true rfl, Nat.le_of_ble_eq_true rfl⟩
  · (exact mk_O)
  refine sp_M_wrong ?_
  refine a_goto (tgt := 214) d_M_resolve_188 (by decide) ?_
  refine a_iinc (c0 := 1) d_M_resolve_214 rfl (by decide) (by decide) ?_
  refine a_goto (tgt := 2) d_M_resolve_217 (by decide) ?_
  rw [nI_1]
  exact a_lvk hK ⟨rfl, rfl, trivial⟩

set_option maxHeartbeats 1000000 in
set_option maxRecDepth 100000 in
theorem r_M_168T0 {l g : Nat} {v : Int32} (hg : g < 900) (hv : 0 ≤ v) (hK : a_J G m_M_resolve 1 22 2 [(0, .ref m), (1, .int (nI (l + 1)))] [] (mk σ0 m (sA x 26 g v)) K) : a_J G m_M_resolve 1 22 168 [(0, .ref m), (1, .int (nI l)), (2, .int 0), (3, .int (nI g)), (5, .int (v))] [] (mk σ0 m x) K := by
  refine a_iload d_M_resolve_168 rfl ?_
  refine a_if_ge (tgt := 191) d_M_resolve_170 (by decide) (fun c_1 => ?_) (fun n9 => absurd (hv) n9)
  refine a_iload_n d_M_resolve_191 rfl rfl ?_
  refine a_if_ne (tgt := 206) d_M_resolve_192 (by decide) (fun n9 => absurd (rfl) n9) (fun c_2 => ?_)
  refine a_aload_n d_M_resolve_195 rfl rfl ?_
  refine m_get d_M_resolve_196 f_M_91 rfl ?_
  refine a_iload_n d_M_resolve_199 rfl rfl ?_
  refine a_iload d_M_resolve_200 rfl ?_
  refine m_iast d_M_resolve_202 (by decide) rfl (vp_in_nI (show g < 900 by omega) (by decide)) ?_
  rw [nI_clamp (show g < 2 ^ 31 by omega)]
  refine a_goto (tgt := 214) d_M_resolve_203 (by decide) ?_
  refine a_iinc (c0 := 1) d_M_resolve_214 rfl (by decide) (by decide) ?_
  refine a_goto (tgt := 2) d_M_resolve_217 (by decide) ?_
  rw [nI_1]
  exact a_lvk hK ⟨rfl, rfl, trivial⟩

set_option maxHeartbeats 1000000 in
set_option maxRecDepth 100000 in
theorem r_M_49_0 {l g : Nat} {u : Int32} (hK : a_J G m_M_resolve 1 22 97 [(0, .ref m), (1, .int (nI l)), (2, .int 0), (3, .int (nI g)), (5, .int (-1)), (6, .int (nI 0))] [] (mk σ0 m x) K) : a_J G m_M_resolve 1 22 49 [(0, .ref m), (1, .int (nI l)), (2, .int 0), (3, .int (nI g)), (4, .int u)] [] (mk σ0 m x) K := by
  refine a_iload_n d_M_resolve_49 rfl rfl ?_
  refine a_iconst (v := 2) d_M_resolve_50 (by decide) ?_
  refine a_icmp_ne (tgt := 91) d_M_resolve_51 (by decide) (fun c_1 => ?_) (fun n9 => absurd n9 (by decide))
  refine a_iconst (v := (-1)) d_M_resolve_91 (by decide) ?_
  refine a_istore d_M_resolve_92 (by decide) ?_
  refine a_iconst (v := 0) d_M_resolve_94 (by decide) ?_
  refine a_istore d_M_resolve_95 (by decide) ?_
  exact a_lvk hK ⟨rfl, rfl, rfl, rfl, rfl, rfl, trivial⟩

set_option maxHeartbeats 1000000 in
set_option maxRecDepth 100000 in
theorem r_M_97_1 {l g cnt : Nat} (hc : x.1 36 = nI cnt) (hc6 : cnt ≤ 24) (hg : g < 192) : ∀ (k i : Nat) (o : Int32), i + k = cnt → a_J G m_M_resolve 1 22 168 [(0, .ref m), (1, .int (nI l)), (2, .int 1), (3, .int (nI g)), (5, .int (lsF (x.2.2.2 18) (x.2.2.2 23 g) k i o))] [] (mk σ0 m x) K → a_J G m_M_resolve 1 22 97 [(0, .ref m), (1, .int (nI l)), (2, .int 1), (3, .int (nI g)), (5, .int (o)), (6, .int (nI i))] [] (mk σ0 m x) K := by
  intro k
  induction k with
  | zero =>
    intro i o hk hJ
    rw [lsF] at hJ
    refine a_iload d_M_resolve_97 rfl ?_
    refine a_iload_n d_M_resolve_99 rfl rfl ?_
    refine a_if_ne (tgt := 110) d_M_resolve_100 (by decide) (fun c_1 => ?_) (fun n9 => absurd n9 (by decide))
    refine a_aload_n d_M_resolve_110 rfl rfl ?_
    refine m_get d_M_resolve_111 f_M_242 rfl ?_
    rw [hc]
    refine a_icmp_ge (tgt := 168) d_M_resolve_114 (by decide) (fun c_2 => ?_) (fun n9 => absurd (nI_le (by omega) (by omega)) n9)
    exact a_lvk hJ ⟨rfl, rfl, rfl, rfl, rfl, trivial⟩
  | succ k ih =>
    intro i o hk hJ
    refine a_iload d_M_resolve_97 rfl ?_
    refine a_iload_n d_M_resolve_99 rfl rfl ?_
    refine a_if_ne (tgt := 110) d_M_resolve_100 (by decide) (fun c_1 => ?_) (fun n9 => absurd n9 (by decide))
    refine a_aload_n d_M_resolve_110 rfl rfl ?_
    refine m_get d_M_resolve_111 f_M_242 rfl ?_
    rw [hc]
    refine a_icmp_ge (tgt := 168) d_M_resolve_114 (by decide) (fun n9 => absurd n9 (nI_ge (by omega) (by omega))) (fun c_2 => ?_)
    refine a_iload_n d_M_resolve_117 rfl rfl ?_
    refine a_if_ne (tgt := 141) d_M_resolve_118 (by decide) (fun c_3 => ?_) (fun n9 => absurd n9 (by decide))
    refine a_aload_n d_M_resolve_141 rfl rfl ?_
    refine m_get d_M_resolve_142 f_M_67 rfl ?_
    refine a_iload d_M_resolve_145 rfl ?_
    refine m_lald d_M_resolve_147 (by decide) rfl (vp_in_nI (show i < 24 by omega) (by decide)) ?_
    rw [nI_clamp (show i < 2 ^ 31 by omega)]
    refine a_aload_n d_M_resolve_148 rfl rfl ?_
    refine m_get d_M_resolve_149 f_M_82 rfl ?_
    refine a_iload_n d_M_resolve_152 rfl rfl ?_
    refine m_lald d_M_resolve_153 (by decide) rfl (vp_in_nI (show g < 192 by omega) (by decide)) ?_
    rw [nI_clamp (show g < 2 ^ 31 by omega)]
    refine a_lcmp d_M_resolve_154 ?_
    refine a_if_ne (tgt := 162) d_M_resolve_155 (by decide) (fun c_4 => ?_) (fun c_4 => ?_)
    · refine a_iinc (c0 := 1) d_M_resolve_162 rfl (by decide) (by decide) ?_
      refine a_goto (tgt := 97) d_M_resolve_165 (by decide) ?_
      rw [nI_1]
      first | (rw [lsF, if_neg (fun e => absurd ((lg_cmp_eq _ _).mpr e) (by assumption))] at hJ; exact a_lvk (ih (i + 1) _ (by omega) hJ) ⟨rfl, rfl, rfl, rfl, rfl, rfl, trivial⟩) | (rw [lsF, if_pos ((lg_cmp_eq _ _).mp (by assumption))] at hJ; exact a_lvk (ih (i + 1) _ (by omega) hJ) ⟨rfl, rfl, rfl, rfl, rfl, rfl, trivial⟩)
    · refine a_iload d_M_resolve_158 rfl ?_
      refine a_istore d_M_resolve_160 (by decide) ?_
      refine a_iinc (c0 := 1) d_M_resolve_162 rfl (by decide) (by decide) ?_
      refine a_goto (tgt := 97) d_M_resolve_165 (by decide) ?_
      rw [nI_1]
      first | (rw [lsF, if_neg (fun e => absurd ((lg_cmp_eq _ _).mpr e) (by assumption))] at hJ; exact a_lvk (ih (i + 1) _ (by omega) hJ) ⟨rfl, rfl, rfl, rfl, rfl, rfl, trivial⟩) | (rw [lsF, if_pos ((lg_cmp_eq _ _).mp (by assumption))] at hJ; exact a_lvk (ih (i + 1) _ (by omega) hJ) ⟨rfl, rfl, rfl, rfl, rfl, rfl, trivial⟩)

set_option maxHeartbeats 1000000 in
set_option maxRecDepth 100000 in
theorem r_M_168F1 {l g : Nat} {v : Int32} (hl : l < 1250) (hv : ¬ 0 ≤ v) (hK : a_J G m_M_resolve 1 22 2 [(0, .ref m), (1, .int (nI (l + 1)))] [] (mk σ0 m (wrX x 5 (x.2.2.1 31 (4 * l + 3)))) K) : a_J G m_M_resolve 1 22 168 [(0, .ref m), (1, .int (nI l)), (2, .int 1), (3, .int (nI g)), (5, .int (v))] [] (mk σ0 m x) K := by
  refine a_iload d_M_resolve_168 rfl ?_
  refine a_if_ge (tgt := 191) d_M_resolve_170 (by decide) (fun n9 => absurd n9 (hv)) (fun c_1 => ?_)
  refine a_aload_n d_M_resolve_173 rfl rfl ?_
  refine a_iconst (v := 5) d_M_resolve_174 (by decide) ?_
  refine a_aload_n d_M_resolve_175 rfl rfl ?_
  refine m_get d_M_resolve_176 f_M_106 rfl ?_
  refine a_iconst (v := 4) d_M_resolve_179 (by decide) ?_
  refine a_iload_n d_M_resolve_180 rfl rfl ?_
  refine a_imul d_M_resolve_181 ?_
  rw [show (4 : Int32) = nI 4 from rfl, pk_mul]
  refine a_iconst (v := 3) d_M_resolve_182 (by decide) ?_
  refine a_iadd d_M_resolve_183 ?_
  rw [show (3 : Int32) = nI 3 from rfl, nI_add]
  refine m_iald d_M_resolve_184 (by decide) rfl (vp_in_nI (show 4 * l + 3 < 5000 by omega) (by decide)) ?_
  rw [nI_clamp (show 4 * l + 3 < 2 ^ 31 by omega)]
  apply a_callV (ci := 7) 0 0 [_, _] _ d_M_resolve_185 l_M_155 ⟨im_M_wrong, se_M_wrong⟩ rfl rfl rfl rfl (Nat.le_of_ble_eq_true rfl) ⟨Nat.le_of_ble_eq_true rfl, Nat.le_of_ble_eq_true rfl⟩
  · (exact mk_O)
  refine sp_M_wrong ?_
  refine a_goto (tgt := 214) d_M_resolve_188 (by decide) ?_
  refine a_iinc (c0 := 1) d_M_resolve_214 rfl (by decide) (by decide) ?_
  refine a_goto (tgt := 2) d_M_resolve_217 (by decide) ?_
  rw [nI_1]
  exact a_lvk hK ⟨rfl, rfl, trivial⟩

set_option maxHeartbeats 1000000 in
set_option maxRecDepth 100000 in
theorem r_M_168T1 {l g : Nat} {v : Int32} (hg : g < 192) (hv : 0 ≤ v) (hK : a_J G m_M_resolve 1 22 2 [(0, .ref m), (1, .int (nI (l + 1)))] [] (mk σ0 m (sA x 24 g v)) K) : a_J G m_M_resolve 1 22 168 [(0, .ref m), (1, .int (nI l)), (2, .int 1), (3, .int (nI g)), (5, .int (v))] [] (mk σ0 m x) K := by
  refine a_iload d_M_resolve_168 rfl ?_
  refine a_if_ge (tgt := 191) d_M_resolve_170 (by decide) (fun c_1 => ?_) (fun n9 => absurd (hv) n9)
  refine a_iload_n d_M_resolve_191 rfl rfl ?_
  refine a_if_ne (tgt := 206) d_M_resolve_192 (by decide) (fun c_2 => ?_) (fun n9 => absurd n9 (by decide))
  refine a_aload_n d_M_resolve_206 rfl rfl ?_
  refine m_get d_M_resolve_207 f_M_85 rfl ?_
  refine a_iload_n d_M_resolve_210 rfl rfl ?_
  refine a_iload d_M_resolve_211 rfl ?_
  refine m_iast d_M_resolve_213 (by decide) rfl (vp_in_nI (show g < 192 by omega) (by decide)) ?_
  rw [nI_clamp (show g < 2 ^ 31 by omega)]
  refine a_iinc (c0 := 1) d_M_resolve_214 rfl (by decide) (by decide) ?_
  refine a_goto (tgt := 2) d_M_resolve_217 (by decide) ?_
  rw [nI_1]
  exact a_lvk hK ⟨rfl, rfl, trivial⟩

set_option maxHeartbeats 1000000 in
set_option maxRecDepth 100000 in
theorem r_M_49_1 {l g : Nat} {u : Int32} (hK : a_J G m_M_resolve 1 22 97 [(0, .ref m), (1, .int (nI l)), (2, .int 1), (3, .int (nI g)), (5, .int (-1)), (6, .int (nI 0))] [] (mk σ0 m x) K) : a_J G m_M_resolve 1 22 49 [(0, .ref m), (1, .int (nI l)), (2, .int 1), (3, .int (nI g)), (4, .int u)] [] (mk σ0 m x) K := by
  refine a_iload_n d_M_resolve_49 rfl rfl ?_
  refine a_iconst (v := 2) d_M_resolve_50 (by decide) ?_
  refine a_icmp_ne (tgt := 91) d_M_resolve_51 (by decide) (fun c_1 => ?_) (fun n9 => absurd n9 (by decide))
  refine a_iconst (v := (-1)) d_M_resolve_91 (by decide) ?_
  refine a_istore d_M_resolve_92 (by decide) ?_
  refine a_iconst (v := 0) d_M_resolve_94 (by decide) ?_
  refine a_istore d_M_resolve_95 (by decide) ?_
  exact a_lvk hK ⟨rfl, rfl, rfl, rfl, rfl, rfl, trivial⟩

set_option maxHeartbeats 1000000 in
set_option maxRecDepth 100000 in
theorem r_M_0 (hK : a_J G m_M_resolve 1 22 2 [(0, .ref m), (1, .int (nI 0))] [] (mk σ0 m x) K) : a_C G m_M_resolve 1 22 [.ref m] (mk σ0 m x) K := by
  refine a_enter rfl (Nat.le_of_ble_eq_true rfl) ?_
  refine a_iconst (v := 0) d_M_resolve_0 (by decide) ?_
  refine a_istore_n d_M_resolve_1 rfl (by decide) ?_
  exact a_lvk hK ⟨rfl, rfl, trivial⟩

end ModM21
