/-! THE MODEL: what is true of a call -/
/-- a test's truth, a clause's, over the machine's rows -/
def plF (c : aN) (S : Nat → Int32) (l : aC) (g : Nat) : Int32 := if c.1 36 g = 1 then cmpF (S (c.1 37 g)) (nI (c.1 38 g)) (c.2.2 g) else if nI (c.1 37 g) < argN l.1 then cmpF (argF l (nI (c.1 37 g))) (nI (c.1 38 g)) (c.2.2 g) else 0
def tvF (c : aN) (S : Nat → Int32) (l : aC) (g : Nat) : Int32 := if plF c S l g = nI (c.1 39 g) then 0 else 1
def apM (c : aN) (S : Nat → Int32) (l : aC) : Nat → Nat → Int32
  | _, 0 => 1
  | g, n + 1 => if tvF c S l g = 0 then 0 else apM c S l (g + 1) n
def soF (c : aN) (S : Nat → Int32) (l : aC) (call fst many : Nat) : Int32 := if nI call = 16 then apM c S l fst many else if nI call = l.1 then apM c S l fst many else 0
/-- the model's call -/
def MA (x : aX) (l : aC) : Prop := x.1 14 = l.1 ∧ x.2.2.1 8 0 = l.2.1 ∧ x.2.2.1 8 1 = l.2.2.1 ∧ x.2.2.1 8 2 = l.2.2.2 ∧ ∃ v, v ≤ 15 ∧ l.1 = nI v
theorem cm_01 (v op b : Int32) : cmpF v op b = 0 ∨ cmpF v op b = 1 := by unfold cmpF; repeat (split <;> first | exact Or.inl rfl | exact Or.inr rfl | skip)
theorem pl_01 (c : aN) (S : Nat → Int32) (l : aC) (g : Nat) : plF c S l g = 0 ∨ plF c S l g = 1 := by
  unfold plF; split
  · exact cm_01 _ _ _
  · split
    · exact cm_01 _ _ _
    · exact Or.inl rfl
theorem ap_01 (c : aN) (S : Nat → Int32) (l : aC) : ∀ (n g : Nat), apM c S l g n = 0 ∨ apM c S l g n = 1
  | 0, _ => Or.inr rfl
  | n + 1, g => by
    rw [apM]; split
    · exact Or.inl rfl
    · exact ap_01 c S l n (g + 1)
section ModM26
variable {G : aG} {σ0 : aS} {K : Option Value → aS → Prop} {m : Nat} {x : aX} {c : aN} {q : aP} {l : aC} {S : Nat → Int32}
set_option maxHeartbeats 1000000 in
set_option maxRecDepth 100000 in
theorem it_1 {g t v : Nat} (hg : g < 900) (hv : v ≤ 15) (h25 : x.2.2.1 25 g = 1) (ht : t < 6) (h26 : x.2.2.1 26 g = nI t) (hK : K (some (.int (if cmpF (x.2.2.1 9 t) (x.2.2.1 28 g) (x.2.2.1 29 g) = x.2.2.1 30 g then 0 else 1))) (mk σ0 m x)) : a_C G m_M_isTrue 0 0 [.ref m, .int (nI g), .int (nI v)] (mk σ0 m x) K := by
  refine a_enter rfl (Nat.le_of_ble_eq_true rfl) ?_
  refine a_aload_n d_M_isTrue_0 rfl rfl ?_
  refine m_get d_M_isTrue_1 f_M_88 rfl ?_
  refine a_iload_n d_M_isTrue_4 rfl rfl ?_
  refine m_zald d_M_isTrue_5 (by decide) rfl (vp_in_nI (show g < 900 by omega) (by decide)) ?_
  rw [nI_clamp (show g < 2 ^ 31 by omega)]
  refine a_if_ne (tgt := 21) d_M_isTrue_6 (by decide) (fun c_1 => ?_) (fun n9 => absurd n9 (by rw [h25]; decide))
  refine a_iconst (v := 1) d_M_isTrue_21 (by decide) ?_
  refine a_goto (tgt := 26) d_M_isTrue_22 (by decide) ?_
  refine a_istore_n d_M_isTrue_26 rfl (by decide) ?_
  refine a_aload_n d_M_isTrue_27 rfl rfl ?_
  refine m_get d_M_isTrue_28 f_M_88 rfl ?_
  refine a_iload_n d_M_isTrue_31 rfl rfl ?_
  refine m_zald d_M_isTrue_32 (by decide) rfl (vp_in_nI (show g < 900 by omega) (by decide)) ?_
  rw [nI_clamp (show g < 2 ^ 31 by omega)]
  refine a_if_eq (tgt := 50) d_M_isTrue_33 (by decide) (fun n9 => absurd n9 (by rw [h25]; decide)) (fun c_2 => ?_)
  refine a_aload_n d_M_isTrue_36 rfl rfl ?_
  refine m_get d_M_isTrue_37 f_M_38 rfl ?_
  refine a_aload_n d_M_isTrue_40 rfl rfl ?_
  refine m_get d_M_isTrue_41 f_M_91 rfl ?_
  refine a_iload_n d_M_isTrue_44 rfl rfl ?_
  refine m_iald d_M_isTrue_45 (by decide) rfl (vp_in_nI (show g < 900 by omega) (by decide)) ?_
  rw [nI_clamp (show g < 2 ^ 31 by omega)]
  rw [h26]
  refine m_iald d_M_isTrue_46 (by decide) rfl (vp_in_nI (show t < 6 by omega) (by decide)) ?_
  rw [nI_clamp (show t < 2 ^ 31 by omega)]
  refine a_goto (tgt := 61) d_M_isTrue_47 (by decide) ?_
  refine a_istore d_M_isTrue_61 (by decide) ?_
  refine a_iload_n d_M_isTrue_63 rfl rfl ?_
  refine a_if_eq (tgt := 129) d_M_isTrue_64 (by decide) (fun n9 => absurd n9 (by decide)) (fun c_3 => ?_)
  refine a_aload_n d_M_isTrue_67 rfl rfl ?_
  refine m_get d_M_isTrue_68 f_M_97 rfl ?_
  refine a_iload_n d_M_isTrue_71 rfl rfl ?_
  refine m_iald d_M_isTrue_72 (by decide) rfl (vp_in_nI (show g < 900 by omega) (by decide)) ?_
  rw [nI_clamp (show g < 2 ^ 31 by omega)]
  refine a_if_ne (tgt := 90) d_M_isTrue_73 (by decide) (fun c_4 => ?_) (fun c_4 => ?_)
  · refine a_aload_n d_M_isTrue_90 rfl rfl ?_
    refine m_get d_M_isTrue_91 f_M_97 rfl ?_
    refine a_iload_n d_M_isTrue_94 rfl rfl ?_
    refine m_iald d_M_isTrue_95 (by decide) rfl (vp_in_nI (show g < 900 by omega) (by decide)) ?_
    rw [nI_clamp (show g < 2 ^ 31 by omega)]
    refine a_iconst (v := 1) d_M_isTrue_96 (by decide) ?_
    refine a_icmp_ne (tgt := 114) d_M_isTrue_97 (by decide) (fun c_5 => ?_) (fun c_5 => ?_)
    · refine a_iload d_M_isTrue_114 rfl ?_
      refine a_aload_n d_M_isTrue_116 rfl rfl ?_
      refine m_get d_M_isTrue_117 f_M_100 rfl ?_
      refine a_iload_n d_M_isTrue_120 rfl rfl ?_
      refine m_iald d_M_isTrue_121 (by decide) rfl (vp_in_nI (show g < 900 by omega) (by decide)) ?_
      rw [nI_clamp (show g < 2 ^ 31 by omega)]
      refine a_icmp_le (tgt := 129) d_M_isTrue_122 (by decide) (fun c_6 => ?_) (fun c_6 => ?_)
      · refine a_iconst (v := 0) d_M_isTrue_129 (by decide) ?_
        refine a_istore d_M_isTrue_130 (by decide) ?_
        refine a_iload d_M_isTrue_132 rfl ?_
        refine a_aload_n d_M_isTrue_134 rfl rfl ?_
        refine m_get d_M_isTrue_135 f_M_103 rfl ?_
        refine a_iload_n d_M_isTrue_138 rfl rfl ?_
        refine m_zald d_M_isTrue_139 (by decide) rfl (vp_in_nI (show g < 900 by omega) (by decide)) ?_
        rw [nI_clamp (show g < 2 ^ 31 by omega)]
        refine a_icmp_eq (tgt := 147) d_M_isTrue_140 (by decide) (fun c_7 => ?_) (fun c_7 => ?_)
        · refine a_iconst (v := 0) d_M_isTrue_147 (by decide) ?_
          refine a_ireturn d_M_isTrue_148 rfl rfl ?_
          simp only [cmpF, if_neg c_1, if_neg c_2, if_neg c_3, if_neg c_4, if_neg c_5, if_pos c_6, if_neg (Int32.not_lt.mpr c_6), if_pos c_7, if_true, ite_true, ite_false] at hK
          exact hK
        · refine a_iconst (v := 1) d_M_isTrue_143 (by decide) ?_
          refine a_goto (tgt := 148) d_M_isTrue_144 (by decide) ?_
          refine a_ireturn d_M_isTrue_148 rfl rfl ?_
          simp only [cmpF, if_neg c_1, if_neg c_2, if_neg c_3, if_neg c_4, if_neg c_5, if_pos c_6, if_neg (Int32.not_lt.mpr c_6), if_neg c_7, if_true, ite_true, ite_false] at hK
          exact hK
      · refine a_iconst (v := 1) d_M_isTrue_125 (by decide) ?_
        refine a_goto (tgt := 130) d_M_isTrue_126 (by decide) ?_
        refine a_istore d_M_isTrue_130 (by decide) ?_
        refine a_iload d_M_isTrue_132 rfl ?_
        refine a_aload_n d_M_isTrue_134 rfl rfl ?_
        refine m_get d_M_isTrue_135 f_M_103 rfl ?_
        refine a_iload_n d_M_isTrue_138 rfl rfl ?_
        refine m_zald d_M_isTrue_139 (by decide) rfl (vp_in_nI (show g < 900 by omega) (by decide)) ?_
        rw [nI_clamp (show g < 2 ^ 31 by omega)]
        refine a_icmp_eq (tgt := 147) d_M_isTrue_140 (by decide) (fun c_8 => ?_) (fun c_8 => ?_)
        · refine a_iconst (v := 0) d_M_isTrue_147 (by decide) ?_
          refine a_ireturn d_M_isTrue_148 rfl rfl ?_
          simp only [cmpF, if_neg c_1, if_neg c_2, if_neg c_3, if_neg c_4, if_neg c_5, if_neg c_6, if_pos (Int32.not_le.mp c_6), if_pos c_8, if_true, ite_true, ite_false] at hK
          exact hK
        · refine a_iconst (v := 1) d_M_isTrue_143 (by decide) ?_
          refine a_goto (tgt := 148) d_M_isTrue_144 (by decide) ?_
          refine a_ireturn d_M_isTrue_148 rfl rfl ?_
          simp only [cmpF, if_neg c_1, if_neg c_2, if_neg c_3, if_neg c_4, if_neg c_5, if_neg c_6, if_pos (Int32.not_le.mp c_6), if_neg c_8, if_true, ite_true, ite_false] at hK
          exact hK
    · refine a_iload d_M_isTrue_100 rfl ?_
      refine a_aload_n d_M_isTrue_102 rfl rfl ?_
      refine m_get d_M_isTrue_103 f_M_100 rfl ?_
      refine a_iload_n d_M_isTrue_106 rfl rfl ?_
      refine m_iald d_M_isTrue_107 (by decide) rfl (vp_in_nI (show g < 900 by omega) (by decide)) ?_
      rw [nI_clamp (show g < 2 ^ 31 by omega)]
      refine a_icmp_ne (tgt := 129) d_M_isTrue_108 (by decide) (fun c_9 => ?_) (fun c_9 => ?_)
      · refine a_iconst (v := 0) d_M_isTrue_129 (by decide) ?_
        refine a_istore d_M_isTrue_130 (by decide) ?_
        refine a_iload d_M_isTrue_132 rfl ?_
        refine a_aload_n d_M_isTrue_134 rfl rfl ?_
        refine m_get d_M_isTrue_135 f_M_103 rfl ?_
        refine a_iload_n d_M_isTrue_138 rfl rfl ?_
        refine m_zald d_M_isTrue_139 (by decide) rfl (vp_in_nI (show g < 900 by omega) (by decide)) ?_
        rw [nI_clamp (show g < 2 ^ 31 by omega)]
        refine a_icmp_eq (tgt := 147) d_M_isTrue_140 (by decide) (fun c_10 => ?_) (fun c_10 => ?_)
        · refine a_iconst (v := 0) d_M_isTrue_147 (by decide) ?_
          refine a_ireturn d_M_isTrue_148 rfl rfl ?_
          simp only [cmpF, if_neg c_1, if_neg c_2, if_neg c_3, if_neg c_4, if_pos c_5, if_neg c_9, if_pos c_10, if_true, ite_true, ite_false] at hK
          exact hK
        · refine a_iconst (v := 1) d_M_isTrue_143 (by decide) ?_
          refine a_goto (tgt := 148) d_M_isTrue_144 (by decide) ?_
          refine a_ireturn d_M_isTrue_148 rfl rfl ?_
          simp only [cmpF, if_neg c_1, if_neg c_2, if_neg c_3, if_neg c_4, if_pos c_5, if_neg c_9, if_neg c_10, if_true, ite_true, ite_false] at hK
          exact hK
      · refine a_goto (tgt := 125) d_M_isTrue_111 (by decide) ?_
        refine a_iconst (v := 1) d_M_isTrue_125 (by decide) ?_
        refine a_goto (tgt := 130) d_M_isTrue_126 (by decide) ?_
        refine a_istore d_M_isTrue_130 (by decide) ?_
        refine a_iload d_M_isTrue_132 rfl ?_
        refine a_aload_n d_M_isTrue_134 rfl rfl ?_
        refine m_get d_M_isTrue_135 f_M_103 rfl ?_
        refine a_iload_n d_M_isTrue_138 rfl rfl ?_
        refine m_zald d_M_isTrue_139 (by decide) rfl (vp_in_nI (show g < 900 by omega) (by decide)) ?_
        rw [nI_clamp (show g < 2 ^ 31 by omega)]
        refine a_icmp_eq (tgt := 147) d_M_isTrue_140 (by decide) (fun c_11 => ?_) (fun c_11 => ?_)
        · refine a_iconst (v := 0) d_M_isTrue_147 (by decide) ?_
          refine a_ireturn d_M_isTrue_148 rfl rfl ?_
          simp only [cmpF, if_neg c_1, if_neg c_2, if_neg c_3, if_neg c_4, if_pos c_5, if_pos c_9, if_pos c_11, if_true, ite_true, ite_false] at hK
          exact hK
        · refine a_iconst (v := 1) d_M_isTrue_143 (by decide) ?_
          refine a_goto (tgt := 148) d_M_isTrue_144 (by decide) ?_
          refine a_ireturn d_M_isTrue_148 rfl rfl ?_
          simp only [cmpF, if_neg c_1, if_neg c_2, if_neg c_3, if_neg c_4, if_pos c_5, if_pos c_9, if_neg c_11, if_true, ite_true, ite_false] at hK
          exact hK
  · refine a_iload d_M_isTrue_76 rfl ?_
    refine a_aload_n d_M_isTrue_78 rfl rfl ?_
    refine m_get d_M_isTrue_79 f_M_100 rfl ?_
    refine a_iload_n d_M_isTrue_82 rfl rfl ?_
    refine m_iald d_M_isTrue_83 (by decide) rfl (vp_in_nI (show g < 900 by omega) (by decide)) ?_
    rw [nI_clamp (show g < 2 ^ 31 by omega)]
    refine a_icmp_ge (tgt := 129) d_M_isTrue_84 (by decide) (fun c_12 => ?_) (fun c_12 => ?_)
    · refine a_iconst (v := 0) d_M_isTrue_129 (by decide) ?_
      refine a_istore d_M_isTrue_130 (by decide) ?_
      refine a_iload d_M_isTrue_132 rfl ?_
      refine a_aload_n d_M_isTrue_134 rfl rfl ?_
      refine m_get d_M_isTrue_135 f_M_103 rfl ?_
      refine a_iload_n d_M_isTrue_138 rfl rfl ?_
      refine m_zald d_M_isTrue_139 (by decide) rfl (vp_in_nI (show g < 900 by omega) (by decide)) ?_
      rw [nI_clamp (show g < 2 ^ 31 by omega)]
      refine a_icmp_eq (tgt := 147) d_M_isTrue_140 (by decide) (fun c_13 => ?_) (fun c_13 => ?_)
      · refine a_iconst (v := 0) d_M_isTrue_147 (by decide) ?_
        refine a_ireturn d_M_isTrue_148 rfl rfl ?_
        simp only [cmpF, if_neg c_1, if_neg c_2, if_neg c_3, if_pos c_4, if_pos c_12, if_neg (Int32.not_lt.mpr c_12), if_pos c_13, if_true, ite_true, ite_false] at hK
        exact hK
      · refine a_iconst (v := 1) d_M_isTrue_143 (by decide) ?_
        refine a_goto (tgt := 148) d_M_isTrue_144 (by decide) ?_
        refine a_ireturn d_M_isTrue_148 rfl rfl ?_
        simp only [cmpF, if_neg c_1, if_neg c_2, if_neg c_3, if_pos c_4, if_pos c_12, if_neg (Int32.not_lt.mpr c_12), if_neg c_13, if_true, ite_true, ite_false] at hK
        exact hK
    · refine a_goto (tgt := 125) d_M_isTrue_87 (by decide) ?_
      refine a_iconst (v := 1) d_M_isTrue_125 (by decide) ?_
      refine a_goto (tgt := 130) d_M_isTrue_126 (by decide) ?_
      refine a_istore d_M_isTrue_130 (by decide) ?_
      refine a_iload d_M_isTrue_132 rfl ?_
      refine a_aload_n d_M_isTrue_134 rfl rfl ?_
      refine m_get d_M_isTrue_135 f_M_103 rfl ?_
      refine a_iload_n d_M_isTrue_138 rfl rfl ?_
      refine m_zald d_M_isTrue_139 (by decide) rfl (vp_in_nI (show g < 900 by omega) (by decide)) ?_
      rw [nI_clamp (show g < 2 ^ 31 by omega)]
      refine a_icmp_eq (tgt := 147) d_M_isTrue_140 (by decide) (fun c_14 => ?_) (fun c_14 => ?_)
      · refine a_iconst (v := 0) d_M_isTrue_147 (by decide) ?_
        refine a_ireturn d_M_isTrue_148 rfl rfl ?_
        simp only [cmpF, if_neg c_1, if_neg c_2, if_neg c_3, if_pos c_4, if_neg c_12, if_pos (Int32.not_le.mp c_12), if_pos c_14, if_true, ite_true, ite_false] at hK
        exact hK
      · refine a_iconst (v := 1) d_M_isTrue_143 (by decide) ?_
        refine a_goto (tgt := 148) d_M_isTrue_144 (by decide) ?_
        refine a_ireturn d_M_isTrue_148 rfl rfl ?_
        simp only [cmpF, if_neg c_1, if_neg c_2, if_neg c_3, if_pos c_4, if_neg c_12, if_pos (Int32.not_le.mp c_12), if_neg c_14, if_true, ite_true, ite_false] at hK
        exact hK

set_option maxHeartbeats 1000000 in
set_option maxRecDepth 100000 in
theorem it_0T {g t v : Nat} (hg : g < 900) (hv : v ≤ 15) (h25 : x.2.2.1 25 g = 0) (ht : t < 3) (hc : nI t < nI (v % 4)) (h26 : x.2.2.1 26 g = nI t) (hK : K (some (.int (if cmpF (x.2.2.1 8 t) (x.2.2.1 28 g) (x.2.2.1 29 g) = x.2.2.1 30 g then 0 else 1))) (mk σ0 m x)) : a_C G m_M_isTrue 0 0 [.ref m, .int (nI g), .int (nI v)] (mk σ0 m x) K := by
  refine a_enter rfl (Nat.le_of_ble_eq_true rfl) ?_
  refine a_aload_n d_M_isTrue_0 rfl rfl ?_
  refine m_get d_M_isTrue_1 f_M_88 rfl ?_
  refine a_iload_n d_M_isTrue_4 rfl rfl ?_
  refine m_zald d_M_isTrue_5 (by decide) rfl (vp_in_nI (show g < 900 by omega) (by decide)) ?_
  rw [nI_clamp (show g < 2 ^ 31 by omega)]
  refine a_if_ne (tgt := 21) d_M_isTrue_6 (by decide) (fun n9 => absurd (h25) n9) (fun c_1 => ?_)
  refine a_aload_n d_M_isTrue_9 rfl rfl ?_
  refine m_get d_M_isTrue_10 f_M_91 rfl ?_
  refine a_iload_n d_M_isTrue_13 rfl rfl ?_
  refine m_iald d_M_isTrue_14 (by decide) rfl (vp_in_nI (show g < 900 by omega) (by decide)) ?_
  rw [nI_clamp (show g < 2 ^ 31 by omega)]
  refine a_iload_n d_M_isTrue_15 rfl rfl ?_
  refine a_iconst (v := 4) d_M_isTrue_16 (by decide) ?_
  refine a_irem d_M_isTrue_17 (by decide) ?_
  rw [show nI v - nI v / 4 * 4 = nI (v % 4) from pk_rem (d := 4) (by omega) (by decide) (by decide), h26]
  refine a_icmp_ge (tgt := 25) d_M_isTrue_18 (by decide) (fun n9 => absurd n9 (Int32.not_le.mpr hc)) (fun c_2 => ?_)
  refine a_iconst (v := 1) d_M_isTrue_21 (by decide) ?_
  refine a_goto (tgt := 26) d_M_isTrue_22 (by decide) ?_
  refine a_istore_n d_M_isTrue_26 rfl (by decide) ?_
  refine a_aload_n d_M_isTrue_27 rfl rfl ?_
  refine m_get d_M_isTrue_28 f_M_88 rfl ?_
  refine a_iload_n d_M_isTrue_31 rfl rfl ?_
  refine m_zald d_M_isTrue_32 (by decide) rfl (vp_in_nI (show g < 900 by omega) (by decide)) ?_
  rw [nI_clamp (show g < 2 ^ 31 by omega)]
  refine a_if_eq (tgt := 50) d_M_isTrue_33 (by decide) (fun c_3 => ?_) (fun n9 => absurd (h25) n9)
  refine a_aload_n d_M_isTrue_50 rfl rfl ?_
  refine m_get d_M_isTrue_51 f_M_35 rfl ?_
  refine a_aload_n d_M_isTrue_54 rfl rfl ?_
  refine m_get d_M_isTrue_55 f_M_91 rfl ?_
  refine a_iload_n d_M_isTrue_58 rfl rfl ?_
  refine m_iald d_M_isTrue_59 (by decide) rfl (vp_in_nI (show g < 900 by omega) (by decide)) ?_
  rw [nI_clamp (show g < 2 ^ 31 by omega)]
  rw [h26]
  refine m_iald d_M_isTrue_60 (by decide) rfl (vp_in_nI (show t < 3 by omega) (by decide)) ?_
  rw [nI_clamp (show t < 2 ^ 31 by omega)]
  refine a_istore d_M_isTrue_61 (by decide) ?_
  refine a_iload_n d_M_isTrue_63 rfl rfl ?_
  refine a_if_eq (tgt := 129) d_M_isTrue_64 (by decide) (fun n9 => absurd n9 (by decide)) (fun c_4 => ?_)
  refine a_aload_n d_M_isTrue_67 rfl rfl ?_
  refine m_get d_M_isTrue_68 f_M_97 rfl ?_
  refine a_iload_n d_M_isTrue_71 rfl rfl ?_
  refine m_iald d_M_isTrue_72 (by decide) rfl (vp_in_nI (show g < 900 by omega) (by decide)) ?_
  rw [nI_clamp (show g < 2 ^ 31 by omega)]
  refine a_if_ne (tgt := 90) d_M_isTrue_73 (by decide) (fun c_5 => ?_) (fun c_5 => ?_)
  · refine a_aload_n d_M_isTrue_90 rfl rfl ?_
    refine m_get d_M_isTrue_91 f_M_97 rfl ?_
    refine a_iload_n d_M_isTrue_94 rfl rfl ?_
    refine m_iald d_M_isTrue_95 (by decide) rfl (vp_in_nI (show g < 900 by omega) (by decide)) ?_
    rw [nI_clamp (show g < 2 ^ 31 by omega)]
    refine a_iconst (v := 1) d_M_isTrue_96 (by decide) ?_
    refine a_icmp_ne (tgt := 114) d_M_isTrue_97 (by decide) (fun c_6 => ?_) (fun c_6 => ?_)
    · refine a_iload d_M_isTrue_114 rfl ?_
      refine a_aload_n d_M_isTrue_116 rfl rfl ?_
      refine m_get d_M_isTrue_117 f_M_100 rfl ?_
      refine a_iload_n d_M_isTrue_120 rfl rfl ?_
      refine m_iald d_M_isTrue_121 (by decide) rfl (vp_in_nI (show g < 900 by omega) (by decide)) ?_
      rw [nI_clamp (show g < 2 ^ 31 by omega)]
      refine a_icmp_le (tgt := 129) d_M_isTrue_122 (by decide) (fun c_7 => ?_) (fun c_7 => ?_)
      · refine a_iconst (v := 0) d_M_isTrue_129 (by decide) ?_
        refine a_istore d_M_isTrue_130 (by decide) ?_
        refine a_iload d_M_isTrue_132 rfl ?_
        refine a_aload_n d_M_isTrue_134 rfl rfl ?_
        refine m_get d_M_isTrue_135 f_M_103 rfl ?_
        refine a_iload_n d_M_isTrue_138 rfl rfl ?_
        refine m_zald d_M_isTrue_139 (by decide) rfl (vp_in_nI (show g < 900 by omega) (by decide)) ?_
        rw [nI_clamp (show g < 2 ^ 31 by omega)]
        refine a_icmp_eq (tgt := 147) d_M_isTrue_140 (by decide) (fun c_8 => ?_) (fun c_8 => ?_)
        · refine a_iconst (v := 0) d_M_isTrue_147 (by decide) ?_
          refine a_ireturn d_M_isTrue_148 rfl rfl ?_
          simp only [cmpF, if_pos c_1, if_neg c_2, if_pos (Int32.not_le.mp c_2), if_pos c_3, if_neg c_4, if_neg c_5, if_neg c_6, if_pos c_7, if_neg (Int32.not_lt.mpr c_7), if_pos c_8, if_true, ite_true, ite_false] at hK
          exact hK
        · refine a_iconst (v := 1) d_M_isTrue_143 (by decide) ?_
          refine a_goto (tgt := 148) d_M_isTrue_144 (by decide) ?_
          refine a_ireturn d_M_isTrue_148 rfl rfl ?_
          simp only [cmpF, if_pos c_1, if_neg c_2, if_pos (Int32.not_le.mp c_2), if_pos c_3, if_neg c_4, if_neg c_5, if_neg c_6, if_pos c_7, if_neg (Int32.not_lt.mpr c_7), if_neg c_8, if_true, ite_true, ite_false] at hK
          exact hK
      · refine a_iconst (v := 1) d_M_isTrue_125 (by decide) ?_
        refine a_goto (tgt := 130) d_M_isTrue_126 (by decide) ?_
        refine a_istore d_M_isTrue_130 (by decide) ?_
        refine a_iload d_M_isTrue_132 rfl ?_
        refine a_aload_n d_M_isTrue_134 rfl rfl ?_
        refine m_get d_M_isTrue_135 f_M_103 rfl ?_
        refine a_iload_n d_M_isTrue_138 rfl rfl ?_
        refine m_zald d_M_isTrue_139 (by decide) rfl (vp_in_nI (show g < 900 by omega) (by decide)) ?_
        rw [nI_clamp (show g < 2 ^ 31 by omega)]
        refine a_icmp_eq (tgt := 147) d_M_isTrue_140 (by decide) (fun c_9 => ?_) (fun c_9 => ?_)
        · refine a_iconst (v := 0) d_M_isTrue_147 (by decide) ?_
          refine a_ireturn d_M_isTrue_148 rfl rfl ?_
          simp only [cmpF, if_pos c_1, if_neg c_2, if_pos (Int32.not_le.mp c_2), if_pos c_3, if_neg c_4, if_neg c_5, if_neg c_6, if_neg c_7, if_pos (Int32.not_le.mp c_7), if_pos c_9, if_true, ite_true, ite_false] at hK
          exact hK
        · refine a_iconst (v := 1) d_M_isTrue_143 (by decide) ?_
          refine a_goto (tgt := 148) d_M_isTrue_144 (by decide) ?_
          refine a_ireturn d_M_isTrue_148 rfl rfl ?_
          simp only [cmpF, if_pos c_1, if_neg c_2, if_pos (Int32.not_le.mp c_2), if_pos c_3, if_neg c_4, if_neg c_5, if_neg c_6, if_neg c_7, if_pos (Int32.not_le.mp c_7), if_neg c_9, if_true, ite_true, ite_false] at hK
          exact hK
    · refine a_iload d_M_isTrue_100 rfl ?_
      refine a_aload_n d_M_isTrue_102 rfl rfl ?_
      refine m_get d_M_isTrue_103 f_M_100 rfl ?_
      refine a_iload_n d_M_isTrue_106 rfl rfl ?_
      refine m_iald d_M_isTrue_107 (by decide) rfl (vp_in_nI (show g < 900 by omega) (by decide)) ?_
      rw [nI_clamp (show g < 2 ^ 31 by omega)]
      refine a_icmp_ne (tgt := 129) d_M_isTrue_108 (by decide) (fun c_10 => ?_) (fun c_10 => ?_)
      · refine a_iconst (v := 0) d_M_isTrue_129 (by decide) ?_
        refine a_istore d_M_isTrue_130 (by decide) ?_
        refine a_iload d_M_isTrue_132 rfl ?_
        refine a_aload_n d_M_isTrue_134 rfl rfl ?_
        refine m_get d_M_isTrue_135 f_M_103 rfl ?_
        refine a_iload_n d_M_isTrue_138 rfl rfl ?_
        refine m_zald d_M_isTrue_139 (by decide) rfl (vp_in_nI (show g < 900 by omega) (by decide)) ?_
        rw [nI_clamp (show g < 2 ^ 31 by omega)]
        refine a_icmp_eq (tgt := 147) d_M_isTrue_140 (by decide) (fun c_11 => ?_) (fun c_11 => ?_)
        · refine a_iconst (v := 0) d_M_isTrue_147 (by decide) ?_
          refine a_ireturn d_M_isTrue_148 rfl rfl ?_
          simp only [cmpF, if_pos c_1, if_neg c_2, if_pos (Int32.not_le.mp c_2), if_pos c_3, if_neg c_4, if_neg c_5, if_pos c_6, if_neg c_10, if_pos c_11, if_true, ite_true, ite_false] at hK
          exact hK
        · refine a_iconst (v := 1) d_M_isTrue_143 (by decide) ?_
          refine a_goto (tgt := 148) d_M_isTrue_144 (by decide) ?_
          refine a_ireturn d_M_isTrue_148 rfl rfl ?_
          simp only [cmpF, if_pos c_1, if_neg c_2, if_pos (Int32.not_le.mp c_2), if_pos c_3, if_neg c_4, if_neg c_5, if_pos c_6, if_neg c_10, if_neg c_11, if_true, ite_true, ite_false] at hK
          exact hK
      · refine a_goto (tgt := 125) d_M_isTrue_111 (by decide) ?_
        refine a_iconst (v := 1) d_M_isTrue_125 (by decide) ?_
        refine a_goto (tgt := 130) d_M_isTrue_126 (by decide) ?_
        refine a_istore d_M_isTrue_130 (by decide) ?_
        refine a_iload d_M_isTrue_132 rfl ?_
        refine a_aload_n d_M_isTrue_134 rfl rfl ?_
        refine m_get d_M_isTrue_135 f_M_103 rfl ?_
        refine a_iload_n d_M_isTrue_138 rfl rfl ?_
        refine m_zald d_M_isTrue_139 (by decide) rfl (vp_in_nI (show g < 900 by omega) (by decide)) ?_
        rw [nI_clamp (show g < 2 ^ 31 by omega)]
        refine a_icmp_eq (tgt := 147) d_M_isTrue_140 (by decide) (fun c_12 => ?_) (fun c_12 => ?_)
        · refine a_iconst (v := 0) d_M_isTrue_147 (by decide) ?_
          refine a_ireturn d_M_isTrue_148 rfl rfl ?_
          simp only [cmpF, if_pos c_1, if_neg c_2, if_pos (Int32.not_le.mp c_2), if_pos c_3, if_neg c_4, if_neg c_5, if_pos c_6, if_pos c_10, if_pos c_12, if_true, ite_true, ite_false] at hK
          exact hK
        · refine a_iconst (v := 1) d_M_isTrue_143 (by decide) ?_
          refine a_goto (tgt := 148) d_M_isTrue_144 (by decide) ?_
          refine a_ireturn d_M_isTrue_148 rfl rfl ?_
          simp only [cmpF, if_pos c_1, if_neg c_2, if_pos (Int32.not_le.mp c_2), if_pos c_3, if_neg c_4, if_neg c_5, if_pos c_6, if_pos c_10, if_neg c_12, if_true, ite_true, ite_false] at hK
          exact hK
  · refine a_iload d_M_isTrue_76 rfl ?_
    refine a_aload_n d_M_isTrue_78 rfl rfl ?_
    refine m_get d_M_isTrue_79 f_M_100 rfl ?_
    refine a_iload_n d_M_isTrue_82 rfl rfl ?_
    refine m_iald d_M_isTrue_83 (by decide) rfl (vp_in_nI (show g < 900 by omega) (by decide)) ?_
    rw [nI_clamp (show g < 2 ^ 31 by omega)]
    refine a_icmp_ge (tgt := 129) d_M_isTrue_84 (by decide) (fun c_13 => ?_) (fun c_13 => ?_)
    · refine a_iconst (v := 0) d_M_isTrue_129 (by decide) ?_
      refine a_istore d_M_isTrue_130 (by decide) ?_
      refine a_iload d_M_isTrue_132 rfl ?_
      refine a_aload_n d_M_isTrue_134 rfl rfl ?_
      refine m_get d_M_isTrue_135 f_M_103 rfl ?_
      refine a_iload_n d_M_isTrue_138 rfl rfl ?_
      refine m_zald d_M_isTrue_139 (by decide) rfl (vp_in_nI (show g < 900 by omega) (by decide)) ?_
      rw [nI_clamp (show g < 2 ^ 31 by omega)]
      refine a_icmp_eq (tgt := 147) d_M_isTrue_140 (by decide) (fun c_14 => ?_) (fun c_14 => ?_)
      · refine a_iconst (v := 0) d_M_isTrue_147 (by decide) ?_
        refine a_ireturn d_M_isTrue_148 rfl rfl ?_
        simp only [cmpF, if_pos c_1, if_neg c_2, if_pos (Int32.not_le.mp c_2), if_pos c_3, if_neg c_4, if_pos c_5, if_pos c_13, if_neg (Int32.not_lt.mpr c_13), if_pos c_14, if_true, ite_true, ite_false] at hK
        exact hK
      · refine a_iconst (v := 1) d_M_isTrue_143 (by decide) ?_
        refine a_goto (tgt := 148) d_M_isTrue_144 (by decide) ?_
        refine a_ireturn d_M_isTrue_148 rfl rfl ?_
        simp only [cmpF, if_pos c_1, if_neg c_2, if_pos (Int32.not_le.mp c_2), if_pos c_3, if_neg c_4, if_pos c_5, if_pos c_13, if_neg (Int32.not_lt.mpr c_13), if_neg c_14, if_true, ite_true, ite_false] at hK
        exact hK
    · refine a_goto (tgt := 125) d_M_isTrue_87 (by decide) ?_
      refine a_iconst (v := 1) d_M_isTrue_125 (by decide) ?_
      refine a_goto (tgt := 130) d_M_isTrue_126 (by decide) ?_
      refine a_istore d_M_isTrue_130 (by decide) ?_
      refine a_iload d_M_isTrue_132 rfl ?_
      refine a_aload_n d_M_isTrue_134 rfl rfl ?_
      refine m_get d_M_isTrue_135 f_M_103 rfl ?_
      refine a_iload_n d_M_isTrue_138 rfl rfl ?_
      refine m_zald d_M_isTrue_139 (by decide) rfl (vp_in_nI (show g < 900 by omega) (by decide)) ?_
      rw [nI_clamp (show g < 2 ^ 31 by omega)]
      refine a_icmp_eq (tgt := 147) d_M_isTrue_140 (by decide) (fun c_15 => ?_) (fun c_15 => ?_)
      · refine a_iconst (v := 0) d_M_isTrue_147 (by decide) ?_
        refine a_ireturn d_M_isTrue_148 rfl rfl ?_
        simp only [cmpF, if_pos c_1, if_neg c_2, if_pos (Int32.not_le.mp c_2), if_pos c_3, if_neg c_4, if_pos c_5, if_neg c_13, if_pos (Int32.not_le.mp c_13), if_pos c_15, if_true, ite_true, ite_false] at hK
        exact hK
      · refine a_iconst (v := 1) d_M_isTrue_143 (by decide) ?_
        refine a_goto (tgt := 148) d_M_isTrue_144 (by decide) ?_
        refine a_ireturn d_M_isTrue_148 rfl rfl ?_
        simp only [cmpF, if_pos c_1, if_neg c_2, if_pos (Int32.not_le.mp c_2), if_pos c_3, if_neg c_4, if_pos c_5, if_neg c_13, if_pos (Int32.not_le.mp c_13), if_neg c_15, if_true, ite_true, ite_false] at hK
        exact hK

set_option maxHeartbeats 1000000 in
set_option maxRecDepth 100000 in
theorem it_0F {g t v : Nat} (hg : g < 900) (hv : v ≤ 15) (h25 : x.2.2.1 25 g = 0) (ht : t < 3) (hc : ¬ nI t < nI (v % 4)) (h26 : x.2.2.1 26 g = nI t) (hK : K (some (.int (if (0 : Int32) = x.2.2.1 30 g then 0 else 1))) (mk σ0 m x)) : a_C G m_M_isTrue 0 0 [.ref m, .int (nI g), .int (nI v)] (mk σ0 m x) K := by
  refine a_enter rfl (Nat.le_of_ble_eq_true rfl) ?_
  refine a_aload_n d_M_isTrue_0 rfl rfl ?_
  refine m_get d_M_isTrue_1 f_M_88 rfl ?_
  refine a_iload_n d_M_isTrue_4 rfl rfl ?_
  refine m_zald d_M_isTrue_5 (by decide) rfl (vp_in_nI (show g < 900 by omega) (by decide)) ?_
  rw [nI_clamp (show g < 2 ^ 31 by omega)]
  refine a_if_ne (tgt := 21) d_M_isTrue_6 (by decide) (fun n9 => absurd (h25) n9) (fun c_1 => ?_)
  refine a_aload_n d_M_isTrue_9 rfl rfl ?_
  refine m_get d_M_isTrue_10 f_M_91 rfl ?_
  refine a_iload_n d_M_isTrue_13 rfl rfl ?_
  refine m_iald d_M_isTrue_14 (by decide) rfl (vp_in_nI (show g < 900 by omega) (by decide)) ?_
  rw [nI_clamp (show g < 2 ^ 31 by omega)]
  refine a_iload_n d_M_isTrue_15 rfl rfl ?_
  refine a_iconst (v := 4) d_M_isTrue_16 (by decide) ?_
  refine a_irem d_M_isTrue_17 (by decide) ?_
  rw [show nI v - nI v / 4 * 4 = nI (v % 4) from pk_rem (d := 4) (by omega) (by decide) (by decide), h26]
  refine a_icmp_ge (tgt := 25) d_M_isTrue_18 (by decide) (fun c_2 => ?_) (fun n9 => absurd (Int32.not_lt.mp hc) n9)
  refine a_iconst (v := 0) d_M_isTrue_25 (by decide) ?_
  refine a_istore_n d_M_isTrue_26 rfl (by decide) ?_
  refine a_aload_n d_M_isTrue_27 rfl rfl ?_
  refine m_get d_M_isTrue_28 f_M_88 rfl ?_
  refine a_iload_n d_M_isTrue_31 rfl rfl ?_
  refine m_zald d_M_isTrue_32 (by decide) rfl (vp_in_nI (show g < 900 by omega) (by decide)) ?_
  rw [nI_clamp (show g < 2 ^ 31 by omega)]
  refine a_if_eq (tgt := 50) d_M_isTrue_33 (by decide) (fun c_3 => ?_) (fun n9 => absurd (h25) n9)
  refine a_aload_n d_M_isTrue_50 rfl rfl ?_
  refine m_get d_M_isTrue_51 f_M_35 rfl ?_
  refine a_aload_n d_M_isTrue_54 rfl rfl ?_
  refine m_get d_M_isTrue_55 f_M_91 rfl ?_
  refine a_iload_n d_M_isTrue_58 rfl rfl ?_
  refine m_iald d_M_isTrue_59 (by decide) rfl (vp_in_nI (show g < 900 by omega) (by decide)) ?_
  rw [nI_clamp (show g < 2 ^ 31 by omega)]
  rw [h26]
  refine m_iald d_M_isTrue_60 (by decide) rfl (vp_in_nI (show t < 3 by omega) (by decide)) ?_
  rw [nI_clamp (show t < 2 ^ 31 by omega)]
  refine a_istore d_M_isTrue_61 (by decide) ?_
  refine a_iload_n d_M_isTrue_63 rfl rfl ?_
  refine a_if_eq (tgt := 129) d_M_isTrue_64 (by decide) (fun c_4 => ?_) (fun n9 => absurd (rfl) n9)
  refine a_iconst (v := 0) d_M_isTrue_129 (by decide) ?_
  refine a_istore d_M_isTrue_130 (by decide) ?_
  refine a_iload d_M_isTrue_132 rfl ?_
  refine a_aload_n d_M_isTrue_134 rfl rfl ?_
  refine m_get d_M_isTrue_135 f_M_103 rfl ?_
  refine a_iload_n d_M_isTrue_138 rfl rfl ?_
  refine m_zald d_M_isTrue_139 (by decide) rfl (vp_in_nI (show g < 900 by omega) (by decide)) ?_
  rw [nI_clamp (show g < 2 ^ 31 by omega)]
  refine a_icmp_eq (tgt := 147) d_M_isTrue_140 (by decide) (fun c_5 => ?_) (fun c_5 => ?_)
  · refine a_iconst (v := 0) d_M_isTrue_147 (by decide) ?_
    refine a_ireturn d_M_isTrue_148 rfl rfl ?_
    simp only [cmpF, if_pos c_1, if_pos c_2, if_neg (Int32.not_lt.mpr c_2), if_pos c_3, if_pos c_4, if_pos c_5, if_true, ite_true, ite_false] at hK
    exact hK
  · refine a_iconst (v := 1) d_M_isTrue_143 (by decide) ?_
    refine a_goto (tgt := 148) d_M_isTrue_144 (by decide) ?_
    refine a_ireturn d_M_isTrue_148 rfl rfl ?_
    simp only [cmpF, if_pos c_1, if_pos c_2, if_neg (Int32.not_lt.mpr c_2), if_pos c_3, if_pos c_4, if_neg c_5, if_true, ite_true, ite_false] at hK
    exact hK

theorem arg_N : ∀ v, v ≤ 15 → argN (nI v) = nI (v % 4) := by decide +kernel
theorem arg_F {x : aX} {l : aC} (h : MA x l) : ∀ t, t < 3 → x.2.2.1 8 t = argF l (nI t)
  | 0, _ => h.2.1
  | 1, _ => h.2.2.1
  | 2, _ => h.2.2.2.1
theorem sp_M_isTrue {g : Nat} (h : MGd c x) (hF : FQ c) (hg : g < c.1 8 0) (hS : ∀ k, k < c.1 4 0 → x.2.2.1 9 k = S k) (hA : MA x l) (hK : K (some (.int (tvF c S l g))) (mk σ0 m x)) : a_C G m_M_isTrue 0 0 [.ref m, .int (nI g), .int l.1] (mk σ0 m x) K := by
  obtain ⟨v, hv, hl⟩ := hA.2.2.2.2
  have h8 := hF.2.2.2.2.2.1.1
  have h6 := hF.1.1
  have hb := hF.2.2.2.2.2.2.1 g
  have ht := hF.2.2.2.2.2.2.2.2.1 g hg
  have hm := h.2.2.1 g hg
  rw [hl]
  unfold tvF plF at hK
  by_cases z : c.1 36 g = 1
  · rw [if_pos z] at hK
    have t6 := ht.1 z
    refine it_1 (t := c.1 37 g) (by omega) hv (by rw [hm.1, z]; rfl) (by omega) hm.2.1 ?_
    rw [hS _ t6, hm.2.2.2.1, hm.2.2.2.2.1, hm.2.2.2.2.2]
    exact hK
  · have z0 : c.1 36 g = 0 := by omega
    have t3 := ht.2 z
    rw [if_neg z, hl, arg_N v hv] at hK
    by_cases hc : nI (c.1 37 g) < nI (v % 4)
    · rw [if_pos hc] at hK
      refine it_0T (t := c.1 37 g) (by omega) hv (by rw [hm.1, z0]; rfl) (by omega) hc hm.2.1 ?_
      rw [arg_F hA _ (by omega), hm.2.2.2.1, hm.2.2.2.2.1, hm.2.2.2.2.2]
      exact hK
    · rw [if_neg hc] at hK
      refine it_0F (t := c.1 37 g) (by omega) hv (by rw [hm.1, z0]; rfl) (by omega) hc hm.2.1 ?_
      rw [hm.2.2.2.2.2]
      exact hK
set_option maxHeartbeats 1000000 in
set_option maxRecDepth 100000 in
theorem lp_M_hold0 {F N : Nat} (hN : F + N < 2 ^ 30) (hK : K (some (.int 0)) (mk σ0 m x)) : ∀ (k g : Nat), g + k = F + N → a_J G m_M_hold 1 25 6 [(0, .ref m), (1, .int (nI F)), (2, .int (nI N)), (3, .int l.1), (4, .int 0), (5, .int (nI g))] [] (mk σ0 m x) K := by
  intro k
  induction k with
  | zero =>
    intro g hk
    refine a_iload d_M_hold_6 rfl ?_
    refine a_iload_n d_M_hold_8 rfl rfl ?_
    refine a_iload_n d_M_hold_9 rfl rfl ?_
    refine a_iadd d_M_hold_10 ?_
    rw [nI_add]
    refine a_icmp_ge (tgt := 42) d_M_hold_11 (by decide) (fun c_1 => ?_) (fun n9 => absurd (nI_le (by omega) (by omega)) n9)
    refine a_iload d_M_hold_42 rfl ?_
    exact a_ireturn d_M_hold_44 rfl rfl hK
  | succ k ih =>
    intro g hk
    refine a_iload d_M_hold_6 rfl ?_
    refine a_iload_n d_M_hold_8 rfl rfl ?_
    refine a_iload_n d_M_hold_9 rfl rfl ?_
    refine a_iadd d_M_hold_10 ?_
    rw [nI_add]
    refine a_icmp_ge (tgt := 42) d_M_hold_11 (by decide) (fun n9 => absurd n9 (nI_ge (by omega) (by omega))) (fun c_1 => ?_)
    refine a_iload d_M_hold_14 rfl ?_
    refine a_if_eq (tgt := 33) d_M_hold_16 (by decide) (fun c_2 => ?_) (fun n9 => absurd (rfl) n9)
    refine a_iconst (v := 0) d_M_hold_33 (by decide) ?_
    refine a_istore d_M_hold_34 (by decide) ?_
    refine a_iinc (c0 := 1) d_M_hold_36 rfl (by decide) (by decide) ?_
    refine a_goto (tgt := 6) d_M_hold_39 (by decide) ?_
    rw [nI_1]
    exact a_lvk (ih (g + 1) (by omega)) ⟨rfl, rfl, rfl, rfl, rfl, rfl, trivial⟩

set_option maxHeartbeats 1000000 in
set_option maxRecDepth 100000 in
theorem lp_M_hold {F N : Nat} (hN : F + N ≤ c.1 8 0) (h : MGd c x) (hF : FQ c) (hS : ∀ k, k < c.1 4 0 → x.2.2.1 9 k = S k) (hA : MA x l) : ∀ (k g : Nat), g + k = F + N → K (some (.int (apM c S l g k))) (mk σ0 m x) → a_J G m_M_hold 1 25 6 [(0, .ref m), (1, .int (nI F)), (2, .int (nI N)), (3, .int l.1), (4, .int 1), (5, .int (nI g))] [] (mk σ0 m x) K := by
  have h8 := hF.2.2.2.2.2.1.1
  intro k
  induction k with
  | zero =>
    intro g hk hK
    refine a_iload d_M_hold_6 rfl ?_
    refine a_iload_n d_M_hold_8 rfl rfl ?_
    refine a_iload_n d_M_hold_9 rfl rfl ?_
    refine a_iadd d_M_hold_10 ?_
    rw [nI_add]
    refine a_icmp_ge (tgt := 42) d_M_hold_11 (by decide) (fun c_1 => ?_) (fun n9 => absurd (nI_le (by omega) (by omega)) n9)
    refine a_iload d_M_hold_42 rfl ?_
    exact a_ireturn d_M_hold_44 rfl rfl hK
  | succ k ih =>
    intro g hk hK
    refine a_iload d_M_hold_6 rfl ?_
    refine a_iload_n d_M_hold_8 rfl rfl ?_
    refine a_iload_n d_M_hold_9 rfl rfl ?_
    refine a_iadd d_M_hold_10 ?_
    rw [nI_add]
    refine a_icmp_ge (tgt := 42) d_M_hold_11 (by decide) (fun n9 => absurd n9 (nI_ge (by omega) (by omega))) (fun c_1 => ?_)
    refine a_iload d_M_hold_14 rfl ?_
    refine a_if_eq (tgt := 33) d_M_hold_16 (by decide) (fun n9 => absurd n9 (by decide)) (fun c_2 => ?_)
    refine a_aload_n d_M_hold_19 rfl rfl ?_
    refine a_iload d_M_hold_20 rfl ?_
    refine a_iload_n d_M_hold_22 rfl rfl ?_
    apply a_callV (ci := 7) 0 0 [_, _] _ d_M_hold_23 l_M_336 ⟨im_M_isTrue, se_M_isTrue⟩ rfl rfl rfl rfl (Nat.le_of_ble_eq_true rfl) ⟨Nat.le_of_ble_eq_true rfl, Nat.le_of_ble_eq_true rfl⟩
    · (exact mk_O)
    refine sp_M_isTrue (S := S) h hF (by omega) hS hA ?_
    refine a_if_eq (tgt := 33) d_M_hold_26 (by decide) (fun c_3 => ?_) (fun c_3 => ?_)
    · refine a_iconst (v := 0) d_M_hold_33 (by decide) ?_
      refine a_istore d_M_hold_34 (by decide) ?_
      refine a_iinc (c0 := 1) d_M_hold_36 rfl (by decide) (by decide) ?_
      refine a_goto (tgt := 6) d_M_hold_39 (by decide) ?_
      rw [nI_1]
      simp only [apM, if_neg c_1, if_pos (Int32.not_le.mp c_1), if_neg c_2, if_pos c_3, if_true] at hK
      first | exact a_lvk (lp_M_hold0 (by omega) hK k (g + 1) (by omega)) ⟨rfl, rfl, rfl, rfl, rfl, rfl, trivial⟩ | exact a_lvk (ih (g + 1) (by omega) hK) ⟨rfl, rfl, rfl, rfl, rfl, rfl, trivial⟩
    · refine a_iconst (v := 1) d_M_hold_29 (by decide) ?_
      refine a_goto (tgt := 34) d_M_hold_30 (by decide) ?_
      refine a_istore d_M_hold_34 (by decide) ?_
      refine a_iinc (c0 := 1) d_M_hold_36 rfl (by decide) (by decide) ?_
      refine a_goto (tgt := 6) d_M_hold_39 (by decide) ?_
      rw [nI_1]
      simp only [apM, if_neg c_1, if_pos (Int32.not_le.mp c_1), if_neg c_2, if_neg c_3, if_true] at hK
      first | exact a_lvk (lp_M_hold0 (by omega) hK k (g + 1) (by omega)) ⟨rfl, rfl, rfl, rfl, rfl, rfl, trivial⟩ | exact a_lvk (ih (g + 1) (by omega) hK) ⟨rfl, rfl, rfl, rfl, rfl, rfl, trivial⟩

set_option maxHeartbeats 1000000 in
set_option maxRecDepth 100000 in
theorem sp_M_hold {F N : Nat} (hN : F + N ≤ c.1 8 0) (h : MGd c x) (hF : FQ c) (hS : ∀ k, k < c.1 4 0 → x.2.2.1 9 k = S k) (hA : MA x l) (hK : K (some (.int (apM c S l F N))) (mk σ0 m x)) : a_C G m_M_hold 1 25 [.ref m, .int (nI F), .int (nI N), .int l.1] (mk σ0 m x) K := by
  refine a_enter rfl (Nat.le_of_ble_eq_true rfl) ?_
  refine a_iconst (v := 1) d_M_hold_0 (by decide) ?_
  refine a_istore d_M_hold_1 (by decide) ?_
  refine a_iload_n d_M_hold_3 rfl rfl ?_
  refine a_istore d_M_hold_4 (by decide) ?_
  exact a_lvk (lp_M_hold hN h hF hS hA N F (by omega) hK) ⟨rfl, rfl, rfl, rfl, rfl, rfl, trivial⟩

set_option maxHeartbeats 1000000 in
set_option maxRecDepth 100000 in
theorem so_0 {w : Int32} {r : Nat} {H : Int32} (hw : w = 0) (hr : r < 24) (hH : ∀ K2 : Option Value → aS → Prop, K2 (some (.int H)) (mk σ0 m x) → a_C G m_M_hold 1 25 [.ref m, .int (x.2.2.1 16 r), .int (x.2.2.1 17 r), .int l.1] (mk σ0 m x) K2) (hK : K (some (.int (if x.2.2.1 15 r < 0 then (if H = 0 then 0 else 1) else if x.2.2.1 15 r = l.1 then (if H = 0 then 0 else 1) else 0))) (mk σ0 m x)) : a_C G m_M_isSo 2 50 [.ref m, .int w, .int (nI r), .int l.1] (mk σ0 m x) K := by
  refine a_enter rfl (Nat.le_of_ble_eq_true rfl) ?_
  refine a_iload_n d_M_isSo_0 rfl rfl ?_
  refine a_if_eq (tgt := 13) d_M_isSo_1 (by decide) (fun c_1 => ?_) (fun n9 => absurd (hw) n9)
  refine a_aload_n d_M_isSo_13 rfl rfl ?_
  refine m_get d_M_isSo_14 f_M_58 rfl ?_
  refine a_iload_n d_M_isSo_17 rfl rfl ?_
  refine m_iald d_M_isSo_18 (by decide) rfl (vp_in_nI (show r < 24 by omega) (by decide)) ?_
  rw [nI_clamp (show r < 2 ^ 31 by omega)]
  refine a_istore d_M_isSo_19 (by decide) ?_
  refine a_iload d_M_isSo_21 rfl ?_
  refine a_if_lt (tgt := 32) d_M_isSo_23 (by decide) (fun c_2 => ?_) (fun c_2 => ?_)
  · refine a_aload_n d_M_isSo_32 rfl rfl ?_
    refine a_iload_n d_M_isSo_33 rfl rfl ?_
    refine a_if_eq (tgt := 46) d_M_isSo_34 (by decide) (fun c_3 => ?_) (fun n9 => absurd (hw) n9)
    refine a_aload_n d_M_isSo_46 rfl rfl ?_
    refine m_get d_M_isSo_47 f_M_61 rfl ?_
    refine a_iload_n d_M_isSo_50 rfl rfl ?_
    refine m_iald d_M_isSo_51 (by decide) rfl (vp_in_nI (show r < 24 by omega) (by decide)) ?_
    rw [nI_clamp (show r < 2 ^ 31 by omega)]
    refine a_iload_n d_M_isSo_52 rfl rfl ?_
    refine a_if_eq (tgt := 65) d_M_isSo_53 (by decide) (fun c_4 => ?_) (fun n9 => absurd (hw) n9)
    refine a_aload_n d_M_isSo_65 rfl rfl ?_
    refine m_get d_M_isSo_66 f_M_64 rfl ?_
    refine a_iload_n d_M_isSo_69 rfl rfl ?_
    refine m_iald d_M_isSo_70 (by decide) rfl (vp_in_nI (show r < 24 by omega) (by decide)) ?_
    rw [nI_clamp (show r < 2 ^ 31 by omega)]
    refine a_iload_n d_M_isSo_71 rfl rfl ?_
    apply a_callV (ci := 7) 1 25 [_, _, _] _ d_M_isSo_72 l_M_340 ⟨im_M_hold, se_M_hold⟩ rfl rfl rfl rfl (Nat.le_of_ble_eq_true rfl) ⟨Nat.le_of_ble_eq_true rfl, Nat.le_of_ble_eq_true rfl⟩
    · (exact mk_O)
    refine hH _ ?_
    refine a_if_eq (tgt := 82) d_M_isSo_75 (by decide) (fun c_5 => ?_) (fun c_5 => ?_)
    · refine a_iconst (v := 0) d_M_isSo_82 (by decide) ?_
      refine a_ireturn d_M_isSo_83 rfl rfl ?_
      simp only [cmpF, if_pos c_1, if_pos c_2, if_neg (Int32.not_le.mpr c_2), if_pos c_3, if_pos c_4, if_pos c_5, if_true, ite_true, ite_false] at hK
      exact hK
    · refine a_iconst (v := 1) d_M_isSo_78 (by decide) ?_
      refine a_goto (tgt := 83) d_M_isSo_79 (by decide) ?_
      refine a_ireturn d_M_isSo_83 rfl rfl ?_
      simp only [cmpF, if_pos c_1, if_pos c_2, if_neg (Int32.not_le.mpr c_2), if_pos c_3, if_pos c_4, if_neg c_5, if_true, ite_true, ite_false] at hK
      exact hK
  · refine a_iload d_M_isSo_26 rfl ?_
    refine a_iload_n d_M_isSo_28 rfl rfl ?_
    refine a_icmp_ne (tgt := 82) d_M_isSo_29 (by decide) (fun c_6 => ?_) (fun c_6 => ?_)
    · refine a_iconst (v := 0) d_M_isSo_82 (by decide) ?_
      refine a_ireturn d_M_isSo_83 rfl rfl ?_
      simp only [cmpF, if_pos c_1, if_neg c_2, if_pos (Int32.not_lt.mp c_2), if_neg c_6, if_true, ite_true, ite_false] at hK
      exact hK
    · refine a_aload_n d_M_isSo_32 rfl rfl ?_
      refine a_iload_n d_M_isSo_33 rfl rfl ?_
      refine a_if_eq (tgt := 46) d_M_isSo_34 (by decide) (fun c_7 => ?_) (fun n9 => absurd (hw) n9)
      refine a_aload_n d_M_isSo_46 rfl rfl ?_
      refine m_get d_M_isSo_47 f_M_61 rfl ?_
      refine a_iload_n d_M_isSo_50 rfl rfl ?_
      refine m_iald d_M_isSo_51 (by decide) rfl (vp_in_nI (show r < 24 by omega) (by decide)) ?_
      rw [nI_clamp (show r < 2 ^ 31 by omega)]
      refine a_iload_n d_M_isSo_52 rfl rfl ?_
      refine a_if_eq (tgt := 65) d_M_isSo_53 (by decide) (fun c_8 => ?_) (fun n9 => absurd (hw) n9)
      refine a_aload_n d_M_isSo_65 rfl rfl ?_
      refine m_get d_M_isSo_66 f_M_64 rfl ?_
      refine a_iload_n d_M_isSo_69 rfl rfl ?_
      refine m_iald d_M_isSo_70 (by decide) rfl (vp_in_nI (show r < 24 by omega) (by decide)) ?_
      rw [nI_clamp (show r < 2 ^ 31 by omega)]
      refine a_iload_n d_M_isSo_71 rfl rfl ?_
      apply a_callV (ci := 7) 1 25 [_, _, _] _ d_M_isSo_72 l_M_340 ⟨im_M_hold, se_M_hold⟩ rfl rfl rfl rfl (Nat.le_of_ble_eq_true rfl) ⟨Nat.le_of_ble_eq_true rfl, Nat.le_of_ble_eq_true rfl⟩
      · (exact mk_O)
      refine hH _ ?_
      refine a_if_eq (tgt := 82) d_M_isSo_75 (by decide) (fun c_9 => ?_) (fun c_9 => ?_)
      · refine a_iconst (v := 0) d_M_isSo_82 (by decide) ?_
        refine a_ireturn d_M_isSo_83 rfl rfl ?_
        simp only [cmpF, if_pos c_1, if_neg c_2, if_pos (Int32.not_lt.mp c_2), if_pos c_6, if_pos c_7, if_pos c_8, if_pos c_9, if_true, ite_true, ite_false] at hK
        exact hK
      · refine a_iconst (v := 1) d_M_isSo_78 (by decide) ?_
        refine a_goto (tgt := 83) d_M_isSo_79 (by decide) ?_
        refine a_ireturn d_M_isSo_83 rfl rfl ?_
        simp only [cmpF, if_pos c_1, if_neg c_2, if_pos (Int32.not_lt.mp c_2), if_pos c_6, if_pos c_7, if_pos c_8, if_neg c_9, if_true, ite_true, ite_false] at hK
        exact hK

set_option maxHeartbeats 1000000 in
set_option maxRecDepth 100000 in
theorem so_1 {w : Int32} {r : Nat} {H : Int32} (hw : ¬ w = 0) (hr : r < 192) (hH : ∀ K2 : Option Value → aS → Prop, K2 (some (.int H)) (mk σ0 m x) → a_C G m_M_hold 1 25 [.ref m, .int (x.2.2.1 21 r), .int (x.2.2.1 22 r), .int l.1] (mk σ0 m x) K2) (hK : K (some (.int (if x.2.2.1 20 r < 0 then (if H = 0 then 0 else 1) else if x.2.2.1 20 r = l.1 then (if H = 0 then 0 else 1) else 0))) (mk σ0 m x)) : a_C G m_M_isSo 2 50 [.ref m, .int w, .int (nI r), .int l.1] (mk σ0 m x) K := by
  refine a_enter rfl (Nat.le_of_ble_eq_true rfl) ?_
  refine a_iload_n d_M_isSo_0 rfl rfl ?_
  refine a_if_eq (tgt := 13) d_M_isSo_1 (by decide) (fun n9 => absurd n9 (hw)) (fun c_1 => ?_)
  refine a_aload_n d_M_isSo_4 rfl rfl ?_
  refine m_get d_M_isSo_5 f_M_73 rfl ?_
  refine a_iload_n d_M_isSo_8 rfl rfl ?_
  refine m_iald d_M_isSo_9 (by decide) rfl (vp_in_nI (show r < 192 by omega) (by decide)) ?_
  rw [nI_clamp (show r < 2 ^ 31 by omega)]
  refine a_goto (tgt := 19) d_M_isSo_10 (by decide) ?_
  refine a_istore d_M_isSo_19 (by decide) ?_
  refine a_iload d_M_isSo_21 rfl ?_
  refine a_if_lt (tgt := 32) d_M_isSo_23 (by decide) (fun c_2 => ?_) (fun c_2 => ?_)
  · refine a_aload_n d_M_isSo_32 rfl rfl ?_
    refine a_iload_n d_M_isSo_33 rfl rfl ?_
    refine a_if_eq (tgt := 46) d_M_isSo_34 (by decide) (fun n9 => absurd n9 (hw)) (fun c_3 => ?_)
    refine a_aload_n d_M_isSo_37 rfl rfl ?_
    refine m_get d_M_isSo_38 f_M_76 rfl ?_
    refine a_iload_n d_M_isSo_41 rfl rfl ?_
    refine m_iald d_M_isSo_42 (by decide) rfl (vp_in_nI (show r < 192 by omega) (by decide)) ?_
    rw [nI_clamp (show r < 2 ^ 31 by omega)]
    refine a_goto (tgt := 52) d_M_isSo_43 (by decide) ?_
    refine a_iload_n d_M_isSo_52 rfl rfl ?_
    refine a_if_eq (tgt := 65) d_M_isSo_53 (by decide) (fun n9 => absurd n9 (hw)) (fun c_4 => ?_)
    refine a_aload_n d_M_isSo_56 rfl rfl ?_
    refine m_get d_M_isSo_57 f_M_79 rfl ?_
    refine a_iload_n d_M_isSo_60 rfl rfl ?_
    refine m_iald d_M_isSo_61 (by decide) rfl (vp_in_nI (show r < 192 by omega) (by decide)) ?_
    rw [nI_clamp (show r < 2 ^ 31 by omega)]
    refine a_goto (tgt := 71) d_M_isSo_62 (by decide) ?_
    refine a_iload_n d_M_isSo_71 rfl rfl ?_
    apply a_callV (ci := 7) 1 25 [_, _, _] _ d_M_isSo_72 l_M_340 ⟨im_M_hold, se_M_hold⟩ rfl rfl rfl rfl (Nat.le_of_ble_eq_true rfl) ⟨Nat.le_of_ble_eq_true rfl, Nat.le_of_ble_eq_true rfl⟩
    · (exact mk_O)
    refine hH _ ?_
    refine a_if_eq (tgt := 82) d_M_isSo_75 (by decide) (fun c_5 => ?_) (fun c_5 => ?_)
    · refine a_iconst (v := 0) d_M_isSo_82 (by decide) ?_
      refine a_ireturn d_M_isSo_83 rfl rfl ?_
      simp only [cmpF, if_neg c_1, if_pos c_2, if_neg (Int32.not_le.mpr c_2), if_neg c_3, if_neg c_4, if_pos c_5, if_true, ite_true, ite_false] at hK
      exact hK
    · refine a_iconst (v := 1) d_M_isSo_78 (by decide) ?_
      refine a_goto (tgt := 83) d_M_isSo_79 (by decide) ?_
      refine a_ireturn d_M_isSo_83 rfl rfl ?_
      simp only [cmpF, if_neg c_1, if_pos c_2, if_neg (Int32.not_le.mpr c_2), if_neg c_3, if_neg c_4, if_neg c_5, if_true, ite_true, ite_false] at hK
      exact hK
  · refine a_iload d_M_isSo_26 rfl ?_
    refine a_iload_n d_M_isSo_28 rfl rfl ?_
    refine a_icmp_ne (tgt := 82) d_M_isSo_29 (by decide) (fun c_6 => ?_) (fun c_6 => ?_)
    · refine a_iconst (v := 0) d_M_isSo_82 (by decide) ?_
      refine a_ireturn d_M_isSo_83 rfl rfl ?_
      simp only [cmpF, if_neg c_1, if_neg c_2, if_pos (Int32.not_lt.mp c_2), if_neg c_6, if_true, ite_true, ite_false] at hK
      exact hK
    · refine a_aload_n d_M_isSo_32 rfl rfl ?_
      refine a_iload_n d_M_isSo_33 rfl rfl ?_
      refine a_if_eq (tgt := 46) d_M_isSo_34 (by decide) (fun n9 => absurd n9 (hw)) (fun c_7 => ?_)
      refine a_aload_n d_M_isSo_37 rfl rfl ?_
      refine m_get d_M_isSo_38 f_M_76 rfl ?_
      refine a_iload_n d_M_isSo_41 rfl rfl ?_
      refine m_iald d_M_isSo_42 (by decide) rfl (vp_in_nI (show r < 192 by omega) (by decide)) ?_
      rw [nI_clamp (show r < 2 ^ 31 by omega)]
      refine a_goto (tgt := 52) d_M_isSo_43 (by decide) ?_
      refine a_iload_n d_M_isSo_52 rfl rfl ?_
      refine a_if_eq (tgt := 65) d_M_isSo_53 (by decide) (fun n9 => absurd n9 (hw)) (fun c_8 => ?_)
      refine a_aload_n d_M_isSo_56 rfl rfl ?_
      refine m_get d_M_isSo_57 f_M_79 rfl ?_
      refine a_iload_n d_M_isSo_60 rfl rfl ?_
      refine m_iald d_M_isSo_61 (by decide) rfl (vp_in_nI (show r < 192 by omega) (by decide)) ?_
      rw [nI_clamp (show r < 2 ^ 31 by omega)]
      refine a_goto (tgt := 71) d_M_isSo_62 (by decide) ?_
      refine a_iload_n d_M_isSo_71 rfl rfl ?_
      apply a_callV (ci := 7) 1 25 [_, _, _] _ d_M_isSo_72 l_M_340 ⟨im_M_hold, se_M_hold⟩ rfl rfl rfl rfl (Nat.le_of_ble_eq_true rfl) ⟨Nat.le_of_ble_eq_true rfl, Nat.le_of_ble_eq_true rfl⟩
      · (exact mk_O)
      refine hH _ ?_
      refine a_if_eq (tgt := 82) d_M_isSo_75 (by decide) (fun c_9 => ?_) (fun c_9 => ?_)
      · refine a_iconst (v := 0) d_M_isSo_82 (by decide) ?_
        refine a_ireturn d_M_isSo_83 rfl rfl ?_
        simp only [cmpF, if_neg c_1, if_neg c_2, if_pos (Int32.not_lt.mp c_2), if_pos c_6, if_neg c_7, if_neg c_8, if_pos c_9, if_true, ite_true, ite_false] at hK
        exact hK
      · refine a_iconst (v := 1) d_M_isSo_78 (by decide) ?_
        refine a_goto (tgt := 83) d_M_isSo_79 (by decide) ?_
        refine a_ireturn d_M_isSo_83 rfl rfl ?_
        simp only [cmpF, if_neg c_1, if_neg c_2, if_pos (Int32.not_lt.mp c_2), if_pos c_6, if_neg c_7, if_neg c_8, if_neg c_9, if_true, ite_true, ite_false] at hK
        exact hK

theorem so_val (c : aN) (S : Nat → Int32) (l : aC) {call : Nat} (hc : call ≤ 16) (f n : Nat) : (if ccF call < 0 then (if apM c S l f n = 0 then (0 : Int32) else 1) else if ccF call = l.1 then (if apM c S l f n = 0 then 0 else 1) else 0) = soF c S l call f n := by
  have e : (if apM c S l f n = 0 then (0 : Int32) else 1) = apM c S l f n := by
    rcases ap_01 c S l n f with h | h <;> rw [h] <;> decide
  rw [e]
  unfold soF ccF
  by_cases z : call = 16
  · rw [if_pos z, if_pos (by decide), if_pos (by rw [z]; rfl)]
  · rw [if_neg z, if_neg (nI_pos (by omega)), if_neg (show ¬ nI call = 16 from fun w => z ((nI_eq (b := 16) (by omega) (by omega)).mp w))]
theorem sp_M_isSo0 {w : Int32} {r : Nat} (hw : w = 0) (h : CQ c q x) (hr : r < c.1 5 0) (hS : ∀ k, k < c.1 4 0 → x.2.2.1 9 k = S k) (hA : MA x l) (hK : K (some (.int (soF c S l (c.1 25 r) (c.1 27 r) (c.1 28 r)))) (mk σ0 m x)) : a_C G m_M_isSo 2 50 [.ref m, .int w, .int (nI r), .int l.1] (mk σ0 m x) K := by
  have hn := h.nR.2
  have hm := h.2.1.2.2.2.2.2.1.2 r hr
  have hq := h.2.2.1.2.1 r hr
  refine so_0 (H := apM c S l (c.1 27 r) (c.1 28 r)) hw (by omega) (fun K2 hK2 => ?_) ?_
  · rw [hm.2.2.2.1, hm.2.2.2.2]
    exact sp_M_hold hq.2.2.2 h.2.1.2.2.1 h.2.2.1 hS hA hK2
  · rw [hm.2.2.1, so_val c S l (h.2.2.1.2.2.2.2.2.2.1 r).2.1]
    exact hK
theorem sp_M_isSo1 {w : Int32} {r : Nat} (hw : ¬ w = 0) (h : CQ c q x) (hr : r < c.1 7 0) (hS : ∀ k, k < c.1 4 0 → x.2.2.1 9 k = S k) (hA : MA x l) (hK : K (some (.int (soF c S l (c.1 31 r) (c.1 32 r) (c.1 33 r)))) (mk σ0 m x)) : a_C G m_M_isSo 2 50 [.ref m, .int w, .int (nI r), .int l.1] (mk σ0 m x) K := by
  have hn := h.nW.2
  have hm := h.2.1.2.2.2.2.2.2.1.2 r hr
  have hq := h.2.2.1.2.2.1 r hr
  refine so_1 (H := apM c S l (c.1 32 r) (c.1 33 r)) hw (by omega) (fun K2 hK2 => ?_) ?_
  · rw [hm.2.2.1, hm.2.2.2.1]
    exact sp_M_hold hq.2.2.2 h.2.1.2.2.1 h.2.2.1 hS hA hK2
  · rw [hm.2.1, so_val c S l (h.2.2.1.2.2.2.2.2.2.1 r).2.2.1]
    exact hK
set_option maxHeartbeats 1000000 in
set_option maxRecDepth 100000 in
theorem lp_M_ask (hK : ∀ z, CPY 9 7 x z 6 → K none (mk σ0 m z)) : ∀ (k i : Nat) (z : aX), i + k = 6 → CPY 9 7 x z i → a_J G m_M_ask 0 0 2 [(0, .ref m), (1, .int (nI i))] [] (mk σ0 m z) K := by
  intro k
  induction k with
  | zero =>
    intro i z hk hz
    refine a_iload_n d_M_ask_2 rfl rfl ?_
    refine a_bipush (v := 6) d_M_ask_3 (by decide) ?_
    refine a_icmp_ge (tgt := 26) d_M_ask_5 (by decide) (fun c_1 => ?_) (fun n9 => absurd (nI_le (b := i) (a := 6) (by omega) (by omega)) n9)
    exact a_return d_M_ask_26 rfl (hK z (by rw [show 6 = i by omega]; exact hz))
  | succ k ih =>
    intro i z hk hz
    refine a_iload_n d_M_ask_2 rfl rfl ?_
    refine a_bipush (v := 6) d_M_ask_3 (by decide) ?_
    refine a_icmp_ge (tgt := 26) d_M_ask_5 (by decide) (fun n9 => absurd n9 (nI_ge (b := 6) (a := i) (by omega) (by omega))) (fun c_1 => ?_)
    refine a_aload_n d_M_ask_8 rfl rfl ?_
    refine m_get d_M_ask_9 f_M_38 rfl ?_
    refine a_iload_n d_M_ask_12 rfl rfl ?_
    refine a_aload_n d_M_ask_13 rfl rfl ?_
    refine m_get d_M_ask_14 f_M_32 rfl ?_
    refine a_iload_n d_M_ask_17 rfl rfl ?_
    refine m_iald d_M_ask_18 (by decide) rfl (vp_in_nI (show i < 6 by omega) (by decide)) ?_
    rw [nI_clamp (show i < 2 ^ 31 by omega)]
    refine m_iast d_M_ask_19 (by decide) rfl (vp_in_nI (show i < 6 by omega) (by decide)) ?_
    rw [nI_clamp (show i < 2 ^ 31 by omega)]
    refine a_iinc (c0 := 1) d_M_ask_20 rfl (by decide) (by decide) ?_
    refine a_goto (tgt := 2) d_M_ask_23 (by decide) ?_
    rw [nI_1]
    exact a_lvk (ih (i + 1) _ (by omega) (hz.s (by decide))) ⟨rfl, rfl, trivial⟩

set_option maxHeartbeats 1000000 in
set_option maxRecDepth 100000 in
theorem sp_M_ask (hK : ∀ z, CPY 9 7 x z 6 → K none (mk σ0 m z)) : a_C G m_M_ask 0 0 [.ref m] (mk σ0 m x) K := by
  refine a_enter rfl (Nat.le_of_ble_eq_true rfl) ?_
  refine a_iconst (v := 0) d_M_ask_0 (by decide) ?_
  refine a_istore_n d_M_ask_1 rfl (by decide) ?_
  exact a_lvk (lp_M_ask hK 6 0 _ (by omega) CPY.z) ⟨rfl, rfl, trivial⟩

theorem CQ_cp {z : aX} {i : Nat} (h : CQ c q x) (hz : CPY 9 7 x z i) : CQ c q z := by
  obtain ⟨z1, z2, z3, z4, -⟩ := hz
  refine ⟨h.1, ML_keep h.2.1 (fun k _ => by rw [z1]) (fun a ha => z4 a (by omega)) (z4 5 (by decide)) (z4 6 (by decide)) z3, h.2.2.1, fun k hk => ?_⟩
  rw [z4 7 (by decide)]; exact h.2.2.2 k hk
theorem MA_cp {z : aX} {i : Nat} (h : MA x l) (hz : CPY 9 7 x z i) : MA z l := by
  obtain ⟨z1, z2, z3, z4, -⟩ := hz
  unfold MA; rw [z1, z4 8 (by decide)]; exact h
theorem CP_S {z : aX} (h : CQ c q x) (hz : CPY 9 7 x z 6) : ∀ k, k < c.1 4 0 → z.2.2.1 9 k = q.2.2 6 k := fun k hk => by
  have := h.nC.2
  rw [hz.2.2.2.2 k (by omega), (h.2.2.2 k hk).1]
theorem isT_e (h : CQ c q x) (hA : MA x l) {t g : Nat} (ht : t < 864) (hg : g < c.1 8 0) (h1 : q.2.2 11 t = shF c g) (h2 : q.2.2 12 t = c.2.2 g) : isT q l (nI t) = tvF c (q.2.2 6) l g := by
  obtain ⟨v, hv, hl⟩ := hA.2.2.2.2
  have hb := h.2.2.1.2.2.2.2.2.2.1 g
  have hw := h.2.2.1.2.2.2.2.2.2.2.2.1 g hg
  have h6 := h.nC.2
  have tp : ∀ u, tpart q (nI t) u = if u = 0 then nI (c.1 36 g) else if u = 1 then nI (c.1 37 g) else if u = 2 then nI (c.1 38 g) else if u = 3 then nI (c.1 39 g) else -1 := fun u => by
    rw [tpart, if_neg (nI_pos (by omega)), if_pos (show nI t < 864 from nI_lt (b := 864) (by omega) (by omega)), nI_clamp (by omega), h1, tp_val h.2.2.1 g hg]
  have tb : bnd q (nI t) = c.2.2 g := by rw [bnd, if_neg (nI_pos (by omega)), if_pos (show nI t < 864 from nI_lt (b := 864) (by omega) (by omega)), nI_clamp (by omega), h2]
  have t0 : tpart q (nI t) 0 = nI (c.1 36 g) := tp 0
  have t1 : tpart q (nI t) 1 = nI (c.1 37 g) := tp 1
  have t2 : tpart q (nI t) 2 = nI (c.1 38 g) := tp 2
  have t3 : tpart q (nI t) 3 = nI (c.1 39 g) := tp 3
  have e1 : ∀ a b d, (if cmpF a b d = 0 then (0 : Int32) else 1) = cmpF a b d := fun a b d => by
    rcases cm_01 a b d with e | e <;> rw [e] <;> decide
  have pl : plainF q l (nI t) = plF c (q.2.2 6) l g := by
    unfold plainF plF
    rw [t0, t1, t2, tb, e1, e1]
    by_cases z : c.1 36 g = 1
    · obtain ⟨s, hs, es⟩ := (h.2.2.2 _ (hw.1 z)).2
      have h20 := (h.2.2.1.2.2.2.2.2.2.1 (c.1 37 g)).1
      have e2 : cpart q (nI (c.1 37 g)) 2 = q.2.2 6 (c.1 37 g) := (cpart_c h.1.1 (by rw [h.q1.1]; exact hw.1 z)).2.2
      rw [if_pos (by rw [z]; rfl), if_pos z, e2, es, if_neg (nI_m1 (by omega))]
    · rw [if_neg (show ¬ nI (c.1 36 g) = 1 from fun w => z ((nI_eq (b := 1) (by omega) (by omega)).mp w)), if_neg z]
      have := hw.2 z
      unfold hasF
      rw [if_neg (nI_pos (by omega))]
      by_cases y : nI (c.1 37 g) < argN l.1
      · rw [if_pos y, if_pos y, if_neg (by decide)]
      · rw [if_neg y, if_neg y, if_pos rfl]
  unfold isT tvF
  rw [pl, t3]
  unfold xorF
  have h39 : c.1 39 g = 0 ∨ c.1 39 g = 1 := by omega
  rcases pl_01 c (q.2.2 6) l g with e | e <;> rcases h39 with e3 | e3 <;> rw [e, e3] <;> decide
theorem ap_e (h : CQ c q x) (hA : MA x l) {row F N : Nat} (hr : row < 216) (hN : N ≤ 4) (hF : F + N ≤ c.1 8 0) (hq : ∀ i, i < N → q.2.2 11 (row * 4 + i) = shF c (F + i) ∧ q.2.2 12 (row * 4 + i) = c.2.2 (F + i)) : ∀ (n i : Nat), i + n = N → apF q l row i n = apM c (q.2.2 6) l (F + i) n
  | 0, _, _ => rfl
  | n + 1, i, hi => by
    rw [apF, apM, isT_e h hA (by omega) (by omega) (hq i (by omega)).1 (hq i (by omega)).2, ap_e h hA hr hN hF hq n (i + 1) (by omega)]
    rfl
theorem app_R (h : CQ c q x) (hA : MA x l) {a b : Int32} {r : Nat} (hr : r < c.1 5 0) (hc : crow q 0 a b = nI (rwR c r)) : app q l 0 a b = soF c (q.2.2 6) l (c.1 25 r) (c.1 27 r) (c.1 28 r) := by
  have hx := rwR_lt h.2.2.1 hr
  have hq := h.1.2.2.2.2.1 r hr
  have h4 := h.2.2.1.2.1 r hr
  rw [app, hc, if_neg (nI_m1 (by omega)), nI_clamp (by omega), hq.1.1, hq.1.2.1, nI_clamp (by omega), ap_e h hA (by omega) h4.2.2.1 h4.2.2.2 hq.1.2.2 _ 0 (by omega)]
  unfold isO soF
  by_cases z : nI (c.1 25 r) = 16
  · rw [if_pos z, if_pos z, if_neg (by decide), Nat.add_zero]
  · rw [if_neg z, if_neg z]
    by_cases y : nI (c.1 25 r) = l.1
    · rw [if_pos y, if_pos y, if_neg (by decide), Nat.add_zero]
    · rw [if_neg y, if_neg y, if_pos rfl]
theorem app_W (h : CQ c q x) (hA : MA x l) {w a b : Int32} {r : Nat} (hr : r < c.1 7 0) (hc : crow q w a b = nI (rwW c r)) : app q l w a b = soF c (q.2.2 6) l (c.1 31 r) (c.1 32 r) (c.1 33 r) := by
  have hx := rwW_lt h.2.2.1 hr
  have hq := h.1.2.2.2.2.2 r hr
  have h4 := h.2.2.1.2.2.1 r hr
  rw [app, hc, if_neg (nI_m1 (by omega)), nI_clamp (by omega), hq.1.1, hq.1.2.1, nI_clamp (by omega), ap_e h hA (by omega) h4.2.2.1 h4.2.2.2 hq.1.2.2 _ 0 (by omega)]
  unfold isO soF
  by_cases z : nI (c.1 31 r) = 16
  · rw [if_pos z, if_pos z, if_neg (by decide), Nat.add_zero]
  · rw [if_neg z, if_neg z]
    by_cases y : nI (c.1 31 r) = l.1
    · rw [if_pos y, if_pos y, if_neg (by decide), Nat.add_zero]
    · rw [if_neg y, if_neg y, if_pos rfl]
set_option maxHeartbeats 1000000 in
set_option maxRecDepth 100000 in
theorem hs_N0 {w a b : Int32} {N : Nat} (hw : w = 0) (hN : x.1 34 = nI N) (hN2 : N ≤ 24) (hv : cAtF (x.2.2.1 13) a b N 0 0 = -1) (hK : K (some (.int 0)) (mk σ0 m (sI x 0 0))) : a_C G m_M_holds 3 74 [.ref m, .int w, .int a, .int b] (mk σ0 m x) K := by
  refine a_enter rfl (Nat.le_of_ble_eq_true rfl) ?_
  refine a_aload_n d_M_holds_0 rfl rfl ?_
  refine a_iconst (v := 0) d_M_holds_1 (by decide) ?_
  refine m_putI d_M_holds_2 p_M_115 rfl rfl (by decide) ?_
  refine a_aload_n d_M_holds_5 rfl rfl ?_
  refine a_iload_n d_M_holds_6 rfl rfl ?_
  refine a_iload_n d_M_holds_7 rfl rfl ?_
  refine a_iload_n d_M_holds_8 rfl rfl ?_
  apply a_callV (ci := 7) 0 0 [_, _, _] _ d_M_holds_9 l_M_344 ⟨im_M_clauseAt, se_M_clauseAt⟩ rfl rfl rfl rfl (Nat.le_of_ble_eq_true rfl) ⟨Nat.le_of_ble_eq_true rfl, Nat.le_of_ble_eq_true rfl⟩
  · (exact mk_O)
  refine sp_M_clauseAt0 (x := sI x 0 0) hw hN hN2 ?_
  rw [show cAtF ((sI x 0 0).2.2.1 13) a b N 0 0 = _ from hv]
  refine a_istore d_M_holds_12 (by decide) ?_
  refine a_iload d_M_holds_14 rfl ?_
  refine a_if_ge (tgt := 21) d_M_holds_16 (by decide) (fun n9 => absurd n9 (by decide)) (fun c_1 => ?_)
  refine a_iconst (v := 0) d_M_holds_19 (by decide) ?_
  exact a_ireturn d_M_holds_20 rfl rfl hK

set_option maxHeartbeats 1000000 in
set_option maxRecDepth 100000 in
theorem hs_Y0 {w a b : Int32} {N : Nat} (hw : w = 0) (hN : x.1 34 = nI N) (hN2 : N ≤ 24) {r : Nat} {H : Int32} (hv : cAtF (x.2.2.1 13) a b N 0 0 = nI r) (hr : r < N) (hH : ∀ z, CPY 9 7 (sI x 0 0) z 6 → ∀ K2 : Option Value → aS → Prop, K2 (some (.int H)) (mk σ0 m z) → a_C G m_M_isSo 2 50 [.ref m, .int w, .int (nI r), .int (z.1 14)] (mk σ0 m z) K2) (hn : H = 0 ∨ H = 1) (hK : ∀ z, CPY 9 7 (sI x 0 0) z 6 → K (some (.int H)) (mk σ0 m z)) : a_C G m_M_holds 3 74 [.ref m, .int w, .int a, .int b] (mk σ0 m x) K := by
  refine a_enter rfl (Nat.le_of_ble_eq_true rfl) ?_
  have hnr : narrow .boolean (.int H) = .int H := by rcases hn with e | e <;> rw [e] <;> rfl
  refine a_aload_n d_M_holds_0 rfl rfl ?_
  refine a_iconst (v := 0) d_M_holds_1 (by decide) ?_
  refine m_putI d_M_holds_2 p_M_115 rfl rfl (by decide) ?_
  refine a_aload_n d_M_holds_5 rfl rfl ?_
  refine a_iload_n d_M_holds_6 rfl rfl ?_
  refine a_iload_n d_M_holds_7 rfl rfl ?_
  refine a_iload_n d_M_holds_8 rfl rfl ?_
  apply a_callV (ci := 7) 0 0 [_, _, _] _ d_M_holds_9 l_M_344 ⟨im_M_clauseAt, se_M_clauseAt⟩ rfl rfl rfl rfl (Nat.le_of_ble_eq_true rfl) ⟨Nat.le_of_ble_eq_true rfl, Nat.le_of_ble_eq_true rfl⟩
  · (exact mk_O)
  refine sp_M_clauseAt0 (x := sI x 0 0) hw hN hN2 ?_
  rw [show cAtF ((sI x 0 0).2.2.1 13) a b N 0 0 = _ from hv]
  refine a_istore d_M_holds_12 (by decide) ?_
  refine a_iload d_M_holds_14 rfl ?_
  refine a_if_ge (tgt := 21) d_M_holds_16 (by decide) (fun c_1 => ?_) (fun n9 => absurd (Int32.not_lt.mp (nI_pos (by omega))) n9)
  refine a_aload_n d_M_holds_21 rfl rfl ?_
  apply a_callV (ci := 7) 0 0 [] _ d_M_holds_22 l_M_359 ⟨im_M_ask, se_M_ask⟩ rfl rfl rfl rfl (Nat.le_of_ble_eq_true rfl) ⟨Nat.le_of_ble_eq_true rfl, Nat.le_of_ble_eq_true rfl⟩
  · (exact mk_O)
  refine sp_M_ask (fun z hz => ?_)
  refine a_aload_n d_M_holds_25 rfl rfl ?_
  refine a_iload_n d_M_holds_26 rfl rfl ?_
  refine a_iload d_M_holds_27 rfl ?_
  refine a_aload_n d_M_holds_29 rfl rfl ?_
  refine m_get d_M_holds_30 f_M_356 rfl ?_
  apply a_callV (ci := 7) 2 50 [_, _, _] _ d_M_holds_33 l_M_362 ⟨im_M_isSo, se_M_isSo⟩ rfl rfl rfl rfl (Nat.le_of_ble_eq_true rfl) ⟨Nat.le_of_ble_eq_true rfl, Nat.le_of_ble_eq_true rfl⟩
  · (exact mk_O)
  refine hH z hz _ ?_
  exact a_ireturn d_M_holds_36 rfl (by first | rfl | assumption) (hK z hz)

set_option maxHeartbeats 1000000 in
set_option maxRecDepth 100000 in
theorem hs_N1 {w a b : Int32} {N : Nat} (hw : ¬ w = 0) (hN : x.1 43 = nI N) (hN2 : N ≤ 192) (hv : cAtF (x.2.2.1 19) a b N 0 0 = -1) (hK : K (some (.int 0)) (mk σ0 m (sI x 0 0))) : a_C G m_M_holds 3 74 [.ref m, .int w, .int a, .int b] (mk σ0 m x) K := by
  refine a_enter rfl (Nat.le_of_ble_eq_true rfl) ?_
  refine a_aload_n d_M_holds_0 rfl rfl ?_
  refine a_iconst (v := 0) d_M_holds_1 (by decide) ?_
  refine m_putI d_M_holds_2 p_M_115 rfl rfl (by decide) ?_
  refine a_aload_n d_M_holds_5 rfl rfl ?_
  refine a_iload_n d_M_holds_6 rfl rfl ?_
  refine a_iload_n d_M_holds_7 rfl rfl ?_
  refine a_iload_n d_M_holds_8 rfl rfl ?_
  apply a_callV (ci := 7) 0 0 [_, _, _] _ d_M_holds_9 l_M_344 ⟨im_M_clauseAt, se_M_clauseAt⟩ rfl rfl rfl rfl (Nat.le_of_ble_eq_true rfl) ⟨Nat.le_of_ble_eq_true rfl, Nat.le_of_ble_eq_true rfl⟩
  · (exact mk_O)
  refine sp_M_clauseAt1 (x := sI x 0 0) hw hN hN2 ?_
  rw [show cAtF ((sI x 0 0).2.2.1 19) a b N 0 0 = _ from hv]
  refine a_istore d_M_holds_12 (by decide) ?_
  refine a_iload d_M_holds_14 rfl ?_
  refine a_if_ge (tgt := 21) d_M_holds_16 (by decide) (fun n9 => absurd n9 (by decide)) (fun c_1 => ?_)
  refine a_iconst (v := 0) d_M_holds_19 (by decide) ?_
  exact a_ireturn d_M_holds_20 rfl rfl hK

set_option maxHeartbeats 1000000 in
set_option maxRecDepth 100000 in
theorem hs_Y1 {w a b : Int32} {N : Nat} (hw : ¬ w = 0) (hN : x.1 43 = nI N) (hN2 : N ≤ 192) {r : Nat} {H : Int32} (hv : cAtF (x.2.2.1 19) a b N 0 0 = nI r) (hr : r < N) (hH : ∀ z, CPY 9 7 (sI x 0 0) z 6 → ∀ K2 : Option Value → aS → Prop, K2 (some (.int H)) (mk σ0 m z) → a_C G m_M_isSo 2 50 [.ref m, .int w, .int (nI r), .int (z.1 14)] (mk σ0 m z) K2) (hn : H = 0 ∨ H = 1) (hK : ∀ z, CPY 9 7 (sI x 0 0) z 6 → K (some (.int H)) (mk σ0 m z)) : a_C G m_M_holds 3 74 [.ref m, .int w, .int a, .int b] (mk σ0 m x) K := by
  refine a_enter rfl (Nat.le_of_ble_eq_true rfl) ?_
  have hnr : narrow .boolean (.int H) = .int H := by rcases hn with e | e <;> rw [e] <;> rfl
  refine a_aload_n d_M_holds_0 rfl rfl ?_
  refine a_iconst (v := 0) d_M_holds_1 (by decide) ?_
  refine m_putI d_M_holds_2 p_M_115 rfl rfl (by decide) ?_
  refine a_aload_n d_M_holds_5 rfl rfl ?_
  refine a_iload_n d_M_holds_6 rfl rfl ?_
  refine a_iload_n d_M_holds_7 rfl rfl ?_
  refine a_iload_n d_M_holds_8 rfl rfl ?_
  apply a_callV (ci := 7) 0 0 [_, _, _] _ d_M_holds_9 l_M_344 ⟨im_M_clauseAt, se_M_clauseAt⟩ rfl rfl rfl rfl (Nat.le_of_ble_eq_true rfl) ⟨Nat.le_of_ble_eq_true rfl, Nat.le_of_ble_eq_true rfl⟩
  · (exact mk_O)
  refine sp_M_clauseAt1 (x := sI x 0 0) hw hN hN2 ?_
  rw [show cAtF ((sI x 0 0).2.2.1 19) a b N 0 0 = _ from hv]
  refine a_istore d_M_holds_12 (by decide) ?_
  refine a_iload d_M_holds_14 rfl ?_
  refine a_if_ge (tgt := 21) d_M_holds_16 (by decide) (fun c_1 => ?_) (fun n9 => absurd (Int32.not_lt.mp (nI_pos (by omega))) n9)
  refine a_aload_n d_M_holds_21 rfl rfl ?_
  apply a_callV (ci := 7) 0 0 [] _ d_M_holds_22 l_M_359 ⟨im_M_ask, se_M_ask⟩ rfl rfl rfl rfl (Nat.le_of_ble_eq_true rfl) ⟨Nat.le_of_ble_eq_true rfl, Nat.le_of_ble_eq_true rfl⟩
  · (exact mk_O)
  refine sp_M_ask (fun z hz => ?_)
  refine a_aload_n d_M_holds_25 rfl rfl ?_
  refine a_iload_n d_M_holds_26 rfl rfl ?_
  refine a_iload d_M_holds_27 rfl ?_
  refine a_aload_n d_M_holds_29 rfl rfl ?_
  refine m_get d_M_holds_30 f_M_356 rfl ?_
  apply a_callV (ci := 7) 2 50 [_, _, _] _ d_M_holds_33 l_M_362 ⟨im_M_isSo, se_M_isSo⟩ rfl rfl rfl rfl (Nat.le_of_ble_eq_true rfl) ⟨Nat.le_of_ble_eq_true rfl, Nat.le_of_ble_eq_true rfl⟩
  · (exact mk_O)
  refine hH z hz _ ?_
  exact a_ireturn d_M_holds_36 rfl (by first | rfl | assumption) (hK z hz)

theorem so_01 (c : aN) (S : Nat → Int32) (l : aC) (a f n : Nat) : soF c S l a f n = 0 ∨ soF c S l a f n = 1 := by
  unfold soF; split
  · exact ap_01 _ _ _ _ _
  · split
    · exact ap_01 _ _ _ _ _
    · exact Or.inl rfl
theorem MA_0 (h : MA x l) (v : Int32) : MA (sI x 0 v) l := h
theorem sp_M_holds {w a b : Int32} (h : CQ c q x) (hA : MA x l) (hK : ∀ z, (z = sI x 0 0 ∨ CPY 9 7 (sI x 0 0) z 6) → K (some (.int (app q l w a b))) (mk σ0 m z)) : a_C G m_M_holds 3 74 [.ref m, .int w, .int a, .int b] (mk σ0 m x) K := by
  by_cases hw : w = 0
  · subst hw
    rcases tieR h a b with ⟨h1, h2⟩ | ⟨r, hr, -, -, h1, h2⟩
    · have := hK _ (Or.inl rfl)
      rw [app, if_pos h1] at this
      exact hs_N0 rfl h.nR.1 h.nR.2 h2 this
    · rw [app_R h hA hr h1] at hK
      refine hs_Y0 (H := soF c (q.2.2 6) l (c.1 25 r) (c.1 27 r) (c.1 28 r)) rfl h.nR.1 h.nR.2 h2 hr (fun z hz K2 hK2 => ?_) (so_01 _ _ _ _ _ _) (fun z hz => hK z (Or.inr hz))
      rw [show z.1 14 = l.1 from (MA_cp (MA_0 hA 0) hz).1]
      exact sp_M_isSo0 rfl (CQ_cp (CQ_0 h 0) hz) hr (CP_S (CQ_0 h 0) hz) (MA_cp (MA_0 hA 0) hz) hK2
  · rcases tieW h hw a b with ⟨h1, h2⟩ | ⟨r, hr, -, -, h1, h2⟩
    · have := hK _ (Or.inl rfl)
      rw [app, if_pos h1] at this
      exact hs_N1 hw h.nW.1 h.nW.2 h2 this
    · rw [app_W h hA hr h1] at hK
      refine hs_Y1 (H := soF c (q.2.2 6) l (c.1 31 r) (c.1 32 r) (c.1 33 r)) hw h.nW.1 h.nW.2 h2 hr (fun z hz K2 hK2 => ?_) (so_01 _ _ _ _ _ _) (fun z hz => hK z (Or.inr hz))
      rw [show z.1 14 = l.1 from (MA_cp (MA_0 hA 0) hz).1]
      exact sp_M_isSo1 hw (CQ_cp (CQ_0 h 0) hz) hr (CP_S (CQ_0 h 0) hz) (MA_cp (MA_0 hA 0) hz) hK2
end ModM26
