/-! THE MODEL: make -/
def s7 (x : aX) (R : Nat → Int32) : aX := (x.1, x.2.1, fun a => if a = 7 then R else x.2.2.1 a, x.2.2.2)
theorem s7_sA (x : aX) (R : Nat → Int32) (k : Nat) (v : Int32) : sA (s7 x R) 7 k v = s7 x (upd R k v) := by
  unfold sA s7
  refine congrArg (fun y => (x.1, x.2.1, y, x.2.2.2)) (funext fun a => ?_)
  show (if a = 7 then upd (if a = 7 then R else x.2.2.1 a) k v else (if a = 7 then R else x.2.2.1 a)) = _
  by_cases h : a = 7
  · rw [if_pos h, if_pos h, if_pos h]
  · rw [if_neg h, if_neg h, if_neg h]
theorem s7_ne {x : aX} {R : Nat → Int32} {a : Nat} (h : ¬ a = 7) : (s7 x R).2.2.1 a = x.2.2.1 a := by
  show (if a = 7 then R else x.2.2.1 a) = _
  exact if_neg h
theorem s7_at {x : aX} {R : Nat → Int32} : (s7 x R).2.2.1 7 = R := by
  show (if 7 = 7 then R else x.2.2.1 7) = _
  exact if_pos rfl
theorem s7_x (x : aX) : s7 x (x.2.2.1 7) = x := by
  unfold s7
  refine congrArg (fun y => (x.1, x.2.1, y, x.2.2.2)) (funext fun a => ?_)
  by_cases h : a = 7
  · rw [if_pos h, h]
  · rw [if_neg h]
theorem upd_self (R : Nat → Int32) (k : Nat) : upd R k (R k) = R := funext fun j => by
  by_cases h : j = k
  · subst h; exact pk_us
  · exact pk_un h
/-- counter k, moved by the rules from r on -/
def soR (c : aN) (S : Nat → Int32) (l : aC) (r : Nat) : Int32 := if ccF (c.1 25 r) < 0 then apM c S l (c.1 27 r) (c.1 28 r) else if ccF (c.1 25 r) = l.1 then apM c S l (c.1 27 r) (c.1 28 r) else 0
def cuF (c : aN) (S : Nat → Int32) (l : aC) (k : Nat) : Nat → Nat → Int32 → Int32
  | 0, _, v => v
  | n + 1, r, v => if nI (c.1 23 r) = nI k then (if soR c S l r = 0 then cuF c S l k n (r + 1) v else if nI (c.1 26 r) = 0 then 0 else if v < nI (c.1 20 k) then v + 1 else v) else cuF c S l k n (r + 1) v
def toF (c : aN) (S : Nat → Int32) (l : aC) (k : Nat) : Nat → Nat → Int32 → Int32
  | 0, _, t => t
  | n + 1, w, t => toF c S l k n (w + 1) (t ||| (if nI (c.1 29 w) = nI k then (if soF c S l (c.1 31 w) (c.1 32 w) (c.1 33 w) = 0 then 0 else (1 : Int32) <<< (nI (c.1 34 w) &&& 31)) else 0))
def smF (t : Int32) : Nat → Nat → Int32 → Int32
  | 0, _, v => v
  | n + 1, j, v => smF t n (j + 1) (v + (t >>> (nI j &&& 31) &&& 1))
section ModM27
variable {G : aG} {σ0 : aS} {K : Option Value → aS → Prop} {m : Nat} {x : aX} {c : aN} {q : aP} {l : aC} {S R : Nat → Int32}
/-- what count needs -/
def CNq (c : aN) (S : Nat → Int32) (l : aC) (x : aX) : Prop := ML c x (c.1 9 0) ∧ FQ c ∧ (∀ k, k < c.1 4 0 → x.2.2.1 9 k = S k) ∧ MA x l
theorem CN_s7 (h : CNq c S l x) (R : Nat → Int32) : CNq c S l (s7 x R) := by
  refine ⟨ML_keep h.1 (fun _ _ => rfl) (fun a ha => s7_ne (by omega)) (s7_ne (by decide)) (s7_ne (by decide)) rfl, h.2.1, fun k hk => ?_, ?_⟩
  · rw [s7_ne (by decide)]; exact h.2.2.1 k hk
  · have e : (s7 x R).2.2.1 8 = x.2.2.1 8 := s7_ne (by decide)
    unfold MA
    rw [e]; exact h.2.2.2
set_option maxHeartbeats 1000000 in
set_option maxRecDepth 100000 in
theorem lp_cd {k N : Nat} (hN : x.1 34 = nI N) (hN2 : N ≤ 24) (hK : a_J G m_M_count 2 50 2 [(0, .ref m), (1, .ref (m + 7)), (2, .int l.1), (3, .int (nI (k + 1)))] [] (mk σ0 m x) K) : ∀ (n r : Nat), r + n = N → a_J G m_M_count 2 50 16 [(0, .ref m), (1, .ref (m + 7)), (2, .int l.1), (3, .int (nI k)), (4, .int 1), (5, .int (nI r))] [] (mk σ0 m x) K := by
  intro n
  induction n with
  | zero =>
    intro r hr
    refine a_iload d_M_count_16 rfl ?_
    refine a_aload_n d_M_count_18 rfl rfl ?_
    refine m_get d_M_count_19 f_M_239 rfl ?_
    rw [hN]
    refine a_icmp_ge (tgt := 145) d_M_count_22 (by decide) (fun c_1 => ?_) (fun n9 => absurd (nI_le (by omega) (by omega)) n9)
    refine a_iinc (c0 := 1) d_M_count_145 rfl (by decide) (by decide) ?_
    refine a_goto (tgt := 2) d_M_count_148 (by decide) ?_
    rw [nI_1]
    exact a_lvk hK ⟨rfl, rfl, rfl, rfl, trivial⟩
  | succ n ih =>
    intro r hr
    refine a_iload d_M_count_16 rfl ?_
    refine a_aload_n d_M_count_18 rfl rfl ?_
    refine m_get d_M_count_19 f_M_239 rfl ?_
    rw [hN]
    refine a_icmp_ge (tgt := 145) d_M_count_22 (by decide) (fun n9 => absurd n9 (nI_ge (by omega) (by omega))) (fun c_1 => ?_)
    refine a_iload d_M_count_25 rfl ?_
    refine a_if_ne (tgt := 66) d_M_count_27 (by decide) (fun c_2 => ?_) (fun n9 => absurd n9 (by decide))
    refine a_iconst (v := 0) d_M_count_66 (by decide) ?_
    refine a_istore d_M_count_67 (by decide) ?_
    refine a_iload d_M_count_69 rfl ?_
    refine a_if_eq (tgt := 139) d_M_count_71 (by decide) (fun c_3 => ?_) (fun n9 => absurd (rfl) n9)
    refine a_iinc (c0 := 1) d_M_count_139 rfl (by decide) (by decide) ?_
    refine a_goto (tgt := 16) d_M_count_142 (by decide) ?_
    rw [nI_1]
    exact a_lvk (ih (r + 1) (by omega)) ⟨rfl, rfl, rfl, rfl, rfl, rfl, trivial⟩

theorem lp_cd7 {R : Nat → Int32} {k N : Nat} (hN : x.1 34 = nI N) (hN2 : N ≤ 24) (hK : a_J G m_M_count 2 50 2 [(0, .ref m), (1, .ref (m + 7)), (2, .int l.1), (3, .int (nI (k + 1)))] [] (mk σ0 m (s7 x R)) K) (n r : Nat) (hr : r + n = N) : a_J G m_M_count 2 50 16 [(0, .ref m), (1, .ref (m + 7)), (2, .int l.1), (3, .int (nI k)), (4, .int 1), (5, .int (nI r))] [] (mk σ0 m (s7 x R)) K := lp_cd (x := s7 x R) hN hN2 hK n r hr
set_option maxHeartbeats 1000000 in
set_option maxRecDepth 100000 in
theorem lp_cu {k : Nat} (h : CNq c S l x) (hk : k < c.1 4 0) : ∀ (n r : Nat), r + n = c.1 5 0 → a_J G m_M_count 2 50 2 [(0, .ref m), (1, .ref (m + 7)), (2, .int l.1), (3, .int (nI (k + 1)))] [] (mk σ0 m (s7 x (upd R k (cuF c S l k n r (R k))))) K → a_J G m_M_count 2 50 16 [(0, .ref m), (1, .ref (m + 7)), (2, .int l.1), (3, .int (nI k)), (4, .int 0), (5, .int (nI r))] [] (mk σ0 m (s7 x R)) K := by
  have h24 := h.2.1.2.2.2.2.2.1.2.1
  have h6 := h.2.1.1.1
  have hc := CN_s7 h R
  have h77 : (s7 x R).2.2.1 7 = R := s7_at
  have hN : (s7 x R).1 34 = nI (c.1 5 0) := hc.1.2.2.2.2.2.1.1
  have h34 : x.1 34 = nI (c.1 5 0) := h.1.2.2.2.2.2.1.1
  have hmo := (hc.1.2.2.2.1.2 k hk).2.2
  intro n
  induction n with
  | zero =>
    intro r hr hK
    refine a_iload d_M_count_16 rfl ?_
    refine a_aload_n d_M_count_18 rfl rfl ?_
    refine m_get d_M_count_19 f_M_239 rfl ?_
    rw [hN]
    refine a_icmp_ge (tgt := 145) d_M_count_22 (by decide) (fun c_1 => ?_) (fun n9 => absurd (nI_le (by omega) (by omega)) n9)
    refine a_iinc (c0 := 1) d_M_count_145 rfl (by decide) (by decide) ?_
    refine a_goto (tgt := 2) d_M_count_148 (by decide) ?_
    rw [nI_1]
    simp only [cuF, upd_self] at hK
    exact a_lvk hK ⟨rfl, rfl, rfl, rfl, trivial⟩
  | succ n ih =>
    intro r hr hK
    have hm := hc.1.2.2.2.2.2.1.2 r (by omega)
    have hq := h.2.1.2.1 r (by omega)
    refine a_iload d_M_count_16 rfl ?_
    refine a_aload_n d_M_count_18 rfl rfl ?_
    refine m_get d_M_count_19 f_M_239 rfl ?_
    rw [hN]
    refine a_icmp_ge (tgt := 145) d_M_count_22 (by decide) (fun n9 => absurd n9 (nI_ge (by omega) (by omega))) (fun c_1 => ?_)
    refine a_iload d_M_count_25 rfl ?_
    refine a_if_ne (tgt := 66) d_M_count_27 (by decide) (fun n9 => absurd (rfl) n9) (fun c_2 => ?_)
    refine a_aload_n d_M_count_30 rfl rfl ?_
    refine m_get d_M_count_31 f_M_51 rfl ?_
    refine a_iload d_M_count_34 rfl ?_
    refine m_iald d_M_count_36 (by decide) rfl (vp_in_nI (show r < 24 by omega) (by decide)) ?_
    rw [nI_clamp (show r < 2 ^ 31 by omega), hm.1]
    refine a_iload_n d_M_count_37 rfl rfl ?_
    refine a_icmp_ne (tgt := 66) d_M_count_38 (by decide) (fun c_3 => ?_) (fun c_3 => ?_)
    · refine a_iconst (v := 0) d_M_count_66 (by decide) ?_
      refine a_istore d_M_count_67 (by decide) ?_
      refine a_iload d_M_count_69 rfl ?_
      refine a_if_eq (tgt := 139) d_M_count_71 (by decide) (fun c_4 => ?_) (fun n9 => absurd (rfl) n9)
      refine a_iinc (c0 := 1) d_M_count_139 rfl (by decide) (by decide) ?_
      refine a_goto (tgt := 16) d_M_count_142 (by decide) ?_
      rw [nI_1]
      simp only [cuF, soR, if_neg c_1, if_pos (Int32.not_le.mp c_1), if_pos c_2, if_neg c_3, if_pos c_4, if_true, ite_true, ite_false, if_true, if_false, eq_self, h77] at hK
      first | exact a_lvk (lp_cd7 h34 (by omega) hK n (r + 1) (by omega)) ⟨rfl, rfl, rfl, rfl, rfl, rfl, trivial⟩ | exact a_lvk (ih (r + 1) (by omega) hK) ⟨rfl, rfl, rfl, rfl, rfl, rfl, trivial⟩
    · refine a_aload_n d_M_count_41 rfl rfl ?_
      refine m_get d_M_count_42 f_M_58 rfl ?_
      refine a_iload d_M_count_45 rfl ?_
      refine m_iald d_M_count_47 (by decide) rfl (vp_in_nI (show r < 24 by omega) (by decide)) ?_
      rw [nI_clamp (show r < 2 ^ 31 by omega), hm.2.2.1]
      refine a_if_lt (tgt := 62) d_M_count_48 (by decide) (fun c_5 => ?_) (fun c_5 => ?_)
      · refine a_iconst (v := 1) d_M_count_62 (by decide) ?_
        refine a_goto (tgt := 67) d_M_count_63 (by decide) ?_
        refine a_istore d_M_count_67 (by decide) ?_
        refine a_iload d_M_count_69 rfl ?_
        refine a_if_eq (tgt := 139) d_M_count_71 (by decide) (fun n9 => absurd n9 (by decide)) (fun c_6 => ?_)
        refine a_aload_n d_M_count_74 rfl rfl ?_
        refine a_aload_n d_M_count_75 rfl rfl ?_
        refine m_get d_M_count_76 f_M_61 rfl ?_
        refine a_iload d_M_count_79 rfl ?_
        refine m_iald d_M_count_81 (by decide) rfl (vp_in_nI (show r < 24 by omega) (by decide)) ?_
        rw [nI_clamp (show r < 2 ^ 31 by omega), hm.2.2.2.1]
        refine a_aload_n d_M_count_82 rfl rfl ?_
        refine m_get d_M_count_83 f_M_64 rfl ?_
        refine a_iload d_M_count_86 rfl ?_
        refine m_iald d_M_count_88 (by decide) rfl (vp_in_nI (show r < 24 by omega) (by decide)) ?_
        rw [nI_clamp (show r < 2 ^ 31 by omega), hm.2.2.2.2]
        refine a_iload_n d_M_count_89 rfl rfl ?_
        apply a_callV (ci := 7) 1 25 [_, _, _] _ d_M_count_90 l_M_340 ⟨im_M_hold, se_M_hold⟩ rfl rfl rfl rfl (Nat.le_of_ble_eq_true rfl) ⟨Nat.le_of_ble_eq_true rfl, Nat.le_of_ble_eq_true rfl⟩
        · (exact mk_O)
        refine sp_M_hold (c := c) (S := S) hq.2.2.2 hc.1.2.2.1 hc.2.1 hc.2.2.1 hc.2.2.2 ?_
        refine a_if_eq (tgt := 139) d_M_count_93 (by decide) (fun c_7 => ?_) (fun c_7 => ?_)
        · refine a_iinc (c0 := 1) d_M_count_139 rfl (by decide) (by decide) ?_
          refine a_goto (tgt := 16) d_M_count_142 (by decide) ?_
          rw [nI_1]
          simp only [cuF, soR, if_neg c_1, if_pos (Int32.not_le.mp c_1), if_pos c_2, if_pos c_3, if_pos c_5, if_neg (Int32.not_le.mpr c_5), if_neg c_6, if_pos c_7, if_true, ite_true, ite_false, if_true, if_false, eq_self, h77] at hK
          first | exact a_lvk (lp_cd7 h34 (by omega) hK n (r + 1) (by omega)) ⟨rfl, rfl, rfl, rfl, rfl, rfl, trivial⟩ | exact a_lvk (ih (r + 1) (by omega) hK) ⟨rfl, rfl, rfl, rfl, rfl, rfl, trivial⟩
        · refine a_iconst (v := 1) d_M_count_96 (by decide) ?_
          refine a_istore d_M_count_97 (by decide) ?_
          refine a_aload_n d_M_count_99 rfl rfl ?_
          refine a_iload_n d_M_count_100 rfl rfl ?_
          refine a_aload_n d_M_count_101 rfl rfl ?_
          refine m_get d_M_count_102 f_M_54 rfl ?_
          refine a_iload d_M_count_105 rfl ?_
          refine m_zald d_M_count_107 (by decide) rfl (vp_in_nI (show r < 24 by omega) (by decide)) ?_
          rw [nI_clamp (show r < 2 ^ 31 by omega), hm.2.1]
          refine a_if_ne (tgt := 115) d_M_count_108 (by decide) (fun c_8 => ?_) (fun c_8 => ?_)
          · refine a_aload_n d_M_count_115 rfl rfl ?_
            refine a_iload_n d_M_count_116 rfl rfl ?_
            refine m_iald d_M_count_117 (by decide) rfl (vp_in_nI (show k < 6 by omega) (by decide)) ?_
            rw [nI_clamp (show k < 2 ^ 31 by omega), h77]
            refine a_aload_n d_M_count_118 rfl rfl ?_
            refine m_get d_M_count_119 f_M_48 rfl ?_
            refine a_iload_n d_M_count_122 rfl rfl ?_
            refine m_iald d_M_count_123 (by decide) rfl (vp_in_nI (show k < 6 by omega) (by decide)) ?_
            rw [nI_clamp (show k < 2 ^ 31 by omega), hmo]
            refine a_icmp_ge (tgt := 135) d_M_count_124 (by decide) (fun c_9 => ?_) (fun c_9 => ?_)
            · refine a_aload_n d_M_count_135 rfl rfl ?_
              refine a_iload_n d_M_count_136 rfl rfl ?_
              refine m_iald d_M_count_137 (by decide) rfl (vp_in_nI (show k < 6 by omega) (by decide)) ?_
              rw [nI_clamp (show k < 2 ^ 31 by omega), h77]
              refine m_iast d_M_count_138 (by decide) rfl (vp_in_nI (show k < 6 by omega) (by decide)) ?_
              rw [nI_clamp (show k < 2 ^ 31 by omega), s7_sA]
              refine a_iinc (c0 := 1) d_M_count_139 rfl (by decide) (by decide) ?_
              refine a_goto (tgt := 16) d_M_count_142 (by decide) ?_
              rw [nI_1]
              simp only [cuF, soR, if_neg c_1, if_pos (Int32.not_le.mp c_1), if_pos c_2, if_pos c_3, if_pos c_5, if_neg (Int32.not_le.mpr c_5), if_neg c_6, if_neg c_7, if_neg c_8, if_pos c_9, if_neg (Int32.not_lt.mpr c_9), if_true, ite_true, ite_false, if_true, if_false, eq_self, h77] at hK
              first | exact a_lvk (lp_cd7 h34 (by omega) hK n (r + 1) (by omega)) ⟨rfl, rfl, rfl, rfl, rfl, rfl, trivial⟩ | exact a_lvk (ih (r + 1) (by omega) hK) ⟨rfl, rfl, rfl, rfl, rfl, rfl, trivial⟩
            · refine a_aload_n d_M_count_127 rfl rfl ?_
              refine a_iload_n d_M_count_128 rfl rfl ?_
              refine m_iald d_M_count_129 (by decide) rfl (vp_in_nI (show k < 6 by omega) (by decide)) ?_
              rw [nI_clamp (show k < 2 ^ 31 by omega), h77]
              refine a_iconst (v := 1) d_M_count_130 (by decide) ?_
              refine a_iadd d_M_count_131 ?_
              refine a_goto (tgt := 138) d_M_count_132 (by decide) ?_
              refine m_iast d_M_count_138 (by decide) rfl (vp_in_nI (show k < 6 by omega) (by decide)) ?_
              rw [nI_clamp (show k < 2 ^ 31 by omega), s7_sA]
              refine a_iinc (c0 := 1) d_M_count_139 rfl (by decide) (by decide) ?_
              refine a_goto (tgt := 16) d_M_count_142 (by decide) ?_
              rw [nI_1]
              simp only [cuF, soR, if_neg c_1, if_pos (Int32.not_le.mp c_1), if_pos c_2, if_pos c_3, if_pos c_5, if_neg (Int32.not_le.mpr c_5), if_neg c_6, if_neg c_7, if_neg c_8, if_neg c_9, if_pos (Int32.not_le.mp c_9), if_true, ite_true, ite_false, if_true, if_false, eq_self, h77] at hK
              first | exact a_lvk (lp_cd7 h34 (by omega) hK n (r + 1) (by omega)) ⟨rfl, rfl, rfl, rfl, rfl, rfl, trivial⟩ | exact a_lvk (ih (r + 1) (by omega) hK) ⟨rfl, rfl, rfl, rfl, rfl, rfl, trivial⟩
          · refine a_iconst (v := 0) d_M_count_111 (by decide) ?_
            refine a_goto (tgt := 138) d_M_count_112 (by decide) ?_
            refine m_iast d_M_count_138 (by decide) rfl (vp_in_nI (show k < 6 by omega) (by decide)) ?_
            rw [nI_clamp (show k < 2 ^ 31 by omega), s7_sA]
            refine a_iinc (c0 := 1) d_M_count_139 rfl (by decide) (by decide) ?_
            refine a_goto (tgt := 16) d_M_count_142 (by decide) ?_
            rw [nI_1]
            simp only [cuF, soR, if_neg c_1, if_pos (Int32.not_le.mp c_1), if_pos c_2, if_pos c_3, if_pos c_5, if_neg (Int32.not_le.mpr c_5), if_neg c_6, if_neg c_7, if_pos c_8, if_true, ite_true, ite_false, if_true, if_false, eq_self, h77] at hK
            first | exact a_lvk (lp_cd7 h34 (by omega) hK n (r + 1) (by omega)) ⟨rfl, rfl, rfl, rfl, rfl, rfl, trivial⟩ | exact a_lvk (ih (r + 1) (by omega) hK) ⟨rfl, rfl, rfl, rfl, rfl, rfl, trivial⟩
      · refine a_aload_n d_M_count_51 rfl rfl ?_
        refine m_get d_M_count_52 f_M_58 rfl ?_
        refine a_iload d_M_count_55 rfl ?_
        refine m_iald d_M_count_57 (by decide) rfl (vp_in_nI (show r < 24 by omega) (by decide)) ?_
        rw [nI_clamp (show r < 2 ^ 31 by omega), hm.2.2.1]
        refine a_iload_n d_M_count_58 rfl rfl ?_
        refine a_icmp_ne (tgt := 66) d_M_count_59 (by decide) (fun c_10 => ?_) (fun c_10 => ?_)
        · refine a_iconst (v := 0) d_M_count_66 (by decide) ?_
          refine a_istore d_M_count_67 (by decide) ?_
          refine a_iload d_M_count_69 rfl ?_
          refine a_if_eq (tgt := 139) d_M_count_71 (by decide) (fun c_11 => ?_) (fun n9 => absurd (rfl) n9)
          refine a_iinc (c0 := 1) d_M_count_139 rfl (by decide) (by decide) ?_
          refine a_goto (tgt := 16) d_M_count_142 (by decide) ?_
          rw [nI_1]
          simp only [cuF, soR, if_neg c_1, if_pos (Int32.not_le.mp c_1), if_pos c_2, if_pos c_3, if_neg c_5, if_pos (Int32.not_lt.mp c_5), if_neg c_10, if_pos c_11, if_true, ite_true, ite_false, if_true, if_false, eq_self, h77] at hK
          first | exact a_lvk (lp_cd7 h34 (by omega) hK n (r + 1) (by omega)) ⟨rfl, rfl, rfl, rfl, rfl, rfl, trivial⟩ | exact a_lvk (ih (r + 1) (by omega) hK) ⟨rfl, rfl, rfl, rfl, rfl, rfl, trivial⟩
        · refine a_iconst (v := 1) d_M_count_62 (by decide) ?_
          refine a_goto (tgt := 67) d_M_count_63 (by decide) ?_
          refine a_istore d_M_count_67 (by decide) ?_
          refine a_iload d_M_count_69 rfl ?_
          refine a_if_eq (tgt := 139) d_M_count_71 (by decide) (fun n9 => absurd n9 (by decide)) (fun c_12 => ?_)
          refine a_aload_n d_M_count_74 rfl rfl ?_
          refine a_aload_n d_M_count_75 rfl rfl ?_
          refine m_get d_M_count_76 f_M_61 rfl ?_
          refine a_iload d_M_count_79 rfl ?_
          refine m_iald d_M_count_81 (by decide) rfl (vp_in_nI (show r < 24 by omega) (by decide)) ?_
          rw [nI_clamp (show r < 2 ^ 31 by omega), hm.2.2.2.1]
          refine a_aload_n d_M_count_82 rfl rfl ?_
          refine m_get d_M_count_83 f_M_64 rfl ?_
          refine a_iload d_M_count_86 rfl ?_
          refine m_iald d_M_count_88 (by decide) rfl (vp_in_nI (show r < 24 by omega) (by decide)) ?_
          rw [nI_clamp (show r < 2 ^ 31 by omega), hm.2.2.2.2]
          refine a_iload_n d_M_count_89 rfl rfl ?_
          apply a_callV (ci := 7) 1 25 [_, _, _] _ d_M_count_90 l_M_340 ⟨im_M_hold, se_M_hold⟩ rfl rfl rfl rfl (Nat.le_of_ble_eq_true rfl) ⟨Nat.le_of_ble_eq_true rfl, Nat.le_of_ble_eq_true rfl⟩
          · (exact mk_O)
          refine sp_M_hold (c := c) (S := S) hq.2.2.2 hc.1.2.2.1 hc.2.1 hc.2.2.1 hc.2.2.2 ?_
          refine a_if_eq (tgt := 139) d_M_count_93 (by decide) (fun c_13 => ?_) (fun c_13 => ?_)
          · refine a_iinc (c0 := 1) d_M_count_139 rfl (by decide) (by decide) ?_
            refine a_goto (tgt := 16) d_M_count_142 (by decide) ?_
            rw [nI_1]
            simp only [cuF, soR, if_neg c_1, if_pos (Int32.not_le.mp c_1), if_pos c_2, if_pos c_3, if_neg c_5, if_pos (Int32.not_lt.mp c_5), if_pos c_10, if_neg c_12, if_pos c_13, if_true, ite_true, ite_false, if_true, if_false, eq_self, h77] at hK
            first | exact a_lvk (lp_cd7 h34 (by omega) hK n (r + 1) (by omega)) ⟨rfl, rfl, rfl, rfl, rfl, rfl, trivial⟩ | exact a_lvk (ih (r + 1) (by omega) hK) ⟨rfl, rfl, rfl, rfl, rfl, rfl, trivial⟩
          · refine a_iconst (v := 1) d_M_count_96 (by decide) ?_
            refine a_istore d_M_count_97 (by decide) ?_
            refine a_aload_n d_M_count_99 rfl rfl ?_
            refine a_iload_n d_M_count_100 rfl rfl ?_
            refine a_aload_n d_M_count_101 rfl rfl ?_
            refine m_get d_M_count_102 f_M_54 rfl ?_
            refine a_iload d_M_count_105 rfl ?_
            refine m_zald d_M_count_107 (by decide) rfl (vp_in_nI (show r < 24 by omega) (by decide)) ?_
            rw [nI_clamp (show r < 2 ^ 31 by omega), hm.2.1]
            refine a_if_ne (tgt := 115) d_M_count_108 (by decide) (fun c_14 => ?_) (fun c_14 => ?_)
            · refine a_aload_n d_M_count_115 rfl rfl ?_
              refine a_iload_n d_M_count_116 rfl rfl ?_
              refine m_iald d_M_count_117 (by decide) rfl (vp_in_nI (show k < 6 by omega) (by decide)) ?_
              rw [nI_clamp (show k < 2 ^ 31 by omega), h77]
              refine a_aload_n d_M_count_118 rfl rfl ?_
              refine m_get d_M_count_119 f_M_48 rfl ?_
              refine a_iload_n d_M_count_122 rfl rfl ?_
              refine m_iald d_M_count_123 (by decide) rfl (vp_in_nI (show k < 6 by omega) (by decide)) ?_
              rw [nI_clamp (show k < 2 ^ 31 by omega), hmo]
              refine a_icmp_ge (tgt := 135) d_M_count_124 (by decide) (fun c_15 => ?_) (fun c_15 => ?_)
              · refine a_aload_n d_M_count_135 rfl rfl ?_
                refine a_iload_n d_M_count_136 rfl rfl ?_
                refine m_iald d_M_count_137 (by decide) rfl (vp_in_nI (show k < 6 by omega) (by decide)) ?_
                rw [nI_clamp (show k < 2 ^ 31 by omega), h77]
                refine m_iast d_M_count_138 (by decide) rfl (vp_in_nI (show k < 6 by omega) (by decide)) ?_
                rw [nI_clamp (show k < 2 ^ 31 by omega), s7_sA]
                refine a_iinc (c0 := 1) d_M_count_139 rfl (by decide) (by decide) ?_
                refine a_goto (tgt := 16) d_M_count_142 (by decide) ?_
                rw [nI_1]
                simp only [cuF, soR, if_neg c_1, if_pos (Int32.not_le.mp c_1), if_pos c_2, if_pos c_3, if_neg c_5, if_pos (Int32.not_lt.mp c_5), if_pos c_10, if_neg c_12, if_neg c_13, if_neg c_14, if_pos c_15, if_neg (Int32.not_lt.mpr c_15), if_true, ite_true, ite_false, if_true, if_false, eq_self, h77] at hK
                first | exact a_lvk (lp_cd7 h34 (by omega) hK n (r + 1) (by omega)) ⟨rfl, rfl, rfl, rfl, rfl, rfl, trivial⟩ | exact a_lvk (ih (r + 1) (by omega) hK) ⟨rfl, rfl, rfl, rfl, rfl, rfl, trivial⟩
              · refine a_aload_n d_M_count_127 rfl rfl ?_
                refine a_iload_n d_M_count_128 rfl rfl ?_
                refine m_iald d_M_count_129 (by decide) rfl (vp_in_nI (show k < 6 by omega) (by decide)) ?_
                rw [nI_clamp (show k < 2 ^ 31 by omega), h77]
                refine a_iconst (v := 1) d_M_count_130 (by decide) ?_
                refine a_iadd d_M_count_131 ?_
                refine a_goto (tgt := 138) d_M_count_132 (by decide) ?_
                refine m_iast d_M_count_138 (by decide) rfl (vp_in_nI (show k < 6 by omega) (by decide)) ?_
                rw [nI_clamp (show k < 2 ^ 31 by omega), s7_sA]
                refine a_iinc (c0 := 1) d_M_count_139 rfl (by decide) (by decide) ?_
                refine a_goto (tgt := 16) d_M_count_142 (by decide) ?_
                rw [nI_1]
                simp only [cuF, soR, if_neg c_1, if_pos (Int32.not_le.mp c_1), if_pos c_2, if_pos c_3, if_neg c_5, if_pos (Int32.not_lt.mp c_5), if_pos c_10, if_neg c_12, if_neg c_13, if_neg c_14, if_neg c_15, if_pos (Int32.not_le.mp c_15), if_true, ite_true, ite_false, if_true, if_false, eq_self, h77] at hK
                first | exact a_lvk (lp_cd7 h34 (by omega) hK n (r + 1) (by omega)) ⟨rfl, rfl, rfl, rfl, rfl, rfl, trivial⟩ | exact a_lvk (ih (r + 1) (by omega) hK) ⟨rfl, rfl, rfl, rfl, rfl, rfl, trivial⟩
            · refine a_iconst (v := 0) d_M_count_111 (by decide) ?_
              refine a_goto (tgt := 138) d_M_count_112 (by decide) ?_
              refine m_iast d_M_count_138 (by decide) rfl (vp_in_nI (show k < 6 by omega) (by decide)) ?_
              rw [nI_clamp (show k < 2 ^ 31 by omega), s7_sA]
              refine a_iinc (c0 := 1) d_M_count_139 rfl (by decide) (by decide) ?_
              refine a_goto (tgt := 16) d_M_count_142 (by decide) ?_
              rw [nI_1]
              simp only [cuF, soR, if_neg c_1, if_pos (Int32.not_le.mp c_1), if_pos c_2, if_pos c_3, if_neg c_5, if_pos (Int32.not_lt.mp c_5), if_pos c_10, if_neg c_12, if_neg c_13, if_pos c_14, if_true, ite_true, ite_false, if_true, if_false, eq_self, h77] at hK
              first | exact a_lvk (lp_cd7 h34 (by omega) hK n (r + 1) (by omega)) ⟨rfl, rfl, rfl, rfl, rfl, rfl, trivial⟩ | exact a_lvk (ih (r + 1) (by omega) hK) ⟨rfl, rfl, rfl, rfl, rfl, rfl, trivial⟩

set_option maxHeartbeats 1000000 in
set_option maxRecDepth 100000 in
theorem lp_co {R0 : Nat → Int32} (h : CNq c S l x) (hK : ∀ R, (∀ j, j < c.1 4 0 → R j = cuF c S l j (c.1 5 0) 0 (R0 j)) → (∀ j, c.1 4 0 ≤ j → R j = R0 j) → K none (mk σ0 m (s7 x R))) : ∀ (n k : Nat) (R : Nat → Int32), k + n = c.1 4 0 → (∀ j, j < k → R j = cuF c S l j (c.1 5 0) 0 (R0 j)) → (∀ j, k ≤ j → R j = R0 j) → a_J G m_M_count 2 50 2 [(0, .ref m), (1, .ref (m + 7)), (2, .int l.1), (3, .int (nI k))] [] (mk σ0 m (s7 x R)) K := by
  have h6 := h.2.1.1.1
  intro n
  induction n with
  | zero =>
    intro k R hk hR1 hR2
    have hN : (s7 x R).1 28 = nI (c.1 4 0) := h.1.2.2.2.1.1
    refine a_iload_n d_M_count_2 rfl rfl ?_
    refine a_aload_n d_M_count_3 rfl rfl ?_
    refine m_get d_M_count_4 f_M_236 rfl ?_
    rw [hN]
    refine a_icmp_ge (tgt := 151) d_M_count_7 (by decide) (fun c_1 => ?_) (fun n9 => absurd (nI_le (by omega) (by omega)) n9)
    exact a_return d_M_count_151 rfl (hK R (fun j hj => hR1 j (by omega)) (fun j hj => hR2 j (by omega)))
  | succ n ih =>
    intro k R hk hR1 hR2
    have hN : (s7 x R).1 28 = nI (c.1 4 0) := h.1.2.2.2.1.1
    refine a_iload_n d_M_count_2 rfl rfl ?_
    refine a_aload_n d_M_count_3 rfl rfl ?_
    refine m_get d_M_count_4 f_M_236 rfl ?_
    rw [hN]
    refine a_icmp_ge (tgt := 151) d_M_count_7 (by decide) (fun n9 => absurd n9 (nI_ge (by omega) (by omega))) (fun c_1 => ?_)
    refine a_iconst (v := 0) d_M_count_10 (by decide) ?_
    refine a_istore d_M_count_11 (by decide) ?_
    refine a_iconst (v := 0) d_M_count_13 (by decide) ?_
    refine a_istore d_M_count_14 (by decide) ?_
    refine a_lvk (lp_cu (R := R) h (show k < c.1 4 0 by omega) (c.1 5 0) 0 (by omega) ?_) ⟨rfl, rfl, rfl, rfl, rfl, rfl, trivial⟩
    refine ih (k + 1) _ (by omega) (fun j hj => ?_) (fun j hj => ?_)
    · by_cases e : j = k
      · subst e; rw [pk_us, hR2 j (Nat.le_refl _)]
      · rw [pk_un e]; exact hR1 j (by omega)
    · rw [pk_un (by omega)]; exact hR2 j (by omega)

set_option maxHeartbeats 1000000 in
set_option maxRecDepth 100000 in
theorem sp_M_count (h : CNq c S l x) (hK : ∀ R, (∀ j, j < c.1 4 0 → R j = cuF c S l j (c.1 5 0) 0 (x.2.2.1 7 j)) → (∀ j, c.1 4 0 ≤ j → R j = x.2.2.1 7 j) → K none (mk σ0 m (s7 x R))) : a_C G m_M_count 2 50 [.ref m, .ref (m + 7), .int l.1] (mk σ0 m x) K := by
  refine a_enter rfl (Nat.le_of_ble_eq_true rfl) ?_
  refine a_iconst (v := 0) d_M_count_0 (by decide) ?_
  refine a_istore_n d_M_count_1 rfl (by decide) ?_
  have e := lp_co (G := G) (R0 := x.2.2.1 7) h hK (c.1 4 0) 0 (x.2.2.1 7) (by omega) (fun j hj => absurd hj (by omega)) (fun _ _ => rfl)
  rw [s7_x] at e
  exact a_lvk e ⟨rfl, rfl, rfl, rfl, trivial⟩

set_option maxHeartbeats 1000000 in
set_option maxRecDepth 100000 in
theorem mk_L {a : Int32} (ha : a < 0) (hK : K (some (.int (-1))) (mk σ0 m (sI x 0 0))) : a_C G m_M_make 3 76 [.ref m, .int a] (mk σ0 m x) K := by
  refine a_enter rfl (Nat.le_of_ble_eq_true rfl) ?_
  refine a_aload_n d_M_make_0 rfl rfl ?_
  refine a_iconst (v := 0) d_M_make_1 (by decide) ?_
  refine m_putI d_M_make_2 p_M_115 rfl rfl (by decide) ?_
  refine a_iload_n d_M_make_5 rfl rfl ?_
  refine a_if_lt (tgt := 17) d_M_make_6 (by decide) (fun c_1 => ?_) (fun n9 => absurd (ha) n9)
  refine a_iconst (v := (-1)) d_M_make_17 (by decide) ?_
  exact a_ireturn d_M_make_18 rfl rfl hK

set_option maxHeartbeats 1000000 in
set_option maxRecDepth 100000 in
theorem mk_H {a : Int32} (ha : ¬ a < 0) (hb : x.1 36 ≤ a) (hK : K (some (.int (-1))) (mk σ0 m (sI x 0 0))) : a_C G m_M_make 3 76 [.ref m, .int a] (mk σ0 m x) K := by
  refine a_enter rfl (Nat.le_of_ble_eq_true rfl) ?_
  refine a_aload_n d_M_make_0 rfl rfl ?_
  refine a_iconst (v := 0) d_M_make_1 (by decide) ?_
  refine m_putI d_M_make_2 p_M_115 rfl rfl (by decide) ?_
  refine a_iload_n d_M_make_5 rfl rfl ?_
  refine a_if_lt (tgt := 17) d_M_make_6 (by decide) (fun n9 => absurd n9 (ha)) (fun c_1 => ?_)
  refine a_iload_n d_M_make_9 rfl rfl ?_
  refine a_aload_n d_M_make_10 rfl rfl ?_
  refine m_get d_M_make_11 f_M_242 rfl ?_
  refine a_icmp_lt (tgt := 19) d_M_make_14 (by decide) (fun n9 => absurd n9 (Int32.not_lt.mpr hb)) (fun c_2 => ?_)
  refine a_iconst (v := (-1)) d_M_make_17 (by decide) ?_
  exact a_ireturn d_M_make_18 rfl rfl hK

set_option maxHeartbeats 1000000 in
set_option maxRecDepth 100000 in
theorem lp_ms {t : Int32} {N : Nat} (hN : x.1 36 = nI N) (hN2 : N ≤ 24) : ∀ (n j : Nat) (v : Int32), j + n = N → K (some (.int (smF t n j v))) (mk σ0 m x) → a_J G m_M_make 3 76 101 [(0, .ref m), (3, .int t), (4, .int v), (5, .int (nI j))] [] (mk σ0 m x) K := by
  intro n
  induction n with
  | zero =>
    intro j v hj hK
    refine a_iload d_M_make_101 rfl ?_
    refine a_aload_n d_M_make_103 rfl rfl ?_
    refine m_get d_M_make_104 f_M_242 rfl ?_
    rw [hN]
    refine a_icmp_ge (tgt := 127) d_M_make_107 (by decide) (fun c_1 => ?_) (fun n9 => absurd (nI_le (by omega) (by omega)) n9)
    refine a_iload d_M_make_127 rfl ?_
    exact a_ireturn d_M_make_129 rfl rfl hK
  | succ n ih =>
    intro j v hj hK
    refine a_iload d_M_make_101 rfl ?_
    refine a_aload_n d_M_make_103 rfl rfl ?_
    refine m_get d_M_make_104 f_M_242 rfl ?_
    rw [hN]
    refine a_icmp_ge (tgt := 127) d_M_make_107 (by decide) (fun n9 => absurd n9 (nI_ge (by omega) (by omega))) (fun c_1 => ?_)
    refine a_iload d_M_make_110 rfl ?_
    refine a_iload_n d_M_make_112 rfl rfl ?_
    refine a_iload d_M_make_113 rfl ?_
    refine a_ishr d_M_make_115 ?_
    refine a_iconst (v := 1) d_M_make_116 (by decide) ?_
    refine a_iand d_M_make_117 ?_
    refine a_iadd d_M_make_118 ?_
    refine a_istore d_M_make_119 (by decide) ?_
    refine a_iinc (c0 := 1) d_M_make_121 rfl (by decide) (by decide) ?_
    refine a_goto (tgt := 101) d_M_make_124 (by decide) ?_
    rw [nI_1]
    exact a_lvk (ih (j + 1) _ (by omega) hK) ⟨rfl, rfl, rfl, rfl, trivial⟩

set_option maxHeartbeats 1000000 in
set_option maxRecDepth 100000 in
theorem lp_mt {k : Nat} (h : CQ c q x) (hS : ∀ k, k < c.1 4 0 → x.2.2.1 9 k = S k) (hA : MA x l) : ∀ (n w : Nat) (t : Int32), w + n = c.1 7 0 → a_J G m_M_make 3 76 86 [(0, .ref m), (2, .int l.1), (3, .int (toF c S l k n w t))] [] (mk σ0 m x) K → a_J G m_M_make 3 76 33 [(0, .ref m), (1, .int (nI k)), (2, .int l.1), (3, .int t), (4, .int (nI w))] [] (mk σ0 m x) K := by
  have hN := h.nW.1
  have h192 := h.nW.2
  intro n
  induction n with
  | zero =>
    intro w t hw hK
    refine a_iload d_M_make_33 rfl ?_
    refine a_aload_n d_M_make_35 rfl rfl ?_
    refine m_get d_M_make_36 f_M_245 rfl ?_
    rw [hN]
    refine a_icmp_ge (tgt := 86) d_M_make_39 (by decide) (fun c_1 => ?_) (fun n9 => absurd (nI_le (by omega) (by omega)) n9)
    exact a_lvk hK ⟨rfl, rfl, rfl, trivial⟩
  | succ n ih =>
    intro w t hw hK
    have hm := h.2.1.2.2.2.2.2.2.1.2 w (by omega)
    refine a_iload d_M_make_33 rfl ?_
    refine a_aload_n d_M_make_35 rfl rfl ?_
    refine m_get d_M_make_36 f_M_245 rfl ?_
    rw [hN]
    refine a_icmp_ge (tgt := 86) d_M_make_39 (by decide) (fun n9 => absurd n9 (nI_ge (by omega) (by omega))) (fun c_1 => ?_)
    refine a_iload_n d_M_make_42 rfl rfl ?_
    refine a_aload_n d_M_make_43 rfl rfl ?_
    refine m_get d_M_make_44 f_M_70 rfl ?_
    refine a_iload d_M_make_47 rfl ?_
    refine m_iald d_M_make_49 (by decide) rfl (vp_in_nI (show w < 192 by omega) (by decide)) ?_
    rw [nI_clamp (show w < 2 ^ 31 by omega), hm.1]
    refine a_iload_n d_M_make_50 rfl rfl ?_
    refine a_icmp_ne (tgt := 77) d_M_make_51 (by decide) (fun c_2 => ?_) (fun c_2 => ?_)
    · refine a_iconst (v := 0) d_M_make_77 (by decide) ?_
      refine a_ior d_M_make_78 ?_
      refine a_istore_n d_M_make_79 rfl (by decide) ?_
      refine a_iinc (c0 := 1) d_M_make_80 rfl (by decide) (by decide) ?_
      refine a_goto (tgt := 33) d_M_make_83 (by decide) ?_
      rw [nI_1]
      simp only [toF, if_neg c_1, if_pos (Int32.not_le.mp c_1), if_neg c_2, if_true] at hK
      exact a_lvk (ih (w + 1) _ (by omega) hK) ⟨rfl, rfl, rfl, rfl, rfl, trivial⟩
    · refine a_aload_n d_M_make_54 rfl rfl ?_
      refine a_iconst (v := 1) d_M_make_55 (by decide) ?_
      refine a_iload d_M_make_56 rfl ?_
      refine a_iload_n d_M_make_58 rfl rfl ?_
      apply a_callV (ci := 7) 2 50 [_, _, _] _ d_M_make_59 l_M_362 ⟨im_M_isSo, se_M_isSo⟩ rfl rfl rfl rfl (Nat.le_of_ble_eq_true rfl) ⟨Nat.le_of_ble_eq_true rfl, Nat.le_of_ble_eq_true rfl⟩
      · (exact mk_O)
      refine sp_M_isSo1 (S := S) (by decide) h (show w < c.1 7 0 by omega) hS hA ?_
      refine a_if_eq (tgt := 77) d_M_make_62 (by decide) (fun c_3 => ?_) (fun c_3 => ?_)
      · refine a_iconst (v := 0) d_M_make_77 (by decide) ?_
        refine a_ior d_M_make_78 ?_
        refine a_istore_n d_M_make_79 rfl (by decide) ?_
        refine a_iinc (c0 := 1) d_M_make_80 rfl (by decide) (by decide) ?_
        refine a_goto (tgt := 33) d_M_make_83 (by decide) ?_
        rw [nI_1]
        simp only [toF, if_neg c_1, if_pos (Int32.not_le.mp c_1), if_pos c_2, if_pos c_3, if_true] at hK
        exact a_lvk (ih (w + 1) _ (by omega) hK) ⟨rfl, rfl, rfl, rfl, rfl, trivial⟩
      · refine a_iconst (v := 1) d_M_make_65 (by decide) ?_
        refine a_aload_n d_M_make_66 rfl rfl ?_
        refine m_get d_M_make_67 f_M_85 rfl ?_
        refine a_iload d_M_make_70 rfl ?_
        refine m_iald d_M_make_72 (by decide) rfl (vp_in_nI (show w < 192 by omega) (by decide)) ?_
        rw [nI_clamp (show w < 2 ^ 31 by omega), wt_of h.2.2.1 h.2.1 (show w < c.1 7 0 by omega)]
        refine a_ishl d_M_make_73 ?_
        refine a_goto (tgt := 78) d_M_make_74 (by decide) ?_
        refine a_ior d_M_make_78 ?_
        refine a_istore_n d_M_make_79 rfl (by decide) ?_
        refine a_iinc (c0 := 1) d_M_make_80 rfl (by decide) (by decide) ?_
        refine a_goto (tgt := 33) d_M_make_83 (by decide) ?_
        rw [nI_1]
        simp only [toF, if_neg c_1, if_pos (Int32.not_le.mp c_1), if_pos c_2, if_neg c_3, if_true] at hK
        exact a_lvk (ih (w + 1) _ (by omega) hK) ⟨rfl, rfl, rfl, rfl, rfl, trivial⟩

set_option maxHeartbeats 1000000 in
set_option maxRecDepth 100000 in
theorem mk_86 {t : Int32} (h : CQ c q x) (hS : ∀ k, k < c.1 4 0 → x.2.2.1 9 k = S k) (hA : MA x l) (hK : ∀ R, (∀ j, j < c.1 4 0 → R j = cuF c S l j (c.1 5 0) 0 (x.2.2.1 7 j)) → (∀ j, c.1 4 0 ≤ j → R j = x.2.2.1 7 j) → K (some (.int (smF t (c.1 6 0) 0 0))) (mk σ0 m (s7 x R))) : a_J G m_M_make 3 76 86 [(0, .ref m), (2, .int l.1), (3, .int t)] [] (mk σ0 m x) K := by
  refine a_aload_n d_M_make_86 rfl rfl ?_
  refine a_aload_n d_M_make_87 rfl rfl ?_
  refine m_get d_M_make_88 f_M_32 rfl ?_
  refine a_iload_n d_M_make_91 rfl rfl ?_
  apply a_callV (ci := 7) 2 50 [_, _] _ d_M_make_92 l_M_366 ⟨im_M_count, se_M_count⟩ rfl rfl rfl rfl (Nat.le_of_ble_eq_true rfl) ⟨Nat.le_of_ble_eq_true rfl, Nat.le_of_ble_eq_true rfl⟩
  · (exact mk_O)
  refine sp_M_count ⟨h.2.1, h.2.2.1, hS, hA⟩ (fun R h1 h2 => ?_)
  refine a_iconst (v := 0) d_M_make_95 (by decide) ?_
  refine a_istore d_M_make_96 (by decide) ?_
  refine a_iconst (v := 0) d_M_make_98 (by decide) ?_
  refine a_istore d_M_make_99 (by decide) ?_
  exact a_lvk (lp_ms (x := s7 x R) (show (s7 x R).1 36 = nI (c.1 6 0) from h.nN.1) h.nN.2 (c.1 6 0) 0 0 (by omega) (hK R h1 h2)) ⟨rfl, rfl, rfl, rfl, trivial⟩

set_option maxHeartbeats 1000000 in
set_option maxRecDepth 100000 in
theorem mk_I {k : Nat} (h : CQ c q x) (hA : MA x l) (hk : k < c.1 6 0) (hK : ∀ z, CPY 9 7 (sI x 0 0) z 6 → ∀ R, (∀ j, j < c.1 4 0 → R j = cuF c (q.2.2 6) l j (c.1 5 0) 0 (z.2.2.1 7 j)) → (∀ j, c.1 4 0 ≤ j → R j = z.2.2.1 7 j) → K (some (.int (smF (toF c (q.2.2 6) l k (c.1 7 0) 0 0) (c.1 6 0) 0 0))) (mk σ0 m (s7 z R))) : a_C G m_M_make 3 76 [.ref m, .int (nI k)] (mk σ0 m x) K := by
  have h24 := h.nN.2
  refine a_enter rfl (Nat.le_of_ble_eq_true rfl) ?_
  refine a_aload_n d_M_make_0 rfl rfl ?_
  refine a_iconst (v := 0) d_M_make_1 (by decide) ?_
  refine m_putI d_M_make_2 p_M_115 rfl rfl (by decide) ?_
  refine a_iload_n d_M_make_5 rfl rfl ?_
  refine a_if_lt (tgt := 17) d_M_make_6 (by decide) (fun n9 => absurd n9 (nI_pos (by omega))) (fun c_1 => ?_)
  refine a_iload_n d_M_make_9 rfl rfl ?_
  refine a_aload_n d_M_make_10 rfl rfl ?_
  refine m_get d_M_make_11 f_M_242 rfl ?_
  refine a_icmp_lt (tgt := 19) d_M_make_14 (by decide) (fun c_2 => ?_) (fun n9 => absurd ((show nI k < x.1 36 by rw [h.nN.1]; exact nI_lt hk (by omega))) n9)
  refine a_aload_n d_M_make_19 rfl rfl ?_
  refine m_get d_M_make_20 f_M_356 rfl ?_
  rw [show (sI x 0 0).1 14 = l.1 from hA.1]
  refine a_istore_n d_M_make_23 rfl (by decide) ?_
  refine a_aload_n d_M_make_24 rfl rfl ?_
  apply a_callV (ci := 7) 0 0 [] _ d_M_make_25 l_M_359 ⟨im_M_ask, se_M_ask⟩ rfl rfl rfl rfl (Nat.le_of_ble_eq_true rfl) ⟨Nat.le_of_ble_eq_true rfl, Nat.le_of_ble_eq_true rfl⟩
  · (exact mk_O)
  refine sp_M_ask (fun z hz => ?_)
  have hz1 : z.1 14 = l.1 := (MA_cp (MA_0 hA 0) hz).1
  refine a_iconst (v := 0) d_M_make_28 (by decide) ?_
  refine a_istore_n d_M_make_29 rfl (by decide) ?_
  refine a_iconst (v := 0) d_M_make_30 (by decide) ?_
  refine a_istore d_M_make_31 (by decide) ?_
  refine a_lvk (lp_mt (CQ_cp (CQ_0 h 0) hz) (CP_S (CQ_0 h 0) hz) (MA_cp (MA_0 hA 0) hz) (c.1 7 0) 0 0 (by omega) ?_) ⟨rfl, rfl, rfl, rfl, rfl, trivial⟩
  exact mk_86 (CQ_cp (CQ_0 h 0) hz) (CP_S (CQ_0 h 0) hz) (MA_cp (MA_0 hA 0) hz) (fun R h1 h2 => hK z hz R h1 h2)

end ModM27
