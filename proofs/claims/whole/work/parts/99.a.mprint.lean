/-! THE MODEL: print -/
def ruP (c : aN) (r : Nat) : List Nat := [32] ++ ([40] ++ ((if nI (c.1 26 r) = 0 then jS 39 else jS 38) ++ (clM c (c.1 25 r) (c.1 27 r) (c.1 28 r) ++ [41])))
def ruM (c : aN) (k : Nat) : Nat → Nat → List Nat
  | 0, _ => []
  | n + 1, r => (if nI (c.1 23 r) = nI k then ruP c r else []) ++ ruM c k n (r + 1)
def coM (c : aN) (k : Nat) : List Nat := [40] ++ (jS 37 ++ ([32] ++ (c.2.1 0 k ++ ([32] ++ (numB (nI (c.1 20 k)) ++ (ruM c k (c.1 5 0) 0 ++ ([41] ++ [10])))))))
def cosM (c : aN) : Nat → Nat → List Nat
  | 0, _ => []
  | n + 1, k => coM c k ++ cosM c n (k + 1)
def wyP (c : aN) (r : Nat) : List Nat := [32] ++ ([40] ++ (jS 41 ++ (clM c (c.1 31 r) (c.1 32 r) (c.1 33 r) ++ ([32] ++ (c.2.1 1 (c.1 34 r) ++ [41])))))
def wyM (c : aN) (k : Nat) : Nat → Nat → List Nat
  | 0, _ => []
  | n + 1, r => (if nI (c.1 29 r) = nI k then wyP c r else []) ++ wyM c k n (r + 1)
def ndM (c : aN) (k : Nat) : List Nat := [40] ++ (jS 40 ++ ([32] ++ (c.2.1 1 k ++ (wyM c k (c.1 7 0) 0 ++ ([41] ++ [10])))))
def ndsM (c : aN) : Nat → Nat → List Nat
  | 0, _ => []
  | n + 1, k => ndM c k ++ ndsM c n (k + 1)
def prM (c : aN) : List Nat := cosM c (c.1 4 0) 0 ++ ndsM c (c.1 6 0) 0
theorem sI_at {x : aX} {k : Nat} {v : Int32} : (sI x k v).1 k = v := by
  show upd x.1 k v k = v
  exact pk_us
section ModM30
variable {G : aG} {σ0 : aS} {K : Option Value → aS → Prop} {m : Nat} {x : aX} {c : aN} {L : List Nat} {t : Int32}
set_option maxHeartbeats 1000000 in
set_option maxRecDepth 100000 in
theorem lp_M_ru {k : Nat} (h : ML c x (c.1 9 0)) (hF : FQ c) (hE : NE c) : ∀ (n r : Nat) (L : List Nat), r + n = c.1 5 0 → (L ++ ruM c k n r).length ≤ 16384 → a_J G m_M_print 6 131 138 [(0, .ref m), (1, .int (nI k))] [] (mk σ0 m (pX x (L ++ ruM c k n r) 2)) K → a_J G m_M_print 6 131 64 [(0, .ref m), (1, .int (nI k)), (2, .int (nI r))] [] (mk σ0 m (pX x (L) 2)) K := by
  have h24 := hF.2.2.2.2.2.1.2.1
  have hN : x.1 34 = nI (c.1 5 0) := h.2.2.2.2.2.1.1
  intro n
  induction n with
  | zero =>
    intro r L hr hB hK
    refine a_iload_n d_M_print_64 rfl rfl ?_
    refine a_aload_n d_M_print_65 rfl rfl ?_
    refine m_get d_M_print_66 f_M_239 rfl ?_
    rw [pX_k (by decide) (by decide), hN]
    refine a_icmp_ge (tgt := 138) d_M_print_69 (by decide) (fun c_1 => ?_) (fun n9 => absurd (nI_le (by omega) (by omega)) n9)
    rw [ruM, List.append_nil] at hK
    exact a_lvk hK ⟨rfl, rfl, trivial⟩
  | succ n ih =>
    intro r L hr hB hK
    have hm := h.2.2.2.2.2.1.2 r (by omega)
    have hq := hF.2.1 r (by omega)
    have hcl := (hF.2.2.2.2.2.2.1 r).2.1
    refine a_iload_n d_M_print_64 rfl rfl ?_
    refine a_aload_n d_M_print_65 rfl rfl ?_
    refine m_get d_M_print_66 f_M_239 rfl ?_
    rw [pX_k (by decide) (by decide), hN]
    refine a_icmp_ge (tgt := 138) d_M_print_69 (by decide) (fun n9 => absurd n9 (nI_ge (by omega) (by omega))) (fun c_1 => ?_)
    refine a_aload_n d_M_print_72 rfl rfl ?_
    refine m_get d_M_print_73 f_M_51 rfl ?_
    refine a_iload_n d_M_print_76 rfl rfl ?_
    refine m_iald d_M_print_77 (by decide) rfl (vp_in_nI (show r < 24 by omega) (by decide)) ?_
    rw [nI_clamp (show r < 2 ^ 31 by omega), pX_r (by decide), hm.1]
    refine a_iload_n d_M_print_78 rfl rfl ?_
    refine a_icmp_ne (tgt := 132) d_M_print_79 (by decide) (fun c_2 => ?_) (fun c_2 => ?_)
    · refine a_iinc (c0 := 1) d_M_print_132 rfl (by decide) (by decide) ?_
      refine a_goto (tgt := 64) d_M_print_135 (by decide) ?_
      rw [nI_1]
      try simp only [ruM, if_neg c_1, if_pos (Int32.not_le.mp c_1), if_neg c_2, if_true, List.nil_append] at hB hK
      exact a_lvk (ih (r + 1) _ (by omega) (by simpa only [List.append_assoc] using hB) (by simpa only [List.append_assoc] using hK)) ⟨rfl, rfl, rfl, trivial⟩
    · simp only [ruM, ruP, if_neg c_1, if_pos (Int32.not_le.mp c_1), if_pos c_2, if_true] at hB hK
      refine a_aload_n d_M_print_82 rfl rfl ?_
      apply a_callV (ci := 7) 2 42 [] _ d_M_print_83 l_M_320 ⟨im_M_open, se_M_open⟩ rfl rfl rfl rfl (Nat.le_of_ble_eq_true rfl) ⟨Nat.le_of_ble_eq_true rfl, Nat.le_of_ble_eq_true rfl⟩
      · (exact mk_O)
      refine oP_s (by simp only [List.length_append, List.length_cons, List.length_nil] at hB ⊢; omega) ?_
      refine a_aload_n d_M_print_86 rfl rfl ?_
      refine a_aload_n d_M_print_87 rfl rfl ?_
      refine m_get d_M_print_88 f_M_54 rfl ?_
      refine a_iload_n d_M_print_91 rfl rfl ?_
      refine m_zald d_M_print_92 (by decide) rfl (vp_in_nI (show r < 24 by omega) (by decide)) ?_
      rw [nI_clamp (show r < 2 ^ 31 by omega), pX_r (by decide), hm.2.1]
      refine a_if_eq (tgt := 101) d_M_print_93 (by decide) (fun c_3 => ?_) (fun c_3 => ?_)
      · simp only [if_neg c_1, if_pos (Int32.not_le.mp c_1), if_pos c_2, if_pos c_3, if_true] at hB hK
        refine a_ldcS 39 d_M_print_101 (by decide) rfl rfl ?_
        apply a_callV (ci := 7) 4 85 [_] _ d_M_print_103 l_M_313 ⟨im_M_word, se_M_word⟩ rfl rfl rfl rfl (Nat.le_of_ble_eq_true rfl) ⟨Nat.le_of_ble_eq_true rfl, Nat.le_of_ble_eq_true rfl⟩
        · (exact mk_O)
        refine wD_n (by decide) (by simp only [List.length_append, List.length_cons, List.length_nil] at hB ⊢; omega) ?_
        refine a_aload_n d_M_print_106 rfl rfl ?_
        refine a_aload_n d_M_print_107 rfl rfl ?_
        refine m_get d_M_print_108 f_M_58 rfl ?_
        refine a_iload_n d_M_print_111 rfl rfl ?_
        refine m_iald d_M_print_112 (by decide) rfl (vp_in_nI (show r < 24 by omega) (by decide)) ?_
        rw [nI_clamp (show r < 2 ^ 31 by omega), pX_r (by decide), hm.2.2.1]
        refine a_aload_n d_M_print_113 rfl rfl ?_
        refine m_get d_M_print_114 f_M_61 rfl ?_
        refine a_iload_n d_M_print_117 rfl rfl ?_
        refine m_iald d_M_print_118 (by decide) rfl (vp_in_nI (show r < 24 by omega) (by decide)) ?_
        rw [nI_clamp (show r < 2 ^ 31 by omega), pX_r (by decide), hm.2.2.2.1]
        refine a_aload_n d_M_print_119 rfl rfl ?_
        refine m_get d_M_print_120 f_M_64 rfl ?_
        refine a_iload_n d_M_print_123 rfl rfl ?_
        refine m_iald d_M_print_124 (by decide) rfl (vp_in_nI (show r < 24 by omega) (by decide)) ?_
        rw [nI_clamp (show r < 2 ^ 31 by omega), pX_r (by decide), hm.2.2.2.2]
        apply a_callV (ci := 7) 5 107 [_, _, _] _ d_M_print_125 l_M_330 ⟨im_M_clauseOut, se_M_clauseOut⟩ rfl rfl rfl rfl (Nat.le_of_ble_eq_true rfl) ⟨Nat.le_of_ble_eq_true rfl, Nat.le_of_ble_eq_true rfl⟩
        · (exact mk_O)
        refine sp_M_clauseOut (c := c) hcl (by omega) h.2.2.1 h.2.2.2.1 hF hE (by simp only [List.length_append, List.length_cons, List.length_nil] at hB ⊢; omega) ?_
        refine a_aload_n d_M_print_128 rfl rfl ?_
        apply a_callV (ci := 7) 2 42 [] _ d_M_print_129 l_M_327 ⟨im_M_close, se_M_close⟩ rfl rfl rfl rfl (Nat.le_of_ble_eq_true rfl) ⟨Nat.le_of_ble_eq_true rfl, Nat.le_of_ble_eq_true rfl⟩
        · (exact mk_O)
        refine cl_o (by simp only [List.length_append, List.length_cons, List.length_nil] at hB ⊢; omega) ?_
        refine a_iinc (c0 := 1) d_M_print_132 rfl (by decide) (by decide) ?_
        refine a_goto (tgt := 64) d_M_print_135 (by decide) ?_
        rw [nI_1]
        try simp only [ruM, if_neg c_1, if_pos (Int32.not_le.mp c_1), if_pos c_2, if_pos c_3, if_true, List.nil_append] at hB hK
        exact a_lvk (ih (r + 1) _ (by omega) (by simpa only [List.append_assoc] using hB) (by simpa only [List.append_assoc] using hK)) ⟨rfl, rfl, rfl, trivial⟩
      · simp only [if_neg c_1, if_pos (Int32.not_le.mp c_1), if_pos c_2, if_neg c_3, if_true] at hB hK
        refine a_ldcS 38 d_M_print_96 (by decide) rfl rfl ?_
        refine a_goto (tgt := 103) d_M_print_98 (by decide) ?_
        apply a_callV (ci := 7) 4 85 [_] _ d_M_print_103 l_M_313 ⟨im_M_word, se_M_word⟩ rfl rfl rfl rfl (Nat.le_of_ble_eq_true rfl) ⟨Nat.le_of_ble_eq_true rfl, Nat.le_of_ble_eq_true rfl⟩
        · (exact mk_O)
        refine wD_n (by decide) (by simp only [List.length_append, List.length_cons, List.length_nil] at hB ⊢; omega) ?_
        refine a_aload_n d_M_print_106 rfl rfl ?_
        refine a_aload_n d_M_print_107 rfl rfl ?_
        refine m_get d_M_print_108 f_M_58 rfl ?_
        refine a_iload_n d_M_print_111 rfl rfl ?_
        refine m_iald d_M_print_112 (by decide) rfl (vp_in_nI (show r < 24 by omega) (by decide)) ?_
        rw [nI_clamp (show r < 2 ^ 31 by omega), pX_r (by decide), hm.2.2.1]
        refine a_aload_n d_M_print_113 rfl rfl ?_
        refine m_get d_M_print_114 f_M_61 rfl ?_
        refine a_iload_n d_M_print_117 rfl rfl ?_
        refine m_iald d_M_print_118 (by decide) rfl (vp_in_nI (show r < 24 by omega) (by decide)) ?_
        rw [nI_clamp (show r < 2 ^ 31 by omega), pX_r (by decide), hm.2.2.2.1]
        refine a_aload_n d_M_print_119 rfl rfl ?_
        refine m_get d_M_print_120 f_M_64 rfl ?_
        refine a_iload_n d_M_print_123 rfl rfl ?_
        refine m_iald d_M_print_124 (by decide) rfl (vp_in_nI (show r < 24 by omega) (by decide)) ?_
        rw [nI_clamp (show r < 2 ^ 31 by omega), pX_r (by decide), hm.2.2.2.2]
        apply a_callV (ci := 7) 5 107 [_, _, _] _ d_M_print_125 l_M_330 ⟨im_M_clauseOut, se_M_clauseOut⟩ rfl rfl rfl rfl (Nat.le_of_ble_eq_true rfl) ⟨Nat.le_of_ble_eq_true rfl, Nat.le_of_ble_eq_true rfl⟩
        · (exact mk_O)
        refine sp_M_clauseOut (c := c) hcl (by omega) h.2.2.1 h.2.2.2.1 hF hE (by simp only [List.length_append, List.length_cons, List.length_nil] at hB ⊢; omega) ?_
        refine a_aload_n d_M_print_128 rfl rfl ?_
        apply a_callV (ci := 7) 2 42 [] _ d_M_print_129 l_M_327 ⟨im_M_close, se_M_close⟩ rfl rfl rfl rfl (Nat.le_of_ble_eq_true rfl) ⟨Nat.le_of_ble_eq_true rfl, Nat.le_of_ble_eq_true rfl⟩
        · (exact mk_O)
        refine cl_o (by simp only [List.length_append, List.length_cons, List.length_nil] at hB ⊢; omega) ?_
        refine a_iinc (c0 := 1) d_M_print_132 rfl (by decide) (by decide) ?_
        refine a_goto (tgt := 64) d_M_print_135 (by decide) ?_
        rw [nI_1]
        try simp only [ruM, if_neg c_1, if_pos (Int32.not_le.mp c_1), if_pos c_2, if_neg c_3, if_true, List.nil_append] at hB hK
        exact a_lvk (ih (r + 1) _ (by omega) (by simpa only [List.append_assoc] using hB) (by simpa only [List.append_assoc] using hK)) ⟨rfl, rfl, rfl, trivial⟩

set_option maxHeartbeats 1000000 in
set_option maxRecDepth 100000 in
theorem lp_M_wy {k : Nat} (h : ML c x (c.1 9 0)) (hF : FQ c) (hE : NE c) : ∀ (n r : Nat) (L : List Nat), r + n = c.1 7 0 → (L ++ wyM c k n r).length ≤ 16384 → a_J G m_M_print 6 131 276 [(0, .ref m), (1, .int (nI k))] [] (mk σ0 m (pX x (L ++ wyM c k n r) 2)) K → a_J G m_M_print 6 131 190 [(0, .ref m), (1, .int (nI k)), (2, .int (nI r))] [] (mk σ0 m (pX x (L) 2)) K := by
  have h24 := hF.2.2.2.2.2.1.2.2
  have h6 := hF.1.2.1
  have hN : x.1 43 = nI (c.1 7 0) := h.2.2.2.2.2.2.1.1
  intro n
  induction n with
  | zero =>
    intro r L hr hB hK
    refine a_iload_n d_M_print_190 rfl rfl ?_
    refine a_aload_n d_M_print_191 rfl rfl ?_
    refine m_get d_M_print_192 f_M_245 rfl ?_
    rw [pX_k (by decide) (by decide), hN]
    refine a_icmp_ge (tgt := 276) d_M_print_195 (by decide) (fun c_1 => ?_) (fun n9 => absurd (nI_le (by omega) (by omega)) n9)
    rw [wyM, List.append_nil] at hK
    exact a_lvk hK ⟨rfl, rfl, trivial⟩
  | succ n ih =>
    intro r L hr hB hK
    have hm := h.2.2.2.2.2.2.1.2 r (by omega)
    have hq := hF.2.2.1 r (by omega)
    have hcl := (hF.2.2.2.2.2.2.1 r).2.2.1
    have hgo := (hF.2.2.2.2.2.2.2.2.2 r (by omega)).1
    have hnm := h.2.2.2.2.1.2 _ hgo
    have hwt := wt_of hF h (show r < c.1 7 0 by omega)
    refine a_iload_n d_M_print_190 rfl rfl ?_
    refine a_aload_n d_M_print_191 rfl rfl ?_
    refine m_get d_M_print_192 f_M_245 rfl ?_
    rw [pX_k (by decide) (by decide), hN]
    refine a_icmp_ge (tgt := 276) d_M_print_195 (by decide) (fun n9 => absurd n9 (nI_ge (by omega) (by omega))) (fun c_1 => ?_)
    refine a_aload_n d_M_print_198 rfl rfl ?_
    refine m_get d_M_print_199 f_M_70 rfl ?_
    refine a_iload_n d_M_print_202 rfl rfl ?_
    refine m_iald d_M_print_203 (by decide) rfl (vp_in_nI (show r < 192 by omega) (by decide)) ?_
    rw [nI_clamp (show r < 2 ^ 31 by omega), pX_r (by decide), hm.1]
    refine a_iload_n d_M_print_204 rfl rfl ?_
    refine a_icmp_ne (tgt := 270) d_M_print_205 (by decide) (fun c_2 => ?_) (fun c_2 => ?_)
    · refine a_iinc (c0 := 1) d_M_print_270 rfl (by decide) (by decide) ?_
      refine a_goto (tgt := 190) d_M_print_273 (by decide) ?_
      rw [nI_1]
      try simp only [wyM, if_neg c_1, if_pos (Int32.not_le.mp c_1), if_neg c_2, if_true, List.nil_append] at hB hK
      exact a_lvk (ih (r + 1) _ (by omega) (by simpa only [List.append_assoc] using hB) (by simpa only [List.append_assoc] using hK)) ⟨rfl, rfl, rfl, trivial⟩
    · simp only [wyM, wyP, if_neg c_1, if_pos (Int32.not_le.mp c_1), if_pos c_2, if_true] at hB hK
      refine a_aload_n d_M_print_208 rfl rfl ?_
      apply a_callV (ci := 7) 2 42 [] _ d_M_print_209 l_M_320 ⟨im_M_open, se_M_open⟩ rfl rfl rfl rfl (Nat.le_of_ble_eq_true rfl) ⟨Nat.le_of_ble_eq_true rfl, Nat.le_of_ble_eq_true rfl⟩
      · (exact mk_O)
      refine oP_s (by simp only [List.length_append, List.length_cons, List.length_nil] at hB ⊢; omega) ?_
      refine a_aload_n d_M_print_212 rfl rfl ?_
      refine a_ldcS 41 d_M_print_213 (by decide) rfl rfl ?_
      apply a_callV (ci := 7) 4 85 [_] _ d_M_print_215 l_M_313 ⟨im_M_word, se_M_word⟩ rfl rfl rfl rfl (Nat.le_of_ble_eq_true rfl) ⟨Nat.le_of_ble_eq_true rfl, Nat.le_of_ble_eq_true rfl⟩
      · (exact mk_O)
      refine wD_n (by decide) (by simp only [List.length_append, List.length_cons, List.length_nil] at hB ⊢; omega) ?_
      refine a_aload_n d_M_print_218 rfl rfl ?_
      refine a_aload_n d_M_print_219 rfl rfl ?_
      refine m_get d_M_print_220 f_M_73 rfl ?_
      refine a_iload_n d_M_print_223 rfl rfl ?_
      refine m_iald d_M_print_224 (by decide) rfl (vp_in_nI (show r < 192 by omega) (by decide)) ?_
      rw [nI_clamp (show r < 2 ^ 31 by omega), pX_r (by decide), hm.2.1]
      refine a_aload_n d_M_print_225 rfl rfl ?_
      refine m_get d_M_print_226 f_M_76 rfl ?_
      refine a_iload_n d_M_print_229 rfl rfl ?_
      refine m_iald d_M_print_230 (by decide) rfl (vp_in_nI (show r < 192 by omega) (by decide)) ?_
      rw [nI_clamp (show r < 2 ^ 31 by omega), pX_r (by decide), hm.2.2.1]
      refine a_aload_n d_M_print_231 rfl rfl ?_
      refine m_get d_M_print_232 f_M_79 rfl ?_
      refine a_iload_n d_M_print_235 rfl rfl ?_
      refine m_iald d_M_print_236 (by decide) rfl (vp_in_nI (show r < 192 by omega) (by decide)) ?_
      rw [nI_clamp (show r < 2 ^ 31 by omega), pX_r (by decide), hm.2.2.2.1]
      apply a_callV (ci := 7) 5 107 [_, _, _] _ d_M_print_237 l_M_330 ⟨im_M_clauseOut, se_M_clauseOut⟩ rfl rfl rfl rfl (Nat.le_of_ble_eq_true rfl) ⟨Nat.le_of_ble_eq_true rfl, Nat.le_of_ble_eq_true rfl⟩
      · (exact mk_O)
      refine sp_M_clauseOut (c := c) hcl (by omega) h.2.2.1 h.2.2.2.1 hF hE (by simp only [List.length_append, List.length_cons, List.length_nil] at hB ⊢; omega) ?_
      refine a_aload_n d_M_print_240 rfl rfl ?_
      refine a_aload_n d_M_print_241 rfl rfl ?_
      refine m_get d_M_print_242 f_M_67 rfl ?_
      refine a_aload_n d_M_print_245 rfl rfl ?_
      refine m_get d_M_print_246 f_M_85 rfl ?_
      refine a_iload_n d_M_print_249 rfl rfl ?_
      refine m_iald d_M_print_250 (by decide) rfl (vp_in_nI (show r < 192 by omega) (by decide)) ?_
      rw [nI_clamp (show r < 2 ^ 31 by omega), pX_r (by decide), hwt]
      refine m_lald d_M_print_251 (by decide) rfl (vp_in_nI (show c.1 34 r < 24 by omega) (by decide)) ?_
      rw [nI_clamp (show c.1 34 r < 2 ^ 31 by omega), pX_J, hnm.1]
      refine a_aload_n d_M_print_252 rfl rfl ?_
      refine m_get d_M_print_253 f_M_29 rfl ?_
      refine a_aload_n d_M_print_256 rfl rfl ?_
      refine m_get d_M_print_257 f_M_85 rfl ?_
      refine a_iload_n d_M_print_260 rfl rfl ?_
      refine m_iald d_M_print_261 (by decide) rfl (vp_in_nI (show r < 192 by omega) (by decide)) ?_
      rw [nI_clamp (show r < 2 ^ 31 by omega), pX_r (by decide), hwt]
      refine m_iald d_M_print_262 (by decide) rfl (vp_in_nI (show c.1 34 r < 24 by omega) (by decide)) ?_
      rw [nI_clamp (show c.1 34 r < 2 ^ 31 by omega), pX_r (by decide), hnm.2]
      apply a_callV (ci := 7) 2 42 [_, _] _ d_M_print_263 l_M_323 ⟨im_M_nameOut, se_M_nameOut⟩ rfl rfl rfl rfl (Nat.le_of_ble_eq_true rfl) ⟨Nat.le_of_ble_eq_true rfl, Nat.le_of_ble_eq_true rfl⟩
      · (exact mk_O)
      refine sp_M_nameOut (hF.2.2.2.2.2.2.2.1 1 _) (hE.2 _ hgo) (by simp only [List.length_append, List.length_cons, List.length_nil] at hB ⊢; omega) ?_
      refine a_aload_n d_M_print_266 rfl rfl ?_
      apply a_callV (ci := 7) 2 42 [] _ d_M_print_267 l_M_327 ⟨im_M_close, se_M_close⟩ rfl rfl rfl rfl (Nat.le_of_ble_eq_true rfl) ⟨Nat.le_of_ble_eq_true rfl, Nat.le_of_ble_eq_true rfl⟩
      · (exact mk_O)
      refine cl_o (by simp only [List.length_append, List.length_cons, List.length_nil] at hB ⊢; omega) ?_
      refine a_iinc (c0 := 1) d_M_print_270 rfl (by decide) (by decide) ?_
      refine a_goto (tgt := 190) d_M_print_273 (by decide) ?_
      rw [nI_1]
      try simp only [wyM, if_neg c_1, if_pos (Int32.not_le.mp c_1), if_pos c_2, if_true, List.nil_append] at hB hK
      exact a_lvk (ih (r + 1) _ (by omega) (by simpa only [List.append_assoc] using hB) (by simpa only [List.append_assoc] using hK)) ⟨rfl, rfl, rfl, trivial⟩

set_option maxHeartbeats 1000000 in
set_option maxRecDepth 100000 in
theorem pr_138 {k : Nat} (hB : (L ++ [41] ++ [10]).length ≤ 16384) (hK : a_J G m_M_print 6 131 17 [(0, .ref m), (1, .int (nI (k + 1)))] [] (mk σ0 m (pX x (L ++ [41] ++ [10]) 0)) K) : a_J G m_M_print 6 131 138 [(0, .ref m), (1, .int (nI k))] [] (mk σ0 m (pX x (L) 2)) K := by
  refine a_aload_n d_M_print_138 rfl rfl ?_
  apply a_callV (ci := 7) 2 42 [] _ d_M_print_139 l_M_327 ⟨im_M_close, se_M_close⟩ rfl rfl rfl rfl (Nat.le_of_ble_eq_true rfl) ⟨Nat.le_of_ble_eq_true rfl, Nat.le_of_ble_eq_true rfl⟩
  · (exact mk_O)
  refine cl_o (by simp only [List.length_append, List.length_cons, List.length_nil] at hB ⊢; omega) ?_
  refine a_aload_n d_M_print_142 rfl rfl ?_
  apply a_callV (ci := 7) 1 21 [] _ d_M_print_143 l_M_333 ⟨im_M_lineOut, se_M_lineOut⟩ rfl rfl rfl rfl (Nat.le_of_ble_eq_true rfl) ⟨Nat.le_of_ble_eq_true rfl, Nat.le_of_ble_eq_true rfl⟩
  · (exact mk_O)
  refine ln_o (by simp only [List.length_append, List.length_cons, List.length_nil] at hB ⊢; omega) ?_
  refine a_iinc (c0 := 1) d_M_print_146 rfl (by decide) (by decide) ?_
  refine a_goto (tgt := 17) d_M_print_149 (by decide) ?_
  rw [nI_1]
  exact a_lvk hK ⟨rfl, rfl, trivial⟩

set_option maxHeartbeats 1000000 in
set_option maxRecDepth 100000 in
theorem pr_276 {k : Nat} (hB : (L ++ [41] ++ [10]).length ≤ 16384) (hK : a_J G m_M_print 6 131 154 [(0, .ref m), (1, .int (nI (k + 1)))] [] (mk σ0 m (pX x (L ++ [41] ++ [10]) 0)) K) : a_J G m_M_print 6 131 276 [(0, .ref m), (1, .int (nI k))] [] (mk σ0 m (pX x (L) 2)) K := by
  refine a_aload_n d_M_print_276 rfl rfl ?_
  apply a_callV (ci := 7) 2 42 [] _ d_M_print_277 l_M_327 ⟨im_M_close, se_M_close⟩ rfl rfl rfl rfl (Nat.le_of_ble_eq_true rfl) ⟨Nat.le_of_ble_eq_true rfl, Nat.le_of_ble_eq_true rfl⟩
  · (exact mk_O)
  refine cl_o (by simp only [List.length_append, List.length_cons, List.length_nil] at hB ⊢; omega) ?_
  refine a_aload_n d_M_print_280 rfl rfl ?_
  apply a_callV (ci := 7) 1 21 [] _ d_M_print_281 l_M_333 ⟨im_M_lineOut, se_M_lineOut⟩ rfl rfl rfl rfl (Nat.le_of_ble_eq_true rfl) ⟨Nat.le_of_ble_eq_true rfl, Nat.le_of_ble_eq_true rfl⟩
  · (exact mk_O)
  refine ln_o (by simp only [List.length_append, List.length_cons, List.length_nil] at hB ⊢; omega) ?_
  refine a_iinc (c0 := 1) d_M_print_284 rfl (by decide) (by decide) ?_
  refine a_goto (tgt := 154) d_M_print_287 (by decide) ?_
  rw [nI_1]
  exact a_lvk hK ⟨rfl, rfl, trivial⟩

set_option maxHeartbeats 1000000 in
set_option maxRecDepth 100000 in
theorem lp_M_cs (h : ML c x (c.1 9 0)) (hF : FQ c) (hE : NE c) : ∀ (n k : Nat) (L : List Nat), k + n = c.1 4 0 → (L ++ cosM c n k).length ≤ 16384 → a_J G m_M_print 6 131 154 [(0, .ref m), (1, .int (nI 0))] [] (mk σ0 m (pX x (L ++ cosM c n k) 0)) K → a_J G m_M_print 6 131 17 [(0, .ref m), (1, .int (nI k))] [] (mk σ0 m (pX x (L) 0)) K := by
  have h6 := hF.1.1
  have hN : x.1 28 = nI (c.1 4 0) := h.2.2.2.1.1
  intro n
  induction n with
  | zero =>
    intro k L hk hB hK
    refine a_iload_n d_M_print_17 rfl rfl ?_
    refine a_aload_n d_M_print_18 rfl rfl ?_
    refine m_get d_M_print_19 f_M_236 rfl ?_
    rw [pX_k (by decide) (by decide), hN]
    refine a_icmp_ge (tgt := 152) d_M_print_22 (by decide) (fun c_1 => ?_) (fun n9 => absurd (nI_le (by omega) (by omega)) n9)
    refine a_iconst (v := 0) d_M_print_152 (by decide) ?_
    refine a_istore_n d_M_print_153 rfl (by decide) ?_
    rw [cosM, List.append_nil] at hK
    exact a_lvk hK ⟨rfl, rfl, trivial⟩
  | succ n ih =>
    intro k L hk hB hK
    have hm := h.2.2.2.1.2 k (by omega)
    refine a_iload_n d_M_print_17 rfl rfl ?_
    refine a_aload_n d_M_print_18 rfl rfl ?_
    refine m_get d_M_print_19 f_M_236 rfl ?_
    rw [pX_k (by decide) (by decide), hN]
    refine a_icmp_ge (tgt := 152) d_M_print_22 (by decide) (fun n9 => absurd n9 (nI_ge (by omega) (by omega))) (fun c_1 => ?_)
    refine a_aload_n d_M_print_25 rfl rfl ?_
    apply a_callV (ci := 7) 2 42 [] _ d_M_print_26 l_M_320 ⟨im_M_open, se_M_open⟩ rfl rfl rfl rfl (Nat.le_of_ble_eq_true rfl) ⟨Nat.le_of_ble_eq_true rfl, Nat.le_of_ble_eq_true rfl⟩
    · (exact mk_O)
    rw [cosM, coM] at hB hK
    refine oP_n (by simp only [List.length_append, List.length_cons, List.length_nil] at hB ⊢; omega) ?_
    refine a_aload_n d_M_print_29 rfl rfl ?_
    refine a_ldcS 37 d_M_print_30 (by decide) rfl rfl ?_
    apply a_callV (ci := 7) 4 85 [_] _ d_M_print_32 l_M_313 ⟨im_M_word, se_M_word⟩ rfl rfl rfl rfl (Nat.le_of_ble_eq_true rfl) ⟨Nat.le_of_ble_eq_true rfl, Nat.le_of_ble_eq_true rfl⟩
    · (exact mk_O)
    refine wD_n (by decide) (by simp only [List.length_append, List.length_cons, List.length_nil] at hB ⊢; omega) ?_
    refine a_aload_n d_M_print_35 rfl rfl ?_
    refine a_aload_n d_M_print_36 rfl rfl ?_
    refine m_get d_M_print_37 f_M_44 rfl ?_
    refine a_iload_n d_M_print_40 rfl rfl ?_
    refine m_lald d_M_print_41 (by decide) rfl (vp_in_nI (show k < 6 by omega) (by decide)) ?_
    rw [nI_clamp (show k < 2 ^ 31 by omega), pX_J, hm.1]
    refine a_aload_n d_M_print_42 rfl rfl ?_
    refine m_get d_M_print_43 f_M_26 rfl ?_
    refine a_iload_n d_M_print_46 rfl rfl ?_
    refine m_iald d_M_print_47 (by decide) rfl (vp_in_nI (show k < 6 by omega) (by decide)) ?_
    rw [nI_clamp (show k < 2 ^ 31 by omega), pX_r (by decide), hm.2.1]
    apply a_callV (ci := 7) 2 42 [_, _] _ d_M_print_48 l_M_323 ⟨im_M_nameOut, se_M_nameOut⟩ rfl rfl rfl rfl (Nat.le_of_ble_eq_true rfl) ⟨Nat.le_of_ble_eq_true rfl, Nat.le_of_ble_eq_true rfl⟩
    · (exact mk_O)
    refine sp_M_nameOut (hF.2.2.2.2.2.2.2.1 0 _) (hE.1 _ (show k < c.1 4 0 by omega)) (by simp only [List.length_append, List.length_cons, List.length_nil] at hB ⊢; omega) ?_
    refine a_aload_n d_M_print_51 rfl rfl ?_
    refine a_aload_n d_M_print_52 rfl rfl ?_
    refine m_get d_M_print_53 f_M_48 rfl ?_
    refine a_iload_n d_M_print_56 rfl rfl ?_
    refine m_iald d_M_print_57 (by decide) rfl (vp_in_nI (show k < 6 by omega) (by decide)) ?_
    rw [nI_clamp (show k < 2 ^ 31 by omega), pX_r (by decide), hm.2.2]
    refine a_i2l d_M_print_58 ?_
    apply a_callV (ci := 7) 2 42 [_] _ d_M_print_59 l_M_316 ⟨im_M_numberOut, se_M_numberOut⟩ rfl rfl rfl rfl (Nat.le_of_ble_eq_true rfl) ⟨Nat.le_of_ble_eq_true rfl, Nat.le_of_ble_eq_true rfl⟩
    · (exact mk_O)
    refine sp_M_numberOut (by simp only [List.length_append, List.length_cons, List.length_nil] at hB ⊢; omega) ?_
    refine a_iconst (v := 0) d_M_print_62 (by decide) ?_
    refine a_istore_n d_M_print_63 rfl (by decide) ?_
    refine a_lvk (lp_M_ru h hF hE (c.1 5 0) 0 _ (by omega) (by simp only [List.length_append, List.length_cons, List.length_nil] at hB ⊢; omega) (pr_138 (by simp only [List.length_append, List.length_cons, List.length_nil] at hB ⊢; omega) (ih (k + 1) _ (by omega) (by simpa only [List.append_assoc] using hB) (by simpa only [List.append_assoc] using hK)))) ⟨rfl, rfl, rfl, trivial⟩

set_option maxHeartbeats 1000000 in
set_option maxRecDepth 100000 in
theorem lp_M_ns (h : ML c x (c.1 9 0)) (hF : FQ c) (hE : NE c) : ∀ (n k : Nat) (L : List Nat), k + n = c.1 6 0 → (L ++ ndsM c n k).length ≤ 16384 → a_J G m_M_print 6 131 290 [(0, .ref m)] [] (mk σ0 m (pX x (L ++ ndsM c n k) 0)) K → a_J G m_M_print 6 131 154 [(0, .ref m), (1, .int (nI k))] [] (mk σ0 m (pX x (L) 0)) K := by
  have h6 := hF.1.2.1
  have hN : x.1 36 = nI (c.1 6 0) := h.2.2.2.2.1.1
  intro n
  induction n with
  | zero =>
    intro k L hk hB hK
    refine a_iload_n d_M_print_154 rfl rfl ?_
    refine a_aload_n d_M_print_155 rfl rfl ?_
    refine m_get d_M_print_156 f_M_242 rfl ?_
    rw [pX_k (by decide) (by decide), hN]
    refine a_icmp_ge (tgt := 290) d_M_print_159 (by decide) (fun c_1 => ?_) (fun n9 => absurd (nI_le (by omega) (by omega)) n9)
    rw [ndsM, List.append_nil] at hK
    exact a_lvk hK ⟨rfl, trivial⟩
  | succ n ih =>
    intro k L hk hB hK
    have hm := h.2.2.2.2.1.2 k (by omega)
    refine a_iload_n d_M_print_154 rfl rfl ?_
    refine a_aload_n d_M_print_155 rfl rfl ?_
    refine m_get d_M_print_156 f_M_242 rfl ?_
    rw [pX_k (by decide) (by decide), hN]
    refine a_icmp_ge (tgt := 290) d_M_print_159 (by decide) (fun n9 => absurd n9 (nI_ge (by omega) (by omega))) (fun c_1 => ?_)
    refine a_aload_n d_M_print_162 rfl rfl ?_
    apply a_callV (ci := 7) 2 42 [] _ d_M_print_163 l_M_320 ⟨im_M_open, se_M_open⟩ rfl rfl rfl rfl (Nat.le_of_ble_eq_true rfl) ⟨Nat.le_of_ble_eq_true rfl, Nat.le_of_ble_eq_true rfl⟩
    · (exact mk_O)
    rw [ndsM, ndM] at hB hK
    refine oP_n (by simp only [List.length_append, List.length_cons, List.length_nil] at hB ⊢; omega) ?_
    refine a_aload_n d_M_print_166 rfl rfl ?_
    refine a_ldcS 40 d_M_print_167 (by decide) rfl rfl ?_
    apply a_callV (ci := 7) 4 85 [_] _ d_M_print_169 l_M_313 ⟨im_M_word, se_M_word⟩ rfl rfl rfl rfl (Nat.le_of_ble_eq_true rfl) ⟨Nat.le_of_ble_eq_true rfl, Nat.le_of_ble_eq_true rfl⟩
    · (exact mk_O)
    refine wD_n (by decide) (by simp only [List.length_append, List.length_cons, List.length_nil] at hB ⊢; omega) ?_
    refine a_aload_n d_M_print_172 rfl rfl ?_
    refine a_aload_n d_M_print_173 rfl rfl ?_
    refine m_get d_M_print_174 f_M_67 rfl ?_
    refine a_iload_n d_M_print_177 rfl rfl ?_
    refine m_lald d_M_print_178 (by decide) rfl (vp_in_nI (show k < 24 by omega) (by decide)) ?_
    rw [nI_clamp (show k < 2 ^ 31 by omega), pX_J, hm.1]
    refine a_aload_n d_M_print_179 rfl rfl ?_
    refine m_get d_M_print_180 f_M_29 rfl ?_
    refine a_iload_n d_M_print_183 rfl rfl ?_
    refine m_iald d_M_print_184 (by decide) rfl (vp_in_nI (show k < 24 by omega) (by decide)) ?_
    rw [nI_clamp (show k < 2 ^ 31 by omega), pX_r (by decide), hm.2]
    apply a_callV (ci := 7) 2 42 [_, _] _ d_M_print_185 l_M_323 ⟨im_M_nameOut, se_M_nameOut⟩ rfl rfl rfl rfl (Nat.le_of_ble_eq_true rfl) ⟨Nat.le_of_ble_eq_true rfl, Nat.le_of_ble_eq_true rfl⟩
    · (exact mk_O)
    refine sp_M_nameOut (hF.2.2.2.2.2.2.2.1 1 _) (hE.2 _ (show k < c.1 6 0 by omega)) (by simp only [List.length_append, List.length_cons, List.length_nil] at hB ⊢; omega) ?_
    refine a_iconst (v := 0) d_M_print_188 (by decide) ?_
    refine a_istore_n d_M_print_189 rfl (by decide) ?_
    refine a_lvk (lp_M_wy h hF hE (c.1 7 0) 0 _ (by omega) (by simp only [List.length_append, List.length_cons, List.length_nil] at hB ⊢; omega) (pr_276 (by simp only [List.length_append, List.length_cons, List.length_nil] at hB ⊢; omega) (ih (k + 1) _ (by omega) (by simpa only [List.append_assoc] using hB) (by simpa only [List.append_assoc] using hK)))) ⟨rfl, rfl, rfl, trivial⟩

set_option maxHeartbeats 1000000 in
set_option maxRecDepth 100000 in
theorem lp_M_pr {N : Nat} (hN : N ≤ 8192) (hb : x.1 4 = nI N) (hK : ∀ z, CPY 2 3 x z N → K (some (.int (nI N))) (mk σ0 m z)) : ∀ (k i : Nat) (z : aX), i + k = N → CPY 2 3 x z i → a_J G m_M_print 6 131 312 [(0, .ref m), (1, .int (nI i))] [] (mk σ0 m z) K := by
  intro k
  induction k with
  | zero =>
    intro i z hk hz
    have hz2 : z.1 4 = nI N := by rw [hz.1]; exact hb
    refine a_iload_n d_M_print_312 rfl rfl ?_
    refine a_aload_n d_M_print_313 rfl rfl ?_
    refine m_get d_M_print_314 f_M_123 rfl ?_
    rw [hz2]
    refine a_icmp_ge (tgt := 338) d_M_print_317 (by decide) (fun c_1 => ?_) (fun n9 => absurd (nI_le (by omega) (by omega)) n9)
    refine a_aload_n d_M_print_338 rfl rfl ?_
    refine m_get d_M_print_339 f_M_123 rfl ?_
    rw [hz2]
    exact a_ireturn d_M_print_342 rfl rfl (hK z (by rw [show N = i by omega]; exact hz))
  | succ k ih =>
    intro i z hk hz
    have hz2 : z.1 4 = nI N := by rw [hz.1]; exact hb
    refine a_iload_n d_M_print_312 rfl rfl ?_
    refine a_aload_n d_M_print_313 rfl rfl ?_
    refine m_get d_M_print_314 f_M_123 rfl ?_
    rw [hz2]
    refine a_icmp_ge (tgt := 338) d_M_print_317 (by decide) (fun n9 => absurd n9 (nI_ge (by omega) (by omega))) (fun c_1 => ?_)
    refine a_aload_n d_M_print_320 rfl rfl ?_
    refine m_get d_M_print_321 f_M_13 rfl ?_
    refine a_iload_n d_M_print_324 rfl rfl ?_
    refine a_aload_n d_M_print_325 rfl rfl ?_
    refine m_get d_M_print_326 f_M_16 rfl ?_
    refine a_iload_n d_M_print_329 rfl rfl ?_
    refine m_iald d_M_print_330 (by decide) rfl (vp_in_nI (show i < 16384 by omega) (by decide)) ?_
    rw [nI_clamp (show i < 2 ^ 31 by omega)]
    refine m_iast d_M_print_331 (by decide) rfl (vp_in_nI (show i < 8192 by omega) (by decide)) ?_
    rw [nI_clamp (show i < 2 ^ 31 by omega)]
    refine a_iinc (c0 := 1) d_M_print_332 rfl (by decide) (by decide) ?_
    refine a_goto (tgt := 312) d_M_print_335 (by decide) ?_
    rw [nI_1]
    exact a_lvk (ih (i + 1) _ (by omega) (hz.s (by decide))) ⟨rfl, rfl, trivial⟩

set_option maxHeartbeats 1000000 in
set_option maxRecDepth 100000 in
theorem pr_290F (hL : L.length ≤ 16384) (hb : 8192 < L.length) (hK : K (some (.int (-1))) (mk σ0 m (pX x L 0))) : a_J G m_M_print 6 131 290 [(0, .ref m)] [] (mk σ0 m (pX x (L) 0)) K := by
  refine a_aload_n d_M_print_290 rfl rfl ?_
  refine m_get d_M_print_291 f_M_298 rfl ?_
  rw [pX_6]
  refine a_sipush (v := 8192) d_M_print_294 (by decide) ?_
  refine a_icmp_le (tgt := 302) d_M_print_297 (by decide) (fun n9 => absurd n9 (fun z => absurd ((nI_leI (b := 8192) (by omega) (by omega)).mp z) (by omega))) (fun c_1 => ?_)
  refine a_iconst (v := (-1)) d_M_print_300 (by decide) ?_
  exact a_ireturn d_M_print_301 rfl rfl hK

set_option maxHeartbeats 1000000 in
set_option maxRecDepth 100000 in
theorem pr_290T (hb : L.length ≤ 8192) (hK : ∀ z, CPY 2 3 (sI (pX x L 0) 4 (nI L.length)) z L.length → K (some (.int (nI L.length))) (mk σ0 m z)) : a_J G m_M_print 6 131 290 [(0, .ref m)] [] (mk σ0 m (pX x (L) 0)) K := by
  refine a_aload_n d_M_print_290 rfl rfl ?_
  refine m_get d_M_print_291 f_M_298 rfl ?_
  rw [pX_6]
  refine a_sipush (v := 8192) d_M_print_294 (by decide) ?_
  refine a_icmp_le (tgt := 302) d_M_print_297 (by decide) (fun c_1 => ?_) (fun n9 => absurd (nI_le (b := 8192) hb (by omega)) n9)
  refine a_aload_n d_M_print_302 rfl rfl ?_
  refine a_aload_n d_M_print_303 rfl rfl ?_
  refine m_get d_M_print_304 f_M_298 rfl ?_
  rw [pX_6]
  refine m_putI d_M_print_307 p_M_123 rfl rfl (by decide) ?_
  refine a_iconst (v := 0) d_M_print_310 (by decide) ?_
  refine a_istore_n d_M_print_311 rfl (by decide) ?_
  exact a_lvk (lp_M_pr (x := sI (pX x L 0) 4 (nI L.length)) hb sI_at hK L.length 0 _ (by omega) CPY.z) ⟨rfl, rfl, trivial⟩

set_option maxHeartbeats 1000000 in
set_option maxRecDepth 100000 in
theorem sp_M_print (h : ML c x (c.1 9 0)) (hF : FQ c) (hE : NE c) (hB : (prM c).length ≤ 16384) (hK0 : 8192 < (prM c).length → K (some (.int (-1))) (mk σ0 m (pX (sI x 0 0) (prM c) 0))) (hK1 : (prM c).length ≤ 8192 → ∀ z, CPY 2 3 (sI (pX (sI x 0 0) (prM c) 0) 4 (nI (prM c).length)) z (prM c).length → K (some (.int (nI (prM c).length))) (mk σ0 m z)) : a_C G m_M_print 6 131 [.ref m] (mk σ0 m x) K := by
  have hM : ML c (sI x 0 0) (c.1 9 0) := ML_keep h (fun k hk => pk_un (by omega)) (fun _ _ => rfl) rfl rfl rfl
  refine a_enter rfl (Nat.le_of_ble_eq_true rfl) ?_
  refine a_aload_n d_M_print_0 rfl rfl ?_
  refine a_iconst (v := 0) d_M_print_1 (by decide) ?_
  refine m_putI d_M_print_2 p_M_115 rfl rfl (by decide) ?_
  refine a_aload_n d_M_print_5 rfl rfl ?_
  refine a_iconst (v := 0) d_M_print_6 (by decide) ?_
  refine m_putI d_M_print_7 p_M_298 rfl rfl (by decide) ?_
  refine a_aload_n d_M_print_10 rfl rfl ?_
  refine a_iconst (v := 0) d_M_print_11 (by decide) ?_
  refine m_putI d_M_print_12 p_M_301 rfl rfl (by decide) ?_
  refine a_iconst (v := 0) d_M_print_15 (by decide) ?_
  refine a_istore_n d_M_print_16 rfl (by decide) ?_
  rw [pX_0]
  refine a_lvk (lp_M_cs hM hF hE (c.1 4 0) 0 [] (by omega) (by rw [prM, List.length_append] at hB; simpa using (show (cosM c (c.1 4 0) 0).length ≤ 16384 by omega)) (lp_M_ns hM hF hE (c.1 6 0) 0 _ (by omega) (by rw [prM] at hB; simpa only [List.nil_append] using hB) ?_)) ⟨rfl, rfl, trivial⟩
  rw [List.nil_append, show cosM c (c.1 4 0) 0 ++ ndsM c (c.1 6 0) 0 = prM c from rfl]
  by_cases z : (prM c).length ≤ 8192
  · exact pr_290T z (hK1 z)
  · exact pr_290F hB (by omega) (hK0 (by omega))

end ModM30
